section
variable {p : Program} {l : Launch} {e : Env} {s : State} {m : MethodId} {below : List Frame} {meth : Method} {c : Code} {D : va_G} {aC : Nat → ClassId} {ad : Nat → Nat}
theorem dX12_tell_0 : decode cX12_tell 0 = .ok (.aload_n 0, 1) := by decide +kernel
theorem dX12_tell_1 : decode cX12_tell 1 = .ok (.getfield 20, 3) := by decide +kernel
theorem dX12_tell_4 : decode cX12_tell 4 = .ok (.aload_n 0, 1) := by decide +kernel
theorem dX12_tell_5 : decode cX12_tell 5 = .ok (.getfield 297, 3) := by decide +kernel
theorem dX12_tell_8 : decode cX12_tell 8 = .ok (.iaload, 1) := by decide +kernel
theorem dX12_tell_9 : decode cX12_tell 9 = .ok (.tableswitch 350 20 28 #[51, 122, 188, 231, 350, 350, 350, 350, 238], 51) := by decide +kernel
theorem dX12_tell_60 : decode cX12_tell 60 = .ok (.aload_n 0, 1) := by decide +kernel
theorem dX12_tell_61 : decode cX12_tell 61 = .ok (.invokevirtual 315, 3) := by decide +kernel
theorem dX12_tell_64 : decode cX12_tell 64 = .ok (.aload_n 0, 1) := by decide +kernel
theorem dX12_tell_65 : decode cX12_tell 65 = .ok (.aload_n 0, 1) := by decide +kernel
theorem dX12_tell_66 : decode cX12_tell 66 = .ok (.getfield 40, 3) := by decide +kernel
theorem dX12_tell_69 : decode cX12_tell 69 = .ok (.aload_n 0, 1) := by decide +kernel
theorem dX12_tell_70 : decode cX12_tell 70 = .ok (.getfield 338, 3) := by decide +kernel
theorem dX12_tell_73 : decode cX12_tell 73 = .ok (.iconst 5, 1) := by decide +kernel
theorem dX12_tell_74 : decode cX12_tell 74 = .ok (.invokevirtual 365, 3) := by decide +kernel
theorem dX12_tell_77 : decode cX12_tell 77 = .ok (.istore_n 1, 1) := by decide +kernel
theorem dX12_tell_78 : decode cX12_tell 78 = .ok (.aload_n 0, 1) := by decide +kernel
theorem dX12_tell_79 : decode cX12_tell 79 = .ok (.iconst 5, 1) := by decide +kernel
theorem dX12_tell_80 : decode cX12_tell 80 = .ok (.invokevirtual 318, 3) := by decide +kernel
theorem dX12_tell_83 : decode cX12_tell 83 = .ok (.aload_n 0, 1) := by decide +kernel
theorem dX12_tell_84 : decode cX12_tell 84 = .ok (.getfield 294, 3) := by decide +kernel
theorem dX12_tell_87 : decode cX12_tell 87 = .ok (.ifCond .le 4, 3) := by decide +kernel
theorem dX12_tell_90 : decode cX12_tell 90 = .ok (.return_, 1) := by decide +kernel
theorem dX12_tell_91 : decode cX12_tell 91 = .ok (.iconst 0, 1) := by decide +kernel
theorem dX12_tell_92 : decode cX12_tell 92 = .ok (.istore_n 2, 1) := by decide +kernel
theorem dX12_tell_93 : decode cX12_tell 93 = .ok (.iload_n 2, 1) := by decide +kernel
theorem dX12_tell_94 : decode cX12_tell 94 = .ok (.iconst 4, 1) := by decide +kernel
theorem dX12_tell_95 : decode cX12_tell 95 = .ok (.if_icmp .ge 23, 3) := by decide +kernel
theorem dX12_tell_98 : decode cX12_tell 98 = .ok (.aload_n 0, 1) := by decide +kernel
theorem dX12_tell_99 : decode cX12_tell 99 = .ok (.getfield 43, 3) := by decide +kernel
theorem dX12_tell_102 : decode cX12_tell 102 = .ok (.iconst 4, 1) := by decide +kernel
theorem dX12_tell_103 : decode cX12_tell 103 = .ok (.aload_n 0, 1) := by decide +kernel
theorem dX12_tell_104 : decode cX12_tell 104 = .ok (.getfield 338, 3) := by decide +kernel
theorem dX12_tell_107 : decode cX12_tell 107 = .ok (.imul, 1) := by decide +kernel
theorem dX12_tell_108 : decode cX12_tell 108 = .ok (.iload_n 2, 1) := by decide +kernel
theorem dX12_tell_109 : decode cX12_tell 109 = .ok (.iadd, 1) := by decide +kernel
theorem dX12_tell_110 : decode cX12_tell 110 = .ok (.iconst 0, 1) := by decide +kernel
theorem dX12_tell_111 : decode cX12_tell 111 = .ok (.iastore, 1) := by decide +kernel
theorem dX12_tell_112 : decode cX12_tell 112 = .ok (.iinc 2 1, 3) := by decide +kernel
theorem dX12_tell_115 : decode cX12_tell 115 = .ok (.goto (-22), 3) := by decide +kernel
theorem dX12_tell_118 : decode cX12_tell 118 = .ok (.aload_n 0, 1) := by decide +kernel
theorem dX12_tell_119 : decode cX12_tell 119 = .ok (.dup, 1) := by decide +kernel
theorem dX12_tell_120 : decode cX12_tell 120 = .ok (.getfield 338, 3) := by decide +kernel
theorem dX12_tell_123 : decode cX12_tell 123 = .ok (.iconst 1, 1) := by decide +kernel
theorem dX12_tell_124 : decode cX12_tell 124 = .ok (.iadd, 1) := by decide +kernel
theorem dX12_tell_125 : decode cX12_tell 125 = .ok (.putfield 338, 3) := by decide +kernel
theorem dX12_tell_128 : decode cX12_tell 128 = .ok (.goto 236, 3) := by decide +kernel
theorem dX12_tell_131 : decode cX12_tell 131 = .ok (.aload_n 0, 1) := by decide +kernel
theorem dX12_tell_132 : decode cX12_tell 132 = .ok (.invokevirtual 315, 3) := by decide +kernel
theorem dX12_tell_135 : decode cX12_tell 135 = .ok (.aload_n 0, 1) := by decide +kernel
theorem dX12_tell_136 : decode cX12_tell 136 = .ok (.aload_n 0, 1) := by decide +kernel
theorem dX12_tell_137 : decode cX12_tell 137 = .ok (.getfield 46, 3) := by decide +kernel
theorem dX12_tell_140 : decode cX12_tell 140 = .ok (.aload_n 0, 1) := by decide +kernel
theorem dX12_tell_141 : decode cX12_tell 141 = .ok (.getfield 341, 3) := by decide +kernel
theorem dX12_tell_144 : decode cX12_tell 144 = .ok (.bipush 12, 2) := by decide +kernel
theorem dX12_tell_146 : decode cX12_tell 146 = .ok (.invokevirtual 365, 3) := by decide +kernel
theorem dX12_tell_149 : decode cX12_tell 149 = .ok (.istore_n 1, 1) := by decide +kernel
theorem dX12_tell_150 : decode cX12_tell 150 = .ok (.aload_n 0, 1) := by decide +kernel
theorem dX12_tell_151 : decode cX12_tell 151 = .ok (.iconst 2, 1) := by decide +kernel
theorem dX12_tell_152 : decode cX12_tell 152 = .ok (.invokevirtual 368, 3) := by decide +kernel
theorem dX12_tell_155 : decode cX12_tell 155 = .ok (.istore_n 2, 1) := by decide +kernel
theorem dX12_tell_156 : decode cX12_tell 156 = .ok (.aload_n 0, 1) := by decide +kernel
theorem dX12_tell_157 : decode cX12_tell 157 = .ok (.iconst 5, 1) := by decide +kernel
theorem dX12_tell_158 : decode cX12_tell 158 = .ok (.invokevirtual 318, 3) := by decide +kernel
theorem dX12_tell_161 : decode cX12_tell 161 = .ok (.aload_n 0, 1) := by decide +kernel
theorem dX12_tell_162 : decode cX12_tell 162 = .ok (.getfield 294, 3) := by decide +kernel
theorem dX12_tell_165 : decode cX12_tell 165 = .ok (.ifCond .le 4, 3) := by decide +kernel
theorem dX12_tell_168 : decode cX12_tell 168 = .ok (.return_, 1) := by decide +kernel
theorem dX12_tell_169 : decode cX12_tell 169 = .ok (.aload_n 0, 1) := by decide +kernel
theorem dX12_tell_170 : decode cX12_tell 170 = .ok (.getfield 49, 3) := by decide +kernel
theorem dX12_tell_173 : decode cX12_tell 173 = .ok (.aload_n 0, 1) := by decide +kernel
theorem dX12_tell_174 : decode cX12_tell 174 = .ok (.getfield 341, 3) := by decide +kernel
theorem dX12_tell_177 : decode cX12_tell 177 = .ok (.aload_n 0, 1) := by decide +kernel
theorem dX12_tell_178 : decode cX12_tell 178 = .ok (.getfield 27, 3) := by decide +kernel
theorem dX12_tell_181 : decode cX12_tell 181 = .ok (.iload_n 2, 1) := by decide +kernel
theorem dX12_tell_182 : decode cX12_tell 182 = .ok (.iaload, 1) := by decide +kernel
theorem dX12_tell_183 : decode cX12_tell 183 = .ok (.iastore, 1) := by decide +kernel
theorem dX12_tell_184 : decode cX12_tell 184 = .ok (.aload_n 0, 1) := by decide +kernel
theorem dX12_tell_185 : decode cX12_tell 185 = .ok (.dup, 1) := by decide +kernel
theorem dX12_tell_186 : decode cX12_tell 186 = .ok (.getfield 341, 3) := by decide +kernel
theorem dX12_tell_189 : decode cX12_tell 189 = .ok (.iconst 1, 1) := by decide +kernel
theorem dX12_tell_190 : decode cX12_tell 190 = .ok (.iadd, 1) := by decide +kernel
theorem dX12_tell_191 : decode cX12_tell 191 = .ok (.putfield 341, 3) := by decide +kernel
theorem dX12_tell_194 : decode cX12_tell 194 = .ok (.goto 170, 3) := by decide +kernel
theorem dX12_tell_197 : decode cX12_tell 197 = .ok (.aload_n 0, 1) := by decide +kernel
theorem dX12_tell_198 : decode cX12_tell 198 = .ok (.invokevirtual 315, 3) := by decide +kernel
theorem dX12_tell_201 : decode cX12_tell 201 = .ok (.aload_n 0, 1) := by decide +kernel
theorem dX12_tell_202 : decode cX12_tell 202 = .ok (.aload_n 0, 1) := by decide +kernel
theorem dX12_tell_203 : decode cX12_tell 203 = .ok (.getfield 52, 3) := by decide +kernel
theorem dX12_tell_206 : decode cX12_tell 206 = .ok (.aload_n 0, 1) := by decide +kernel
theorem dX12_tell_207 : decode cX12_tell 207 = .ok (.getfield 344, 3) := by decide +kernel
theorem dX12_tell_210 : decode cX12_tell 210 = .ok (.iconst 4, 1) := by decide +kernel
theorem dX12_tell_211 : decode cX12_tell 211 = .ok (.invokevirtual 365, 3) := by decide +kernel
theorem dX12_tell_214 : decode cX12_tell 214 = .ok (.istore_n 1, 1) := by decide +kernel
theorem dX12_tell_215 : decode cX12_tell 215 = .ok (.aload_n 0, 1) := by decide +kernel
theorem dX12_tell_216 : decode cX12_tell 216 = .ok (.iconst 5, 1) := by decide +kernel
theorem dX12_tell_217 : decode cX12_tell 217 = .ok (.invokevirtual 318, 3) := by decide +kernel
theorem dX12_tell_220 : decode cX12_tell 220 = .ok (.aload_n 0, 1) := by decide +kernel
theorem dX12_tell_221 : decode cX12_tell 221 = .ok (.getfield 294, 3) := by decide +kernel
theorem dX12_tell_224 : decode cX12_tell 224 = .ok (.ifCond .ne 140, 3) := by decide +kernel
theorem dX12_tell_227 : decode cX12_tell 227 = .ok (.aload_n 0, 1) := by decide +kernel
theorem dX12_tell_228 : decode cX12_tell 228 = .ok (.dup, 1) := by decide +kernel
theorem dX12_tell_229 : decode cX12_tell 229 = .ok (.getfield 344, 3) := by decide +kernel
theorem dX12_tell_232 : decode cX12_tell 232 = .ok (.iconst 1, 1) := by decide +kernel
theorem dX12_tell_233 : decode cX12_tell 233 = .ok (.iadd, 1) := by decide +kernel
theorem dX12_tell_234 : decode cX12_tell 234 = .ok (.putfield 344, 3) := by decide +kernel
theorem dX12_tell_237 : decode cX12_tell 237 = .ok (.goto 127, 3) := by decide +kernel
theorem dX12_tell_240 : decode cX12_tell 240 = .ok (.aload_n 0, 1) := by decide +kernel
theorem dX12_tell_241 : decode cX12_tell 241 = .ok (.invokevirtual 371, 3) := by decide +kernel
theorem dX12_tell_244 : decode cX12_tell 244 = .ok (.goto 120, 3) := by decide +kernel
theorem dX12_tell_247 : decode cX12_tell 247 = .ok (.aload_n 0, 1) := by decide +kernel
theorem dX12_tell_248 : decode cX12_tell 248 = .ok (.getfield 353, 3) := by decide +kernel
theorem dX12_tell_251 : decode cX12_tell 251 = .ok (.bipush 20, 2) := by decide +kernel
theorem dX12_tell_253 : decode cX12_tell 253 = .ok (.if_icmp .ne 8, 3) := by decide +kernel
theorem dX12_tell_256 : decode cX12_tell 256 = .ok (.aload_n 0, 1) := by decide +kernel
theorem dX12_tell_257 : decode cX12_tell 257 = .ok (.iconst 2, 1) := by decide +kernel
theorem dX12_tell_258 : decode cX12_tell 258 = .ok (.invokevirtual 309, 3) := by decide +kernel
theorem dX12_tell_261 : decode cX12_tell 261 = .ok (.aload_n 0, 1) := by decide +kernel
theorem dX12_tell_262 : decode cX12_tell 262 = .ok (.invokevirtual 315, 3) := by decide +kernel
theorem dX12_tell_265 : decode cX12_tell 265 = .ok (.aload_n 0, 1) := by decide +kernel
theorem dX12_tell_266 : decode cX12_tell 266 = .ok (.getfield 156, 3) := by decide +kernel
theorem dX12_tell_269 : decode cX12_tell 269 = .ok (.aload_n 0, 1) := by decide +kernel
theorem dX12_tell_270 : decode cX12_tell 270 = .ok (.getfield 335, 3) := by decide +kernel
theorem dX12_tell_273 : decode cX12_tell 273 = .ok (.aload_n 0, 1) := by decide +kernel
theorem dX12_tell_274 : decode cX12_tell 274 = .ok (.getfield 297, 3) := by decide +kernel
theorem dX12_tell_277 : decode cX12_tell 277 = .ok (.iastore, 1) := by decide +kernel
theorem dX12_tell_278 : decode cX12_tell 278 = .ok (.aload_n 0, 1) := by decide +kernel
theorem dX12_tell_279 : decode cX12_tell 279 = .ok (.iconst 1, 1) := by decide +kernel
theorem dX12_tell_280 : decode cX12_tell 280 = .ok (.invokevirtual 318, 3) := by decide +kernel
theorem dX12_tell_283 : decode cX12_tell 283 = .ok (.aload_n 0, 1) := by decide +kernel
theorem dX12_tell_284 : decode cX12_tell 284 = .ok (.getfield 156, 3) := by decide +kernel
theorem dX12_tell_287 : decode cX12_tell 287 = .ok (.aload_n 0, 1) := by decide +kernel
theorem dX12_tell_288 : decode cX12_tell 288 = .ok (.getfield 335, 3) := by decide +kernel
theorem dX12_tell_291 : decode cX12_tell 291 = .ok (.iconst 1, 1) := by decide +kernel
theorem dX12_tell_292 : decode cX12_tell 292 = .ok (.iadd, 1) := by decide +kernel
theorem dX12_tell_293 : decode cX12_tell 293 = .ok (.aload_n 0, 1) := by decide +kernel
theorem dX12_tell_294 : decode cX12_tell 294 = .ok (.getfield 297, 3) := by decide +kernel
theorem dX12_tell_297 : decode cX12_tell 297 = .ok (.iastore, 1) := by decide +kernel
theorem dX12_tell_298 : decode cX12_tell 298 = .ok (.aload_n 0, 1) := by decide +kernel
theorem dX12_tell_299 : decode cX12_tell 299 = .ok (.iconst 1, 1) := by decide +kernel
theorem dX12_tell_300 : decode cX12_tell 300 = .ok (.invokevirtual 318, 3) := by decide +kernel
theorem dX12_tell_303 : decode cX12_tell 303 = .ok (.aload_n 0, 1) := by decide +kernel
theorem dX12_tell_304 : decode cX12_tell 304 = .ok (.iconst 5, 1) := by decide +kernel
theorem dX12_tell_305 : decode cX12_tell 305 = .ok (.invokevirtual 318, 3) := by decide +kernel
theorem dX12_tell_308 : decode cX12_tell 308 = .ok (.aload_n 0, 1) := by decide +kernel
theorem dX12_tell_309 : decode cX12_tell 309 = .ok (.getfield 294, 3) := by decide +kernel
theorem dX12_tell_312 : decode cX12_tell 312 = .ok (.ifCond .le 4, 3) := by decide +kernel
theorem dX12_tell_315 : decode cX12_tell 315 = .ok (.return_, 1) := by decide +kernel
theorem dX12_tell_316 : decode cX12_tell 316 = .ok (.aload_n 0, 1) := by decide +kernel
theorem dX12_tell_317 : decode cX12_tell 317 = .ok (.getfield 73, 3) := by decide +kernel
theorem dX12_tell_320 : decode cX12_tell 320 = .ok (.aload_n 0, 1) := by decide +kernel
theorem dX12_tell_321 : decode cX12_tell 321 = .ok (.getfield 353, 3) := by decide +kernel
theorem dX12_tell_324 : decode cX12_tell 324 = .ok (.iconst (-1), 1) := by decide +kernel
theorem dX12_tell_325 : decode cX12_tell 325 = .ok (.iastore, 1) := by decide +kernel
theorem dX12_tell_326 : decode cX12_tell 326 = .ok (.aload_n 0, 1) := by decide +kernel
theorem dX12_tell_327 : decode cX12_tell 327 = .ok (.getfield 76, 3) := by decide +kernel
theorem dX12_tell_330 : decode cX12_tell 330 = .ok (.aload_n 0, 1) := by decide +kernel
theorem dX12_tell_331 : decode cX12_tell 331 = .ok (.getfield 353, 3) := by decide +kernel
theorem dX12_tell_334 : decode cX12_tell 334 = .ok (.iconst (-1), 1) := by decide +kernel
theorem dX12_tell_335 : decode cX12_tell 335 = .ok (.iastore, 1) := by decide +kernel
theorem dX12_tell_336 : decode cX12_tell 336 = .ok (.aload_n 0, 1) := by decide +kernel
theorem dX12_tell_337 : decode cX12_tell 337 = .ok (.dup, 1) := by decide +kernel
theorem dX12_tell_338 : decode cX12_tell 338 = .ok (.getfield 353, 3) := by decide +kernel
theorem dX12_tell_341 : decode cX12_tell 341 = .ok (.iconst 1, 1) := by decide +kernel
theorem dX12_tell_342 : decode cX12_tell 342 = .ok (.iadd, 1) := by decide +kernel
theorem dX12_tell_343 : decode cX12_tell 343 = .ok (.putfield 353, 3) := by decide +kernel
theorem dX12_tell_346 : decode cX12_tell 346 = .ok (.aload_n 0, 1) := by decide +kernel
theorem dX12_tell_347 : decode cX12_tell 347 = .ok (.dup, 1) := by decide +kernel
theorem dX12_tell_348 : decode cX12_tell 348 = .ok (.getfield 335, 3) := by decide +kernel
theorem dX12_tell_351 : decode cX12_tell 351 = .ok (.iconst 2, 1) := by decide +kernel
theorem dX12_tell_352 : decode cX12_tell 352 = .ok (.iadd, 1) := by decide +kernel
theorem dX12_tell_353 : decode cX12_tell 353 = .ok (.putfield 335, 3) := by decide +kernel
theorem dX12_tell_356 : decode cX12_tell 356 = .ok (.goto 8, 3) := by decide +kernel
theorem dX12_tell_359 : decode cX12_tell 359 = .ok (.aload_n 0, 1) := by decide +kernel
theorem dX12_tell_360 : decode cX12_tell 360 = .ok (.iconst 1, 1) := by decide +kernel
theorem dX12_tell_361 : decode cX12_tell 361 = .ok (.invokevirtual 309, 3) := by decide +kernel
theorem dX12_tell_364 : decode cX12_tell 364 = .ok (.return_, 1) := by decide +kernel
def fX12_tell_93F (k93 : MS → Int32 → Option (MS)) (h : MS) (x2 : Int32) : Option (MS) :=
  if 4 ≤ x2 then (oL (mSI h 18 ((mI h 18) + 1)) (fun h2 => some (h2))) else (oC (ix ((4 * (mI h 18)) + x2) (mlen 26)) (oL (mSA h 26 (Int32.toNatClampNeg ((4 * (mI h 18)) + x2)) 0) (fun h4 => oL (x2 + 1) (fun y5 => k93 h4 y5))))
set_option maxHeartbeats 4000000 in
theorem wfX12_tell_93F {args : Array Value} (b : Bd p s m c cX12_tell 3 RX12 D aC) (hlk : meth.locks = false) (hr : meth.sig.returnType = none) {Z : State → Prop} (zs : Z s) (zk : ZOK Z (Rg ad)) {hz : MS} {k93 : MS → Int32 → Option (MS)} (H93 : ∀ (h : MS) (x2 : Int32), ∀ (H : Heap) (locs : List Loc) (ls : Array Slot), k93 h x2 = some hz → CE (EM D aC ad h) (Rg ad) s H locs → lv_has ls 3 [(0, .ref (ad 116)), (2, .int x2)] → W p l e (RM 9 202 0 0) s m args below meth c H locs 0 0 (MQ below (PQ (EM D aC ad hz) (Rg ad) none) args s 0 0 (Rg ad)) (F0 m 93 ls [])) {h : MS} {x2 : Int32}  {H : Heap} {locs : List Loc} {ls : Array Slot} (hf : fX12_tell_93F k93 h x2 = some hz) (hE : CE (EM D aC ad h) (Rg ad) s H locs) (hl : lv_has ls 3 [(0, .ref (ad 116)), (2, .int x2)]) : W p l e (RM 9 202 0 0) s m args below meth c H locs 0 0 (MQ below (PQ (EM D aC ad hz) (Rg ad) none) args s 0 0 (Rg ad)) (F0 m 93 ls []) := by
  unfold fX12_tell_93F at hf
  refine lv_iload_n b.1 b.2.1 dX12_tell_93 rfl (lv_at hl 1 rfl) ?_
  refine lv_iconst (v := 4) b.1 b.2.1 dX12_tell_94 (by decide) ?_
  refine lv_icmp_ge (tgt := 118) b.1 b.2.1 dX12_tell_95 (by decide) (fun c1 => ?_) (fun c1 => ?_)
  · have hf := oI_t c1 hf
    refine lv_aload_n b.1 b.2.1 dX12_tell_118 rfl (lv_at hl 0 rfl) ?_
    refine lv_dup b.1 b.2.1 dX12_tell_119 rfl ?_
    refine gM_338 b hE dX12_tell_120 ?_
    refine lv_iconst (v := 1) b.1 b.2.1 dX12_tell_123 (by decide) ?_
    refine lv_iadd b.1 b.2.1 dX12_tell_124 ?_
    obtain ⟨h2, eh2, hf⟩ := oL_s hf
    refine pM_338 b hE eh2 dX12_tell_125 (fun H locs hE => ?_)
    refine lv_goto (tgt := 364) b.1 b.2.1 dX12_tell_128 (by decide) ?_
    cases hf
    exact k_vret b hlk hr hE (Nat.le_refl _) (Nat.le_refl _) dX12_tell_364
  · have hf := oI_f c1 hf
    refine lv_aload_n b.1 b.2.1 dX12_tell_98 rfl (lv_at hl 0 rfl) ?_
    refine gM_43 b hE dX12_tell_99 ?_
    refine lv_iconst (v := 4) b.1 b.2.1 dX12_tell_102 (by decide) ?_
    refine lv_aload_n b.1 b.2.1 dX12_tell_103 rfl (lv_at hl 0 rfl) ?_
    refine gM_338 b hE dX12_tell_104 ?_
    refine lv_imul b.1 b.2.1 dX12_tell_107 ?_
    refine lv_iload_n b.1 b.2.1 dX12_tell_108 rfl (lv_at hl 1 rfl) ?_
    refine lv_iadd b.1 b.2.1 dX12_tell_109 ?_
    refine lv_iconst (v := 0) b.1 b.2.1 dX12_tell_110 (by decide) ?_
    obtain ⟨g3, hf⟩ := oC_s hf
    obtain ⟨h4, eh4, hf⟩ := oL_s hf
    refine n_iast b hE rfl rfl g3 eh4 dX12_tell_111 (fun H locs hE => ?_)
    obtain ⟨y5, ey5, hf⟩ := oL_s hf
    refine lv_iinc (v := y5) (lv' := [(2, .int y5), (0, .ref (ad 116))]) b.1 b.2.1 dX12_tell_112 hl (k := 1) rfl (by rw [ey5]; rfl) (by decide) rfl (fun ls hl => ?_)
    refine lv_goto (tgt := 93) b.1 b.2.1 dX12_tell_115 (by decide) ?_
    exact H93 h4 y5 _ _ _ hf hE (lv_sub hl [1, 0] rfl)
def fX12_tell_93  : Nat → MS → Int32 → Option (MS)
  | 0 => fun _ _ => none
  | n + 1 => fX12_tell_93F  (fX12_tell_93  n)
set_option maxHeartbeats 4000000 in
theorem wfX12_tell_93 {args : Array Value} (b : Bd p s m c cX12_tell 3 RX12 D aC) (hlk : meth.locks = false) (hr : meth.sig.returnType = none) {Z : State → Prop} (zs : Z s) (zk : ZOK Z (Rg ad)) {hz : MS} : ∀ n : Nat, ∀ (h : MS) (x2 : Int32), ∀ (H : Heap) (locs : List Loc) (ls : Array Slot), fX12_tell_93  n h x2 = some hz → CE (EM D aC ad h) (Rg ad) s H locs → lv_has ls 3 [(0, .ref (ad 116)), (2, .int x2)] → W p l e (RM 9 202 0 0) s m args below meth c H locs 0 0 (MQ below (PQ (EM D aC ad hz) (Rg ad) none) args s 0 0 (Rg ad)) (F0 m 93 ls []) := by
  intro n
  induction n with
  | zero =>
    intro h x2 H locs ls hf
    have hf : (none : Option (MS)) = some _ := hf
    cases hf
  | succ n ih =>
    intro h x2 H locs ls hf hE hl
    exact wfX12_tell_93F b hlk hr zs zk  ih hf hE hl
def fX12_tell_359  (h : MS) : Option (MS) :=
  oB (fX12_fail h 1) (fun h7 => some (h7))
set_option maxHeartbeats 4000000 in
theorem wfX12_tell_359 {args : Array Value} (b : Bd p s m c cX12_tell 3 RX12 D aC) (hlk : meth.locks = false) (hr : meth.sig.returnType = none) {Z : State → Prop} (zs : Z s) (zk : ZOK Z (Rg ad)) {hz : MS} {h : MS}  {H : Heap} {locs : List Loc} {ls : Array Slot} (hf : fX12_tell_359 h = some hz) (hE : CE (EM D aC ad h) (Rg ad) s H locs) (hl : lv_has ls 3 [(0, .ref (ad 116))]) : W p l e (RM 9 202 0 0) s m args below meth c H locs 0 0 (MQ below (PQ (EM D aC ad hz) (Rg ad) none) args s 0 0 (Rg ad)) (F0 m 359 ls []) := by
  unfold fX12_tell_359 at hf
  refine lv_aload_n b.1 b.2.1 dX12_tell_359 rfl (lv_at hl 0 rfl) ?_
  refine lv_iconst (v := 1) b.1 b.2.1 dX12_tell_360 (by decide) ?_
  obtain ⟨h7, hc6, hf⟩ := oB_s hf
  refine k_callV0 (C := RX12) b zs zk hE (CX12_fail l D aC ad zk hc6) mc_X12_fail (in7 121 rfl rfl) mi_X12_fail ms_X12_fail ini_RX12 ok_X12_fail (m_recv b hE) ⟨Nat.le_of_ble_eq_true rfl, Nat.le_of_ble_eq_true rfl⟩ rfl hl.1 rfl (k_room _ (by exact Nat.le_of_ble_eq_true rfl)) ⟨Nat.le_refl _, Nat.le_refl _⟩ dX12_tell_361 (fun H locs hE => ?_)
  cases hf
  exact k_vret b hlk hr hE (Nat.le_refl _) (Nat.le_refl _) dX12_tell_364
def fX12_tell_261  (h : MS) : Option (MS) :=
  oB (fX12_next h ) (fun h9 => oC (ix (mI h9 63) (mlen 64)) (oL (mSA h9 64 (Int32.toNatClampNeg (mI h9 63)) (mI h9 11)) (fun h11 => oB (fX12_must h11 1) (fun h13 => oC (ix ((mI h13 63) + 1) (mlen 64)) (oL (mSA h13 64 (Int32.toNatClampNeg ((mI h13 63) + 1)) (mI h13 11)) (fun h15 => oB (fX12_must h15 1) (fun h17 => oB (fX12_must h17 5) (fun h19 => if (mI h19 13) ≤ 0 then (oC (ix (mI h19 23) (mlen 36)) (oL (mSA h19 36 (Int32.toNatClampNeg (mI h19 23)) (-1)) (fun h22 => oC (ix (mI h22 23) (mlen 37)) (oL (mSA h22 37 (Int32.toNatClampNeg (mI h22 23)) (-1)) (fun h24 => oL (mSI h24 23 ((mI h24 23) + 1)) (fun h25 => oL (mSI h25 63 ((mI h25 63) + 2)) (fun h26 => some (h26)))))))) else (some (h19))))))))))
set_option maxHeartbeats 4000000 in
theorem wfX12_tell_261 {args : Array Value} (b : Bd p s m c cX12_tell 3 RX12 D aC) (hlk : meth.locks = false) (hr : meth.sig.returnType = none) {Z : State → Prop} (zs : Z s) (zk : ZOK Z (Rg ad)) {hz : MS} {h : MS}  {H : Heap} {locs : List Loc} {ls : Array Slot} (hf : fX12_tell_261 h = some hz) (hE : CE (EM D aC ad h) (Rg ad) s H locs) (hl : lv_has ls 3 [(0, .ref (ad 116))]) : W p l e (RM 9 202 0 0) s m args below meth c H locs 0 0 (MQ below (PQ (EM D aC ad hz) (Rg ad) none) args s 0 0 (Rg ad)) (F0 m 261 ls []) := by
  unfold fX12_tell_261 at hf
  refine lv_aload_n b.1 b.2.1 dX12_tell_261 rfl (lv_at hl 0 rfl) ?_
  obtain ⟨h9, hc8, hf⟩ := oB_s hf
  refine k_callV0 (C := RX12) b zs zk hE (CX12_next l D aC ad zk hc8) mc_X12_next (in7 117 rfl rfl) mi_X12_next ms_X12_next ini_RX12 ok_X12_next (m_recv b hE) ⟨Nat.le_of_ble_eq_true rfl, Nat.le_of_ble_eq_true rfl⟩ rfl hl.1 rfl (k_room _ (by exact Nat.le_of_ble_eq_true rfl)) ⟨Nat.le_refl _, Nat.le_refl _⟩ dX12_tell_262 (fun H locs hE => ?_)
  refine lv_aload_n b.1 b.2.1 dX12_tell_265 rfl (lv_at hl 0 rfl) ?_
  refine gM_156 b hE dX12_tell_266 ?_
  refine lv_aload_n b.1 b.2.1 dX12_tell_269 rfl (lv_at hl 0 rfl) ?_
  refine gM_335 b hE dX12_tell_270 ?_
  refine lv_aload_n b.1 b.2.1 dX12_tell_273 rfl (lv_at hl 0 rfl) ?_
  refine gM_297 b hE dX12_tell_274 ?_
  obtain ⟨g10, hf⟩ := oC_s hf
  obtain ⟨h11, eh11, hf⟩ := oL_s hf
  refine n_iast b hE rfl rfl g10 eh11 dX12_tell_277 (fun H locs hE => ?_)
  refine lv_aload_n b.1 b.2.1 dX12_tell_278 rfl (lv_at hl 0 rfl) ?_
  refine lv_iconst (v := 1) b.1 b.2.1 dX12_tell_279 (by decide) ?_
  obtain ⟨h13, hc12, hf⟩ := oB_s hf
  refine k_callV0 (C := RX12) b zs zk hE (CX12_must l D aC ad zk hc12) mc_X12_must (in7 129 rfl rfl) mi_X12_must ms_X12_must ini_RX12 ok_X12_must (m_recv b hE) ⟨Nat.le_of_ble_eq_true rfl, Nat.le_of_ble_eq_true rfl⟩ rfl hl.1 rfl (k_room _ (by exact Nat.le_of_ble_eq_true rfl)) ⟨Nat.le_refl _, Nat.le_refl _⟩ dX12_tell_280 (fun H locs hE => ?_)
  refine lv_aload_n b.1 b.2.1 dX12_tell_283 rfl (lv_at hl 0 rfl) ?_
  refine gM_156 b hE dX12_tell_284 ?_
  refine lv_aload_n b.1 b.2.1 dX12_tell_287 rfl (lv_at hl 0 rfl) ?_
  refine gM_335 b hE dX12_tell_288 ?_
  refine lv_iconst (v := 1) b.1 b.2.1 dX12_tell_291 (by decide) ?_
  refine lv_iadd b.1 b.2.1 dX12_tell_292 ?_
  refine lv_aload_n b.1 b.2.1 dX12_tell_293 rfl (lv_at hl 0 rfl) ?_
  refine gM_297 b hE dX12_tell_294 ?_
  obtain ⟨g14, hf⟩ := oC_s hf
  obtain ⟨h15, eh15, hf⟩ := oL_s hf
  refine n_iast b hE rfl rfl g14 eh15 dX12_tell_297 (fun H locs hE => ?_)
  refine lv_aload_n b.1 b.2.1 dX12_tell_298 rfl (lv_at hl 0 rfl) ?_
  refine lv_iconst (v := 1) b.1 b.2.1 dX12_tell_299 (by decide) ?_
  obtain ⟨h17, hc16, hf⟩ := oB_s hf
  refine k_callV0 (C := RX12) b zs zk hE (CX12_must l D aC ad zk hc16) mc_X12_must (in7 129 rfl rfl) mi_X12_must ms_X12_must ini_RX12 ok_X12_must (m_recv b hE) ⟨Nat.le_of_ble_eq_true rfl, Nat.le_of_ble_eq_true rfl⟩ rfl hl.1 rfl (k_room _ (by exact Nat.le_of_ble_eq_true rfl)) ⟨Nat.le_refl _, Nat.le_refl _⟩ dX12_tell_300 (fun H locs hE => ?_)
  refine lv_aload_n b.1 b.2.1 dX12_tell_303 rfl (lv_at hl 0 rfl) ?_
  refine lv_iconst (v := 5) b.1 b.2.1 dX12_tell_304 (by decide) ?_
  obtain ⟨h19, hc18, hf⟩ := oB_s hf
  refine k_callV0 (C := RX12) b zs zk hE (CX12_must l D aC ad zk hc18) mc_X12_must (in7 129 rfl rfl) mi_X12_must ms_X12_must ini_RX12 ok_X12_must (m_recv b hE) ⟨Nat.le_of_ble_eq_true rfl, Nat.le_of_ble_eq_true rfl⟩ rfl hl.1 rfl (k_room _ (by exact Nat.le_of_ble_eq_true rfl)) ⟨Nat.le_refl _, Nat.le_refl _⟩ dX12_tell_305 (fun H locs hE => ?_)
  refine lv_aload_n b.1 b.2.1 dX12_tell_308 rfl (lv_at hl 0 rfl) ?_
  refine gM_294 b hE dX12_tell_309 ?_
  refine lv_if_le (tgt := 316) b.1 b.2.1 dX12_tell_312 (by decide) (fun c20 => ?_) (fun c20 => ?_)
  · have hf := oI_t c20 hf
    refine lv_aload_n b.1 b.2.1 dX12_tell_316 rfl (lv_at hl 0 rfl) ?_
    refine gM_73 b hE dX12_tell_317 ?_
    refine lv_aload_n b.1 b.2.1 dX12_tell_320 rfl (lv_at hl 0 rfl) ?_
    refine gM_353 b hE dX12_tell_321 ?_
    refine lv_iconst (v := (-1)) b.1 b.2.1 dX12_tell_324 (by decide) ?_
    obtain ⟨g21, hf⟩ := oC_s hf
    obtain ⟨h22, eh22, hf⟩ := oL_s hf
    refine n_iast b hE rfl rfl g21 eh22 dX12_tell_325 (fun H locs hE => ?_)
    refine lv_aload_n b.1 b.2.1 dX12_tell_326 rfl (lv_at hl 0 rfl) ?_
    refine gM_76 b hE dX12_tell_327 ?_
    refine lv_aload_n b.1 b.2.1 dX12_tell_330 rfl (lv_at hl 0 rfl) ?_
    refine gM_353 b hE dX12_tell_331 ?_
    refine lv_iconst (v := (-1)) b.1 b.2.1 dX12_tell_334 (by decide) ?_
    obtain ⟨g23, hf⟩ := oC_s hf
    obtain ⟨h24, eh24, hf⟩ := oL_s hf
    refine n_iast b hE rfl rfl g23 eh24 dX12_tell_335 (fun H locs hE => ?_)
    refine lv_aload_n b.1 b.2.1 dX12_tell_336 rfl (lv_at hl 0 rfl) ?_
    refine lv_dup b.1 b.2.1 dX12_tell_337 rfl ?_
    refine gM_353 b hE dX12_tell_338 ?_
    refine lv_iconst (v := 1) b.1 b.2.1 dX12_tell_341 (by decide) ?_
    refine lv_iadd b.1 b.2.1 dX12_tell_342 ?_
    obtain ⟨h25, eh25, hf⟩ := oL_s hf
    refine pM_353 b hE eh25 dX12_tell_343 (fun H locs hE => ?_)
    refine lv_aload_n b.1 b.2.1 dX12_tell_346 rfl (lv_at hl 0 rfl) ?_
    refine lv_dup b.1 b.2.1 dX12_tell_347 rfl ?_
    refine gM_335 b hE dX12_tell_348 ?_
    refine lv_iconst (v := 2) b.1 b.2.1 dX12_tell_351 (by decide) ?_
    refine lv_iadd b.1 b.2.1 dX12_tell_352 ?_
    obtain ⟨h26, eh26, hf⟩ := oL_s hf
    refine pM_335 b hE eh26 dX12_tell_353 (fun H locs hE => ?_)
    refine lv_goto (tgt := 364) b.1 b.2.1 dX12_tell_356 (by decide) ?_
    cases hf
    exact k_vret b hlk hr hE (Nat.le_refl _) (Nat.le_refl _) dX12_tell_364
  · have hf := oI_f c20 hf
    cases hf
    exact k_vret b hlk hr hE (Nat.le_refl _) (Nat.le_refl _) dX12_tell_315
def fX12_tell_0  (h : MS) : Option (MS) :=
  oC (ix (mI h 11) (mlen 5)) (oL (mA h 5 (Int32.toNatClampNeg (mI h 11))) (fun y28 => if y28 = 20 then (oB (fX12_next h ) (fun h31 => oB2 (fX12_tells h31 25 (mI h31 18) 5) (fun h34 r33 => oB (fX12_must h34 5) (fun h36 => if (mI h36 13) ≤ 0 then (fX12_tell_93  FU h36 0) else (some (h36)))))) else (if y28 = 21 then (oB (fX12_next h ) (fun h40 => oB2 (fX12_tells h40 27 (mI h40 19) 12) (fun h43 r42 => oB2 (fX12_whole h43 2) (fun h46 r45 => oB (fX12_must h46 5) (fun h48 => if (mI h48 13) ≤ 0 then (oC (ix r45 (mlen 7)) (oC (ix (mI h48 19) (mlen 28)) (oL (mSA h48 28 (Int32.toNatClampNeg (mI h48 19)) (mA h48 7 (Int32.toNatClampNeg r45))) (fun h52 => oL (mSI h52 19 ((mI h52 19) + 1)) (fun h53 => some (h53)))))) else (some (h48))))))) else (if y28 = 22 then (oB (fX12_next h ) (fun h56 => oB2 (fX12_tells h56 29 (mI h56 20) 4) (fun h59 r58 => oB (fX12_must h59 5) (fun h61 => if (mI h61 13) = 0 then (oL (mSI h61 20 ((mI h61 20) + 1)) (fun h63 => some (h63))) else (some (h61)))))) else (if y28 = 23 then (oB (fX12_tellLaw h ) (fun h66 => some (h66))) else (if y28 = 24 then (fX12_tell_359  h) else (if y28 = 25 then (fX12_tell_359  h) else (if y28 = 26 then (fX12_tell_359  h) else (if y28 = 27 then (fX12_tell_359  h) else (if y28 = 28 then (if (mI h 23) = 20 then (oB (fX12_fail h 2) (fun h74 => fX12_tell_261  h74)) else (fX12_tell_261  h)) else (fX12_tell_359  h)))))))))))
set_option maxHeartbeats 4000000 in
theorem wfX12_tell_0 {args : Array Value} (b : Bd p s m c cX12_tell 3 RX12 D aC) (hlk : meth.locks = false) (hr : meth.sig.returnType = none) {Z : State → Prop} (zs : Z s) (zk : ZOK Z (Rg ad)) {hz : MS} {h : MS}  {H : Heap} {locs : List Loc} {ls : Array Slot} (hf : fX12_tell_0 h = some hz) (hE : CE (EM D aC ad h) (Rg ad) s H locs) (hl : lv_has ls 3 [(0, .ref (ad 116))]) : W p l e (RM 9 202 0 0) s m args below meth c H locs 0 0 (MQ below (PQ (EM D aC ad hz) (Rg ad) none) args s 0 0 (Rg ad)) (F0 m 0 ls []) := by
  unfold fX12_tell_0 at hf
  refine lv_aload_n b.1 b.2.1 dX12_tell_0 rfl (lv_at hl 0 rfl) ?_
  refine gM_20 b hE dX12_tell_1 ?_
  refine lv_aload_n b.1 b.2.1 dX12_tell_4 rfl (lv_at hl 0 rfl) ?_
  refine gM_297 b hE dX12_tell_5 ?_
  obtain ⟨g27, hf⟩ := oC_s hf
  refine m_iald b hE rfl rfl g27 dX12_tell_8 ?_
  obtain ⟨y28, ey28, hf⟩ := oL_s hf
  refine k_nmI ey28 ?_
  rcases Decidable.em (y28 = 20) with c29 | c29
  · have hf := oI_t c29 hf
    refine lv_tableIn (tgt := 60) b.1 b.2.1 dX12_tell_9 (off := 51) (by rw [c29]; decide) (by rw [c29]; decide) (by rw [c29] <;> rfl) (by decide) ?_
    refine lv_aload_n b.1 b.2.1 dX12_tell_60 rfl (lv_at hl 0 rfl) ?_
    obtain ⟨h31, hc30, hf⟩ := oB_s hf
    refine k_callV0 (C := RX12) b zs zk hE (CX12_next l D aC ad zk hc30) mc_X12_next (in7 117 rfl rfl) mi_X12_next ms_X12_next ini_RX12 ok_X12_next (m_recv b hE) ⟨Nat.le_of_ble_eq_true rfl, Nat.le_of_ble_eq_true rfl⟩ rfl hl.1 rfl (k_room _ (by exact Nat.le_of_ble_eq_true rfl)) ⟨Nat.le_refl _, Nat.le_refl _⟩ dX12_tell_61 (fun H locs hE => ?_)
    refine lv_aload_n b.1 b.2.1 dX12_tell_64 rfl (lv_at hl 0 rfl) ?_
    refine lv_aload_n b.1 b.2.1 dX12_tell_65 rfl (lv_at hl 0 rfl) ?_
    refine gM_40 b hE dX12_tell_66 ?_
    refine lv_aload_n b.1 b.2.1 dX12_tell_69 rfl (lv_at hl 0 rfl) ?_
    refine gM_338 b hE dX12_tell_70 ?_
    refine lv_iconst (v := 5) b.1 b.2.1 dX12_tell_73 (by decide) ?_
    obtain ⟨h34, r33, hc32, hf⟩ := oB2_s hf
    refine k_callV0 (C := RX12) b zs zk hE (CX12_tells l D aC ad zk hc32) mc_X12_tells (in7 125 rfl rfl) mi_X12_tells ms_X12_tells ini_RX12 ok_X12_tells (m_recv b hE) ⟨Nat.le_of_ble_eq_true rfl, Nat.le_of_ble_eq_true rfl⟩ rfl hl.1 rfl (k_room _ (by exact Nat.le_of_ble_eq_true rfl)) ⟨Nat.le_refl _, Nat.le_refl _⟩ dX12_tell_74 (fun H locs hE => ?_)
    refine lv_istore_n (lv' := [(1, .int r33), (0, .ref (ad 116))]) b.1 b.2.1 dX12_tell_77 rfl hl (by decide) rfl (fun ls hl => ?_)
    have hl := lv_sub (l' := [(0, .ref (ad 116))]) hl [1] rfl
    refine lv_aload_n b.1 b.2.1 dX12_tell_78 rfl (lv_at hl 0 rfl) ?_
    refine lv_iconst (v := 5) b.1 b.2.1 dX12_tell_79 (by decide) ?_
    obtain ⟨h36, hc35, hf⟩ := oB_s hf
    refine k_callV0 (C := RX12) b zs zk hE (CX12_must l D aC ad zk hc35) mc_X12_must (in7 129 rfl rfl) mi_X12_must ms_X12_must ini_RX12 ok_X12_must (m_recv b hE) ⟨Nat.le_of_ble_eq_true rfl, Nat.le_of_ble_eq_true rfl⟩ rfl hl.1 rfl (k_room _ (by exact Nat.le_of_ble_eq_true rfl)) ⟨Nat.le_refl _, Nat.le_refl _⟩ dX12_tell_80 (fun H locs hE => ?_)
    refine lv_aload_n b.1 b.2.1 dX12_tell_83 rfl (lv_at hl 0 rfl) ?_
    refine gM_294 b hE dX12_tell_84 ?_
    refine lv_if_le (tgt := 91) b.1 b.2.1 dX12_tell_87 (by decide) (fun c37 => ?_) (fun c37 => ?_)
    · have hf := oI_t c37 hf
      refine lv_iconst (v := 0) b.1 b.2.1 dX12_tell_91 (by decide) ?_
      refine lv_istore_n (lv' := [(2, .int 0), (0, .ref (ad 116))]) b.1 b.2.1 dX12_tell_92 rfl hl (by decide) rfl (fun ls hl => ?_)
      exact wfX12_tell_93 b hlk hr zs zk  FU h36 0 _ _ _ hf hE (lv_sub hl [1, 0] rfl)
    · have hf := oI_f c37 hf
      cases hf
      exact k_vret b hlk hr hE (Nat.le_refl _) (Nat.le_refl _) dX12_tell_90
  have hf := oI_f c29 hf
  rcases Decidable.em (y28 = 21) with c38 | c38
  · have hf := oI_t c38 hf
    refine lv_tableIn (tgt := 131) b.1 b.2.1 dX12_tell_9 (off := 122) (by rw [c38]; decide) (by rw [c38]; decide) (by rw [c38] <;> rfl) (by decide) ?_
    refine lv_aload_n b.1 b.2.1 dX12_tell_131 rfl (lv_at hl 0 rfl) ?_
    obtain ⟨h40, hc39, hf⟩ := oB_s hf
    refine k_callV0 (C := RX12) b zs zk hE (CX12_next l D aC ad zk hc39) mc_X12_next (in7 117 rfl rfl) mi_X12_next ms_X12_next ini_RX12 ok_X12_next (m_recv b hE) ⟨Nat.le_of_ble_eq_true rfl, Nat.le_of_ble_eq_true rfl⟩ rfl hl.1 rfl (k_room _ (by exact Nat.le_of_ble_eq_true rfl)) ⟨Nat.le_refl _, Nat.le_refl _⟩ dX12_tell_132 (fun H locs hE => ?_)
    refine lv_aload_n b.1 b.2.1 dX12_tell_135 rfl (lv_at hl 0 rfl) ?_
    refine lv_aload_n b.1 b.2.1 dX12_tell_136 rfl (lv_at hl 0 rfl) ?_
    refine gM_46 b hE dX12_tell_137 ?_
    refine lv_aload_n b.1 b.2.1 dX12_tell_140 rfl (lv_at hl 0 rfl) ?_
    refine gM_341 b hE dX12_tell_141 ?_
    refine lv_bipush (v := 12) b.1 b.2.1 dX12_tell_144 (by decide) ?_
    obtain ⟨h43, r42, hc41, hf⟩ := oB2_s hf
    refine k_callV0 (C := RX12) b zs zk hE (CX12_tells l D aC ad zk hc41) mc_X12_tells (in7 125 rfl rfl) mi_X12_tells ms_X12_tells ini_RX12 ok_X12_tells (m_recv b hE) ⟨Nat.le_of_ble_eq_true rfl, Nat.le_of_ble_eq_true rfl⟩ rfl hl.1 rfl (k_room _ (by exact Nat.le_of_ble_eq_true rfl)) ⟨Nat.le_refl _, Nat.le_refl _⟩ dX12_tell_146 (fun H locs hE => ?_)
    refine lv_istore_n (lv' := [(1, .int r42), (0, .ref (ad 116))]) b.1 b.2.1 dX12_tell_149 rfl hl (by decide) rfl (fun ls hl => ?_)
    have hl := lv_sub (l' := [(0, .ref (ad 116))]) hl [1] rfl
    refine lv_aload_n b.1 b.2.1 dX12_tell_150 rfl (lv_at hl 0 rfl) ?_
    refine lv_iconst (v := 2) b.1 b.2.1 dX12_tell_151 (by decide) ?_
    obtain ⟨h46, r45, hc44, hf⟩ := oB2_s hf
    refine k_callV0 (C := RX12) b zs zk hE (CX12_whole l D aC ad zk hc44) mc_X12_whole (in7 140 rfl rfl) mi_X12_whole ms_X12_whole ini_RX12 ok_X12_whole (m_recv b hE) ⟨Nat.le_of_ble_eq_true rfl, Nat.le_of_ble_eq_true rfl⟩ rfl hl.1 rfl (k_room _ (by exact Nat.le_of_ble_eq_true rfl)) ⟨Nat.le_refl _, Nat.le_refl _⟩ dX12_tell_152 (fun H locs hE => ?_)
    refine lv_istore_n (lv' := [(2, .int r45), (0, .ref (ad 116))]) b.1 b.2.1 dX12_tell_155 rfl hl (by decide) rfl (fun ls hl => ?_)
    refine lv_aload_n b.1 b.2.1 dX12_tell_156 rfl (lv_at hl 1 rfl) ?_
    refine lv_iconst (v := 5) b.1 b.2.1 dX12_tell_157 (by decide) ?_
    obtain ⟨h48, hc47, hf⟩ := oB_s hf
    refine k_callV0 (C := RX12) b zs zk hE (CX12_must l D aC ad zk hc47) mc_X12_must (in7 129 rfl rfl) mi_X12_must ms_X12_must ini_RX12 ok_X12_must (m_recv b hE) ⟨Nat.le_of_ble_eq_true rfl, Nat.le_of_ble_eq_true rfl⟩ rfl hl.1 rfl (k_room _ (by exact Nat.le_of_ble_eq_true rfl)) ⟨Nat.le_refl _, Nat.le_refl _⟩ dX12_tell_158 (fun H locs hE => ?_)
    refine lv_aload_n b.1 b.2.1 dX12_tell_161 rfl (lv_at hl 1 rfl) ?_
    refine gM_294 b hE dX12_tell_162 ?_
    refine lv_if_le (tgt := 169) b.1 b.2.1 dX12_tell_165 (by decide) (fun c49 => ?_) (fun c49 => ?_)
    · have hf := oI_t c49 hf
      refine lv_aload_n b.1 b.2.1 dX12_tell_169 rfl (lv_at hl 1 rfl) ?_
      refine gM_49 b hE dX12_tell_170 ?_
      refine lv_aload_n b.1 b.2.1 dX12_tell_173 rfl (lv_at hl 1 rfl) ?_
      refine gM_341 b hE dX12_tell_174 ?_
      refine lv_aload_n b.1 b.2.1 dX12_tell_177 rfl (lv_at hl 1 rfl) ?_
      refine gM_27 b hE dX12_tell_178 ?_
      refine lv_iload_n b.1 b.2.1 dX12_tell_181 rfl (lv_at hl 0 rfl) ?_
      obtain ⟨g50, hf⟩ := oC_s hf
      refine m_iald b hE rfl rfl g50 dX12_tell_182 ?_
      obtain ⟨g51, hf⟩ := oC_s hf
      obtain ⟨h52, eh52, hf⟩ := oL_s hf
      refine n_iast b hE rfl rfl g51 eh52 dX12_tell_183 (fun H locs hE => ?_)
      refine lv_aload_n b.1 b.2.1 dX12_tell_184 rfl (lv_at hl 1 rfl) ?_
      refine lv_dup b.1 b.2.1 dX12_tell_185 rfl ?_
      refine gM_341 b hE dX12_tell_186 ?_
      refine lv_iconst (v := 1) b.1 b.2.1 dX12_tell_189 (by decide) ?_
      refine lv_iadd b.1 b.2.1 dX12_tell_190 ?_
      obtain ⟨h53, eh53, hf⟩ := oL_s hf
      refine pM_341 b hE eh53 dX12_tell_191 (fun H locs hE => ?_)
      refine lv_goto (tgt := 364) b.1 b.2.1 dX12_tell_194 (by decide) ?_
      cases hf
      exact k_vret b hlk hr hE (Nat.le_refl _) (Nat.le_refl _) dX12_tell_364
    · have hf := oI_f c49 hf
      cases hf
      exact k_vret b hlk hr hE (Nat.le_refl _) (Nat.le_refl _) dX12_tell_168
  have hf := oI_f c38 hf
  rcases Decidable.em (y28 = 22) with c54 | c54
  · have hf := oI_t c54 hf
    refine lv_tableIn (tgt := 197) b.1 b.2.1 dX12_tell_9 (off := 188) (by rw [c54]; decide) (by rw [c54]; decide) (by rw [c54] <;> rfl) (by decide) ?_
    refine lv_aload_n b.1 b.2.1 dX12_tell_197 rfl (lv_at hl 0 rfl) ?_
    obtain ⟨h56, hc55, hf⟩ := oB_s hf
    refine k_callV0 (C := RX12) b zs zk hE (CX12_next l D aC ad zk hc55) mc_X12_next (in7 117 rfl rfl) mi_X12_next ms_X12_next ini_RX12 ok_X12_next (m_recv b hE) ⟨Nat.le_of_ble_eq_true rfl, Nat.le_of_ble_eq_true rfl⟩ rfl hl.1 rfl (k_room _ (by exact Nat.le_of_ble_eq_true rfl)) ⟨Nat.le_refl _, Nat.le_refl _⟩ dX12_tell_198 (fun H locs hE => ?_)
    refine lv_aload_n b.1 b.2.1 dX12_tell_201 rfl (lv_at hl 0 rfl) ?_
    refine lv_aload_n b.1 b.2.1 dX12_tell_202 rfl (lv_at hl 0 rfl) ?_
    refine gM_52 b hE dX12_tell_203 ?_
    refine lv_aload_n b.1 b.2.1 dX12_tell_206 rfl (lv_at hl 0 rfl) ?_
    refine gM_344 b hE dX12_tell_207 ?_
    refine lv_iconst (v := 4) b.1 b.2.1 dX12_tell_210 (by decide) ?_
    obtain ⟨h59, r58, hc57, hf⟩ := oB2_s hf
    refine k_callV0 (C := RX12) b zs zk hE (CX12_tells l D aC ad zk hc57) mc_X12_tells (in7 125 rfl rfl) mi_X12_tells ms_X12_tells ini_RX12 ok_X12_tells (m_recv b hE) ⟨Nat.le_of_ble_eq_true rfl, Nat.le_of_ble_eq_true rfl⟩ rfl hl.1 rfl (k_room _ (by exact Nat.le_of_ble_eq_true rfl)) ⟨Nat.le_refl _, Nat.le_refl _⟩ dX12_tell_211 (fun H locs hE => ?_)
    refine lv_istore_n (lv' := [(1, .int r58), (0, .ref (ad 116))]) b.1 b.2.1 dX12_tell_214 rfl hl (by decide) rfl (fun ls hl => ?_)
    have hl := lv_sub (l' := [(0, .ref (ad 116))]) hl [1] rfl
    refine lv_aload_n b.1 b.2.1 dX12_tell_215 rfl (lv_at hl 0 rfl) ?_
    refine lv_iconst (v := 5) b.1 b.2.1 dX12_tell_216 (by decide) ?_
    obtain ⟨h61, hc60, hf⟩ := oB_s hf
    refine k_callV0 (C := RX12) b zs zk hE (CX12_must l D aC ad zk hc60) mc_X12_must (in7 129 rfl rfl) mi_X12_must ms_X12_must ini_RX12 ok_X12_must (m_recv b hE) ⟨Nat.le_of_ble_eq_true rfl, Nat.le_of_ble_eq_true rfl⟩ rfl hl.1 rfl (k_room _ (by exact Nat.le_of_ble_eq_true rfl)) ⟨Nat.le_refl _, Nat.le_refl _⟩ dX12_tell_217 (fun H locs hE => ?_)
    refine lv_aload_n b.1 b.2.1 dX12_tell_220 rfl (lv_at hl 0 rfl) ?_
    refine gM_294 b hE dX12_tell_221 ?_
    refine lv_if_ne (tgt := 364) b.1 b.2.1 dX12_tell_224 (by decide) (fun c62 => ?_) (fun c62 => ?_)
    · have hf := oI_f c62 hf
      cases hf
      exact k_vret b hlk hr hE (Nat.le_refl _) (Nat.le_refl _) dX12_tell_364
    · have hf := oI_t c62 hf
      refine lv_aload_n b.1 b.2.1 dX12_tell_227 rfl (lv_at hl 0 rfl) ?_
      refine lv_dup b.1 b.2.1 dX12_tell_228 rfl ?_
      refine gM_344 b hE dX12_tell_229 ?_
      refine lv_iconst (v := 1) b.1 b.2.1 dX12_tell_232 (by decide) ?_
      refine lv_iadd b.1 b.2.1 dX12_tell_233 ?_
      obtain ⟨h63, eh63, hf⟩ := oL_s hf
      refine pM_344 b hE eh63 dX12_tell_234 (fun H locs hE => ?_)
      refine lv_goto (tgt := 364) b.1 b.2.1 dX12_tell_237 (by decide) ?_
      cases hf
      exact k_vret b hlk hr hE (Nat.le_refl _) (Nat.le_refl _) dX12_tell_364
  have hf := oI_f c54 hf
  rcases Decidable.em (y28 = 23) with c64 | c64
  · have hf := oI_t c64 hf
    refine lv_tableIn (tgt := 240) b.1 b.2.1 dX12_tell_9 (off := 231) (by rw [c64]; decide) (by rw [c64]; decide) (by rw [c64] <;> rfl) (by decide) ?_
    refine lv_aload_n b.1 b.2.1 dX12_tell_240 rfl (lv_at hl 0 rfl) ?_
    obtain ⟨h66, hc65, hf⟩ := oB_s hf
    refine k_callV0 (C := RX12) b zs zk hE (CX12_tellLaw l D aC ad zk hc65) mc_X12_tellLaw (in7 144 rfl rfl) mi_X12_tellLaw ms_X12_tellLaw ini_RX12 ok_X12_tellLaw (m_recv b hE) ⟨Nat.le_of_ble_eq_true rfl, Nat.le_of_ble_eq_true rfl⟩ rfl hl.1 rfl (k_room _ (by exact Nat.le_of_ble_eq_true rfl)) ⟨Nat.le_refl _, Nat.le_refl _⟩ dX12_tell_241 (fun H locs hE => ?_)
    refine lv_goto (tgt := 364) b.1 b.2.1 dX12_tell_244 (by decide) ?_
    cases hf
    exact k_vret b hlk hr hE (Nat.le_refl _) (Nat.le_refl _) dX12_tell_364
  have hf := oI_f c64 hf
  rcases Decidable.em (y28 = 24) with c67 | c67
  · have hf := oI_t c67 hf
    refine lv_tableIn (tgt := 359) b.1 b.2.1 dX12_tell_9 (off := 350) (by rw [c67]; decide) (by rw [c67]; decide) (by rw [c67] <;> rfl) (by decide) ?_
    exact wfX12_tell_359 b hlk hr zs zk  hf hE (lv_sub hl [0] rfl)
  have hf := oI_f c67 hf
  rcases Decidable.em (y28 = 25) with c68 | c68
  · have hf := oI_t c68 hf
    refine lv_tableIn (tgt := 359) b.1 b.2.1 dX12_tell_9 (off := 350) (by rw [c68]; decide) (by rw [c68]; decide) (by rw [c68] <;> rfl) (by decide) ?_
    exact wfX12_tell_359 b hlk hr zs zk  hf hE (lv_sub hl [0] rfl)
  have hf := oI_f c68 hf
  rcases Decidable.em (y28 = 26) with c69 | c69
  · have hf := oI_t c69 hf
    refine lv_tableIn (tgt := 359) b.1 b.2.1 dX12_tell_9 (off := 350) (by rw [c69]; decide) (by rw [c69]; decide) (by rw [c69] <;> rfl) (by decide) ?_
    exact wfX12_tell_359 b hlk hr zs zk  hf hE (lv_sub hl [0] rfl)
  have hf := oI_f c69 hf
  rcases Decidable.em (y28 = 27) with c70 | c70
  · have hf := oI_t c70 hf
    refine lv_tableIn (tgt := 359) b.1 b.2.1 dX12_tell_9 (off := 350) (by rw [c70]; decide) (by rw [c70]; decide) (by rw [c70] <;> rfl) (by decide) ?_
    exact wfX12_tell_359 b hlk hr zs zk  hf hE (lv_sub hl [0] rfl)
  have hf := oI_f c70 hf
  rcases Decidable.em (y28 = 28) with c71 | c71
  · have hf := oI_t c71 hf
    refine lv_tableIn (tgt := 247) b.1 b.2.1 dX12_tell_9 (off := 238) (by rw [c71]; decide) (by rw [c71]; decide) (by rw [c71] <;> rfl) (by decide) ?_
    refine lv_aload_n b.1 b.2.1 dX12_tell_247 rfl (lv_at hl 0 rfl) ?_
    refine gM_353 b hE dX12_tell_248 ?_
    refine lv_bipush (v := 20) b.1 b.2.1 dX12_tell_251 (by decide) ?_
    refine lv_icmp_ne (tgt := 261) b.1 b.2.1 dX12_tell_253 (by decide) (fun c72 => ?_) (fun c72 => ?_)
    · have hf := oI_f c72 hf
      exact wfX12_tell_261 b hlk hr zs zk  hf hE (lv_sub hl [0] rfl)
    · have hf := oI_t c72 hf
      refine lv_aload_n b.1 b.2.1 dX12_tell_256 rfl (lv_at hl 0 rfl) ?_
      refine lv_iconst (v := 2) b.1 b.2.1 dX12_tell_257 (by decide) ?_
      obtain ⟨h74, hc73, hf⟩ := oB_s hf
      refine k_callV0 (C := RX12) b zs zk hE (CX12_fail l D aC ad zk hc73) mc_X12_fail (in7 121 rfl rfl) mi_X12_fail ms_X12_fail ini_RX12 ok_X12_fail (m_recv b hE) ⟨Nat.le_of_ble_eq_true rfl, Nat.le_of_ble_eq_true rfl⟩ rfl hl.1 rfl (k_room _ (by exact Nat.le_of_ble_eq_true rfl)) ⟨Nat.le_refl _, Nat.le_refl _⟩ dX12_tell_258 (fun H locs hE => ?_)
      exact wfX12_tell_261 b hlk hr zs zk  hf hE (lv_sub hl [0] rfl)
  have hf := oI_f c71 hf
  have c29 := lv_neT (a := 20) c29 (by decide)
  have c38 := lv_neT (a := 21) c38 (by decide)
  have c54 := lv_neT (a := 22) c54 (by decide)
  have c64 := lv_neT (a := 23) c64 (by decide)
  have c67 := lv_neT (a := 24) c67 (by decide)
  have c68 := lv_neT (a := 25) c68 (by decide)
  have c69 := lv_neT (a := 26) c69 (by decide)
  have c70 := lv_neT (a := 27) c70 (by decide)
  have c71 := lv_neT (a := 28) c71 (by decide)
  refine lv_tableOut (tgt := 359) b.1 b.2.1 dX12_tell_9 (by omega) (by decide) ?_
  exact wfX12_tell_359 b hlk hr zs zk  hf hE (lv_sub hl [0] rfl)
def fX12_tell (h : MS) : Option (MS) := fX12_tell_0 h 
set_option maxHeartbeats 4000000 in
theorem CX12_tell (l : Launch) (D : va_G) (aC : Nat → ClassId) (ad : Nat → Nat) {Z : State → Prop} (zk : ZOK Z (Rg ad)) {h : MS} {hz : MS} (hf : fX12_tell h = some hz) : CM l D aC Z yX12_tell cX12_tell 3 (none) 9 202 0 0 (EM D aC ad h) [.ref (ad 116)] (EM D aC ad hz) none (Rg ad) := by
  refine CM.of rfl ?_
  intro p e s m below meth c b hr hlk hin2 zs hE
  refine k_ent (Nat.le_of_ble_eq_true rfl) (fun ls hl => ?_)
  exact wfX12_tell_0 b hlk hr zs zk hf hE (lv_sub hl [0] rfl)
theorem dX12_joins_0 : decode cX12_joins 0 = .ok (.aload_n 0, 1) := by decide +kernel
theorem dX12_joins_1 : decode cX12_joins 1 = .ok (.aload_n 0, 1) := by decide +kernel
theorem dX12_joins_2 : decode cX12_joins 2 = .ok (.getfield 79, 3) := by decide +kernel
theorem dX12_joins_5 : decode cX12_joins 5 = .ok (.aload_n 0, 1) := by decide +kernel
theorem dX12_joins_6 : decode cX12_joins 6 = .ok (.getfield 350, 3) := by decide +kernel
theorem dX12_joins_9 : decode cX12_joins 9 = .ok (.aload_n 0, 1) := by decide +kernel
theorem dX12_joins_10 : decode cX12_joins 10 = .ok (.getfield 156, 3) := by decide +kernel
theorem dX12_joins_13 : decode cX12_joins 13 = .ok (.iload_n 1, 1) := by decide +kernel
theorem dX12_joins_14 : decode cX12_joins 14 = .ok (.iaload, 1) := by decide +kernel
theorem dX12_joins_15 : decode cX12_joins 15 = .ok (.invokevirtual 374, 3) := by decide +kernel
theorem dX12_joins_18 : decode cX12_joins 18 = .ok (.istore_n 2, 1) := by decide +kernel
theorem dX12_joins_19 : decode cX12_joins 19 = .ok (.aload_n 0, 1) := by decide +kernel
theorem dX12_joins_20 : decode cX12_joins 20 = .ok (.aload_n 0, 1) := by decide +kernel
theorem dX12_joins_21 : decode cX12_joins 21 = .ok (.getfield 79, 3) := by decide +kernel
theorem dX12_joins_24 : decode cX12_joins 24 = .ok (.aload_n 0, 1) := by decide +kernel
theorem dX12_joins_25 : decode cX12_joins 25 = .ok (.getfield 350, 3) := by decide +kernel
theorem dX12_joins_28 : decode cX12_joins 28 = .ok (.aload_n 0, 1) := by decide +kernel
theorem dX12_joins_29 : decode cX12_joins 29 = .ok (.getfield 156, 3) := by decide +kernel
theorem dX12_joins_32 : decode cX12_joins 32 = .ok (.iload_n 1, 1) := by decide +kernel
theorem dX12_joins_33 : decode cX12_joins 33 = .ok (.iconst 1, 1) := by decide +kernel
theorem dX12_joins_34 : decode cX12_joins 34 = .ok (.iadd, 1) := by decide +kernel
theorem dX12_joins_35 : decode cX12_joins 35 = .ok (.iaload, 1) := by decide +kernel
theorem dX12_joins_36 : decode cX12_joins 36 = .ok (.invokevirtual 374, 3) := by decide +kernel
theorem dX12_joins_39 : decode cX12_joins 39 = .ok (.istore_n 3, 1) := by decide +kernel
theorem dX12_joins_40 : decode cX12_joins 40 = .ok (.iload_n 2, 1) := by decide +kernel
theorem dX12_joins_41 : decode cX12_joins 41 = .ok (.iconst (-1), 1) := by decide +kernel
theorem dX12_joins_42 : decode cX12_joins 42 = .ok (.if_icmp .eq 24, 3) := by decide +kernel
theorem dX12_joins_45 : decode cX12_joins 45 = .ok (.aload_n 0, 1) := by decide +kernel
theorem dX12_joins_46 : decode cX12_joins 46 = .ok (.getfield 85, 3) := by decide +kernel
theorem dX12_joins_49 : decode cX12_joins 49 = .ok (.iload_n 2, 1) := by decide +kernel
theorem dX12_joins_50 : decode cX12_joins 50 = .ok (.iaload, 1) := by decide +kernel
theorem dX12_joins_51 : decode cX12_joins 51 = .ok (.iconst 2, 1) := by decide +kernel
theorem dX12_joins_52 : decode cX12_joins 52 = .ok (.if_icmp .ne 14, 3) := by decide +kernel
theorem dX12_joins_55 : decode cX12_joins 55 = .ok (.aload_n 0, 1) := by decide +kernel
theorem dX12_joins_56 : decode cX12_joins 56 = .ok (.iconst 5, 1) := by decide +kernel
theorem dX12_joins_57 : decode cX12_joins 57 = .ok (.aload_n 0, 1) := by decide +kernel
theorem dX12_joins_58 : decode cX12_joins 58 = .ok (.getfield 156, 3) := by decide +kernel
theorem dX12_joins_61 : decode cX12_joins 61 = .ok (.iload_n 1, 1) := by decide +kernel
theorem dX12_joins_62 : decode cX12_joins 62 = .ok (.iaload, 1) := by decide +kernel
theorem dX12_joins_63 : decode cX12_joins 63 = .ok (.invokevirtual 325, 3) := by decide +kernel
theorem dX12_joins_66 : decode cX12_joins 66 = .ok (.iload_n 3, 1) := by decide +kernel
theorem dX12_joins_67 : decode cX12_joins 67 = .ok (.iconst (-1), 1) := by decide +kernel
theorem dX12_joins_68 : decode cX12_joins 68 = .ok (.if_icmp .eq 31, 3) := by decide +kernel
theorem dX12_joins_71 : decode cX12_joins 71 = .ok (.aload_n 0, 1) := by decide +kernel
theorem dX12_joins_72 : decode cX12_joins 72 = .ok (.getfield 85, 3) := by decide +kernel
theorem dX12_joins_75 : decode cX12_joins 75 = .ok (.iload_n 3, 1) := by decide +kernel
theorem dX12_joins_76 : decode cX12_joins 76 = .ok (.iaload, 1) := by decide +kernel
theorem dX12_joins_77 : decode cX12_joins 77 = .ok (.iconst 2, 1) := by decide +kernel
theorem dX12_joins_78 : decode cX12_joins 78 = .ok (.if_icmp .eq 8, 3) := by decide +kernel
theorem dX12_joins_81 : decode cX12_joins 81 = .ok (.iload_n 3, 1) := by decide +kernel
theorem dX12_joins_82 : decode cX12_joins 82 = .ok (.iload_n 2, 1) := by decide +kernel
theorem dX12_joins_83 : decode cX12_joins 83 = .ok (.if_icmp .ne 16, 3) := by decide +kernel
theorem dX12_joins_86 : decode cX12_joins 86 = .ok (.aload_n 0, 1) := by decide +kernel
theorem dX12_joins_87 : decode cX12_joins 87 = .ok (.iconst 5, 1) := by decide +kernel
theorem dX12_joins_88 : decode cX12_joins 88 = .ok (.aload_n 0, 1) := by decide +kernel
theorem dX12_joins_89 : decode cX12_joins 89 = .ok (.getfield 156, 3) := by decide +kernel
theorem dX12_joins_92 : decode cX12_joins 92 = .ok (.iload_n 1, 1) := by decide +kernel
theorem dX12_joins_93 : decode cX12_joins 93 = .ok (.iconst 1, 1) := by decide +kernel
theorem dX12_joins_94 : decode cX12_joins 94 = .ok (.iadd, 1) := by decide +kernel
theorem dX12_joins_95 : decode cX12_joins 95 = .ok (.iaload, 1) := by decide +kernel
theorem dX12_joins_96 : decode cX12_joins 96 = .ok (.invokevirtual 325, 3) := by decide +kernel
theorem dX12_joins_99 : decode cX12_joins 99 = .ok (.aload_n 0, 1) := by decide +kernel
theorem dX12_joins_100 : decode cX12_joins 100 = .ok (.getfield 353, 3) := by decide +kernel
theorem dX12_joins_103 : decode cX12_joins 103 = .ok (.aload_n 0, 1) := by decide +kernel
theorem dX12_joins_104 : decode cX12_joins 104 = .ok (.getfield 335, 3) := by decide +kernel
theorem dX12_joins_107 : decode cX12_joins 107 = .ok (.iconst 2, 1) := by decide +kernel
theorem dX12_joins_108 : decode cX12_joins 108 = .ok (.idiv, 1) := by decide +kernel
theorem dX12_joins_109 : decode cX12_joins 109 = .ok (.isub, 1) := by decide +kernel
theorem dX12_joins_110 : decode cX12_joins 110 = .ok (.iload_n 1, 1) := by decide +kernel
theorem dX12_joins_111 : decode cX12_joins 111 = .ok (.iconst 2, 1) := by decide +kernel
theorem dX12_joins_112 : decode cX12_joins 112 = .ok (.idiv, 1) := by decide +kernel
theorem dX12_joins_113 : decode cX12_joins 113 = .ok (.iadd, 1) := by decide +kernel
theorem dX12_joins_114 : decode cX12_joins 114 = .ok (.istore 4, 2) := by decide +kernel
theorem dX12_joins_116 : decode cX12_joins 116 = .ok (.aload_n 0, 1) := by decide +kernel
theorem dX12_joins_117 : decode cX12_joins 117 = .ok (.getfield 73, 3) := by decide +kernel
theorem dX12_joins_120 : decode cX12_joins 120 = .ok (.iload 4, 2) := by decide +kernel
theorem dX12_joins_122 : decode cX12_joins 122 = .ok (.iload_n 2, 1) := by decide +kernel
theorem dX12_joins_123 : decode cX12_joins 123 = .ok (.iastore, 1) := by decide +kernel
theorem dX12_joins_124 : decode cX12_joins 124 = .ok (.aload_n 0, 1) := by decide +kernel
theorem dX12_joins_125 : decode cX12_joins 125 = .ok (.getfield 76, 3) := by decide +kernel
theorem dX12_joins_128 : decode cX12_joins 128 = .ok (.iload 4, 2) := by decide +kernel
theorem dX12_joins_130 : decode cX12_joins 130 = .ok (.iload_n 3, 1) := by decide +kernel
theorem dX12_joins_131 : decode cX12_joins 131 = .ok (.iastore, 1) := by decide +kernel
theorem dX12_joins_132 : decode cX12_joins 132 = .ok (.return_, 1) := by decide +kernel
def fX12_joins_99  (h : MS) (x1 : Int32) (x2 : Int32) (x3 : Int32) : Option (MS) :=
  oL (((mI h 23) - ((mI h 63) / 2)) + (x1 / 2)) (fun y1 => oC (ix y1 (mlen 36)) (oL (mSA h 36 (Int32.toNatClampNeg y1) x2) (fun h3 => oC (ix y1 (mlen 37)) (oL (mSA h3 37 (Int32.toNatClampNeg y1) x3) (fun h5 => some (h5))))))
set_option maxHeartbeats 4000000 in
theorem wfX12_joins_99 {args : Array Value} (b : Bd p s m c cX12_joins 5 RX12 D aC) (hlk : meth.locks = false) (hr : meth.sig.returnType = none) {Z : State → Prop} (zs : Z s) (zk : ZOK Z (Rg ad)) {hz : MS} {h : MS} {x1 : Int32} {x2 : Int32} {x3 : Int32}  {H : Heap} {locs : List Loc} {ls : Array Slot} (hf : fX12_joins_99 h x1 x2 x3 = some hz) (hE : CE (EM D aC ad h) (Rg ad) s H locs) (hl : lv_has ls 5 [(0, .ref (ad 116)), (1, .int x1), (2, .int x2), (3, .int x3)]) : W p l e (RM 2 48 0 0) s m args below meth c H locs 0 0 (MQ below (PQ (EM D aC ad hz) (Rg ad) none) args s 0 0 (Rg ad)) (F0 m 99 ls []) := by
  unfold fX12_joins_99 at hf
  refine lv_aload_n b.1 b.2.1 dX12_joins_99 rfl (lv_at hl 0 rfl) ?_
  refine gM_353 b hE dX12_joins_100 ?_
  refine lv_aload_n b.1 b.2.1 dX12_joins_103 rfl (lv_at hl 0 rfl) ?_
  refine gM_335 b hE dX12_joins_104 ?_
  refine lv_iconst (v := 2) b.1 b.2.1 dX12_joins_107 (by decide) ?_
  refine lv_idiv b.1 b.2.1 dX12_joins_108 (by decide) ?_
  refine lv_isub b.1 b.2.1 dX12_joins_109 ?_
  refine lv_iload_n b.1 b.2.1 dX12_joins_110 rfl (lv_at hl 1 rfl) ?_
  refine lv_iconst (v := 2) b.1 b.2.1 dX12_joins_111 (by decide) ?_
  refine lv_idiv b.1 b.2.1 dX12_joins_112 (by decide) ?_
  refine lv_iadd b.1 b.2.1 dX12_joins_113 ?_
  obtain ⟨y1, ey1, hf⟩ := oL_s hf
  refine k_nmI ey1 ?_
  refine lv_istore (lv' := [(4, .int y1), (0, .ref (ad 116)), (1, .int x1), (2, .int x2), (3, .int x3)]) b.1 b.2.1 dX12_joins_114 hl (by decide) rfl (fun ls hl => ?_)
  have hl := lv_sub (l' := [(4, .int y1), (0, .ref (ad 116)), (2, .int x2), (3, .int x3)]) hl [0, 1, 3, 4] rfl
  refine lv_aload_n b.1 b.2.1 dX12_joins_116 rfl (lv_at hl 1 rfl) ?_
  refine gM_73 b hE dX12_joins_117 ?_
  refine lv_iload b.1 b.2.1 dX12_joins_120 (lv_at hl 0 rfl) ?_
  refine lv_iload_n b.1 b.2.1 dX12_joins_122 rfl (lv_at hl 2 rfl) ?_
  obtain ⟨g2, hf⟩ := oC_s hf
  obtain ⟨h3, eh3, hf⟩ := oL_s hf
  refine n_iast b hE rfl rfl g2 eh3 dX12_joins_123 (fun H locs hE => ?_)
  refine lv_aload_n b.1 b.2.1 dX12_joins_124 rfl (lv_at hl 1 rfl) ?_
  refine gM_76 b hE dX12_joins_125 ?_
  refine lv_iload b.1 b.2.1 dX12_joins_128 (lv_at hl 0 rfl) ?_
  refine lv_iload_n b.1 b.2.1 dX12_joins_130 rfl (lv_at hl 3 rfl) ?_
  obtain ⟨g4, hf⟩ := oC_s hf
  obtain ⟨h5, eh5, hf⟩ := oL_s hf
  refine n_iast b hE rfl rfl g4 eh5 dX12_joins_131 (fun H locs hE => ?_)
  cases hf
  exact k_vret b hlk hr hE (Nat.le_refl _) (Nat.le_refl _) dX12_joins_132
def fX12_joins_86  (h : MS) (x1 : Int32) (x2 : Int32) (x3 : Int32) : Option (MS) :=
  oC (ix (x1 + 1) (mlen 64)) (oB (fX12_wrong h 5 (mA h 64 (Int32.toNatClampNeg (x1 + 1)))) (fun h8 => fX12_joins_99  h8 x1 x2 x3))
set_option maxHeartbeats 4000000 in
theorem wfX12_joins_86 {args : Array Value} (b : Bd p s m c cX12_joins 5 RX12 D aC) (hlk : meth.locks = false) (hr : meth.sig.returnType = none) {Z : State → Prop} (zs : Z s) (zk : ZOK Z (Rg ad)) {hz : MS} {h : MS} {x1 : Int32} {x2 : Int32} {x3 : Int32}  {H : Heap} {locs : List Loc} {ls : Array Slot} (hf : fX12_joins_86 h x1 x2 x3 = some hz) (hE : CE (EM D aC ad h) (Rg ad) s H locs) (hl : lv_has ls 5 [(0, .ref (ad 116)), (1, .int x1), (2, .int x2), (3, .int x3)]) : W p l e (RM 2 48 0 0) s m args below meth c H locs 0 0 (MQ below (PQ (EM D aC ad hz) (Rg ad) none) args s 0 0 (Rg ad)) (F0 m 86 ls []) := by
  unfold fX12_joins_86 at hf
  refine lv_aload_n b.1 b.2.1 dX12_joins_86 rfl (lv_at hl 0 rfl) ?_
  refine lv_iconst (v := 5) b.1 b.2.1 dX12_joins_87 (by decide) ?_
  refine lv_aload_n b.1 b.2.1 dX12_joins_88 rfl (lv_at hl 0 rfl) ?_
  refine gM_156 b hE dX12_joins_89 ?_
  refine lv_iload_n b.1 b.2.1 dX12_joins_92 rfl (lv_at hl 1 rfl) ?_
  refine lv_iconst (v := 1) b.1 b.2.1 dX12_joins_93 (by decide) ?_
  refine lv_iadd b.1 b.2.1 dX12_joins_94 ?_
  obtain ⟨g6, hf⟩ := oC_s hf
  refine m_iald b hE rfl rfl g6 dX12_joins_95 ?_
  obtain ⟨h8, hc7, hf⟩ := oB_s hf
  refine k_callV0 (C := RX12) b zs zk hE (CX12_wrong l D aC ad zk hc7) mc_X12_wrong (in7 136 rfl rfl) mi_X12_wrong ms_X12_wrong ini_RX12 ok_X12_wrong (m_recv b hE) ⟨Nat.le_of_ble_eq_true rfl, Nat.le_of_ble_eq_true rfl⟩ rfl hl.1 rfl (k_room _ (by exact Nat.le_of_ble_eq_true rfl)) ⟨Nat.le_refl _, Nat.le_refl _⟩ dX12_joins_96 (fun H locs hE => ?_)
  exact wfX12_joins_99 b hlk hr zs zk  hf hE (lv_sub hl [0, 1, 2, 3] rfl)
def fX12_joins_66  (h : MS) (x1 : Int32) (x2 : Int32) (x3 : Int32) : Option (MS) :=
  if x3 = (-1) then (fX12_joins_99  h x1 x2 x3) else (oC (ix x3 (mlen 40)) (if (mA h 40 (Int32.toNatClampNeg x3)) = 2 then (fX12_joins_86  h x1 x2 x3) else (if x3 = x2 then (fX12_joins_86  h x1 x2 x3) else (fX12_joins_99  h x1 x2 x3))))
set_option maxHeartbeats 4000000 in
theorem wfX12_joins_66 {args : Array Value} (b : Bd p s m c cX12_joins 5 RX12 D aC) (hlk : meth.locks = false) (hr : meth.sig.returnType = none) {Z : State → Prop} (zs : Z s) (zk : ZOK Z (Rg ad)) {hz : MS} {h : MS} {x1 : Int32} {x2 : Int32} {x3 : Int32}  {H : Heap} {locs : List Loc} {ls : Array Slot} (hf : fX12_joins_66 h x1 x2 x3 = some hz) (hE : CE (EM D aC ad h) (Rg ad) s H locs) (hl : lv_has ls 5 [(0, .ref (ad 116)), (1, .int x1), (2, .int x2), (3, .int x3)]) : W p l e (RM 2 48 0 0) s m args below meth c H locs 0 0 (MQ below (PQ (EM D aC ad hz) (Rg ad) none) args s 0 0 (Rg ad)) (F0 m 66 ls []) := by
  unfold fX12_joins_66 at hf
  refine lv_iload_n b.1 b.2.1 dX12_joins_66 rfl (lv_at hl 3 rfl) ?_
  refine lv_iconst (v := (-1)) b.1 b.2.1 dX12_joins_67 (by decide) ?_
  refine lv_icmp_eq (tgt := 99) b.1 b.2.1 dX12_joins_68 (by decide) (fun c9 => ?_) (fun c9 => ?_)
  · have hf := oI_t c9 hf
    exact wfX12_joins_99 b hlk hr zs zk  hf hE (lv_sub hl [0, 1, 2, 3] rfl)
  · have hf := oI_f c9 hf
    refine lv_aload_n b.1 b.2.1 dX12_joins_71 rfl (lv_at hl 0 rfl) ?_
    refine gM_85 b hE dX12_joins_72 ?_
    refine lv_iload_n b.1 b.2.1 dX12_joins_75 rfl (lv_at hl 3 rfl) ?_
    obtain ⟨g10, hf⟩ := oC_s hf
    refine m_iald b hE rfl rfl g10 dX12_joins_76 ?_
    refine lv_iconst (v := 2) b.1 b.2.1 dX12_joins_77 (by decide) ?_
    refine lv_icmp_eq (tgt := 86) b.1 b.2.1 dX12_joins_78 (by decide) (fun c11 => ?_) (fun c11 => ?_)
    · have hf := oI_t c11 hf
      exact wfX12_joins_86 b hlk hr zs zk  hf hE (lv_sub hl [0, 1, 2, 3] rfl)
    · have hf := oI_f c11 hf
      refine lv_iload_n b.1 b.2.1 dX12_joins_81 rfl (lv_at hl 3 rfl) ?_
      refine lv_iload_n b.1 b.2.1 dX12_joins_82 rfl (lv_at hl 2 rfl) ?_
      refine lv_icmp_ne (tgt := 99) b.1 b.2.1 dX12_joins_83 (by decide) (fun c12 => ?_) (fun c12 => ?_)
      · have hf := oI_f c12 hf
        exact wfX12_joins_99 b hlk hr zs zk  hf hE (lv_sub hl [0, 1, 2, 3] rfl)
      · have hf := oI_t c12 hf
        exact wfX12_joins_86 b hlk hr zs zk  hf hE (lv_sub hl [0, 1, 2, 3] rfl)
def fX12_joins_0  (h : MS) (x1 : Int32) : Option (MS) :=
  oC (ix x1 (mlen 64)) (oB2 (fX12_known h 38 (mI h 22) (mA h 64 (Int32.toNatClampNeg x1))) (fun h16 r15 => oC (ix (x1 + 1) (mlen 64)) (oB2 (fX12_known h16 38 (mI h16 22) (mA h16 64 (Int32.toNatClampNeg (x1 + 1)))) (fun h20 r19 => if r15 = (-1) then (fX12_joins_66  h20 x1 r15 r19) else (oC (ix r15 (mlen 40)) (if (mA h20 40 (Int32.toNatClampNeg r15)) = 2 then (oC (ix x1 (mlen 64)) (oB (fX12_wrong h20 5 (mA h20 64 (Int32.toNatClampNeg x1))) (fun h26 => fX12_joins_66  h26 x1 r15 r19))) else (fX12_joins_66  h20 x1 r15 r19)))))))
set_option maxHeartbeats 4000000 in
theorem wfX12_joins_0 {args : Array Value} (b : Bd p s m c cX12_joins 5 RX12 D aC) (hlk : meth.locks = false) (hr : meth.sig.returnType = none) {Z : State → Prop} (zs : Z s) (zk : ZOK Z (Rg ad)) {hz : MS} {h : MS} {x1 : Int32}  {H : Heap} {locs : List Loc} {ls : Array Slot} (hf : fX12_joins_0 h x1 = some hz) (hE : CE (EM D aC ad h) (Rg ad) s H locs) (hl : lv_has ls 5 [(0, .ref (ad 116)), (1, .int x1)]) : W p l e (RM 2 48 0 0) s m args below meth c H locs 0 0 (MQ below (PQ (EM D aC ad hz) (Rg ad) none) args s 0 0 (Rg ad)) (F0 m 0 ls []) := by
  unfold fX12_joins_0 at hf
  refine lv_aload_n b.1 b.2.1 dX12_joins_0 rfl (lv_at hl 0 rfl) ?_
  refine lv_aload_n b.1 b.2.1 dX12_joins_1 rfl (lv_at hl 0 rfl) ?_
  refine gM_79 b hE dX12_joins_2 ?_
  refine lv_aload_n b.1 b.2.1 dX12_joins_5 rfl (lv_at hl 0 rfl) ?_
  refine gM_350 b hE dX12_joins_6 ?_
  refine lv_aload_n b.1 b.2.1 dX12_joins_9 rfl (lv_at hl 0 rfl) ?_
  refine gM_156 b hE dX12_joins_10 ?_
  refine lv_iload_n b.1 b.2.1 dX12_joins_13 rfl (lv_at hl 1 rfl) ?_
  obtain ⟨g13, hf⟩ := oC_s hf
  refine m_iald b hE rfl rfl g13 dX12_joins_14 ?_
  obtain ⟨h16, r15, hc14, hf⟩ := oB2_s hf
  refine k_callV0 (C := RX12) b zs zk hE (CX12_known l D aC ad zk hc14) mc_X12_known (in7 165 rfl rfl) mi_X12_known ms_X12_known ini_RX12 ok_X12_known (m_recv b hE) ⟨Nat.le_of_ble_eq_true rfl, Nat.le_of_ble_eq_true rfl⟩ rfl hl.1 rfl (k_room _ (by exact Nat.le_of_ble_eq_true rfl)) ⟨Nat.le_refl _, Nat.le_refl _⟩ dX12_joins_15 (fun H locs hE => ?_)
  refine lv_istore_n (lv' := [(2, .int r15), (0, .ref (ad 116)), (1, .int x1)]) b.1 b.2.1 dX12_joins_18 rfl hl (by decide) rfl (fun ls hl => ?_)
  refine lv_aload_n b.1 b.2.1 dX12_joins_19 rfl (lv_at hl 1 rfl) ?_
  refine lv_aload_n b.1 b.2.1 dX12_joins_20 rfl (lv_at hl 1 rfl) ?_
  refine gM_79 b hE dX12_joins_21 ?_
  refine lv_aload_n b.1 b.2.1 dX12_joins_24 rfl (lv_at hl 1 rfl) ?_
  refine gM_350 b hE dX12_joins_25 ?_
  refine lv_aload_n b.1 b.2.1 dX12_joins_28 rfl (lv_at hl 1 rfl) ?_
  refine gM_156 b hE dX12_joins_29 ?_
  refine lv_iload_n b.1 b.2.1 dX12_joins_32 rfl (lv_at hl 2 rfl) ?_
  refine lv_iconst (v := 1) b.1 b.2.1 dX12_joins_33 (by decide) ?_
  refine lv_iadd b.1 b.2.1 dX12_joins_34 ?_
  obtain ⟨g17, hf⟩ := oC_s hf
  refine m_iald b hE rfl rfl g17 dX12_joins_35 ?_
  obtain ⟨h20, r19, hc18, hf⟩ := oB2_s hf
  refine k_callV0 (C := RX12) b zs zk hE (CX12_known l D aC ad zk hc18) mc_X12_known (in7 165 rfl rfl) mi_X12_known ms_X12_known ini_RX12 ok_X12_known (m_recv b hE) ⟨Nat.le_of_ble_eq_true rfl, Nat.le_of_ble_eq_true rfl⟩ rfl hl.1 rfl (k_room _ (by exact Nat.le_of_ble_eq_true rfl)) ⟨Nat.le_refl _, Nat.le_refl _⟩ dX12_joins_36 (fun H locs hE => ?_)
  refine lv_istore_n (lv' := [(3, .int r19), (2, .int r15), (0, .ref (ad 116)), (1, .int x1)]) b.1 b.2.1 dX12_joins_39 rfl hl (by decide) rfl (fun ls hl => ?_)
  refine lv_iload_n b.1 b.2.1 dX12_joins_40 rfl (lv_at hl 1 rfl) ?_
  refine lv_iconst (v := (-1)) b.1 b.2.1 dX12_joins_41 (by decide) ?_
  refine lv_icmp_eq (tgt := 66) b.1 b.2.1 dX12_joins_42 (by decide) (fun c21 => ?_) (fun c21 => ?_)
  · have hf := oI_t c21 hf
    exact wfX12_joins_66 b hlk hr zs zk  hf hE (lv_sub hl [2, 3, 1, 0] rfl)
  · have hf := oI_f c21 hf
    refine lv_aload_n b.1 b.2.1 dX12_joins_45 rfl (lv_at hl 2 rfl) ?_
    refine gM_85 b hE dX12_joins_46 ?_
    refine lv_iload_n b.1 b.2.1 dX12_joins_49 rfl (lv_at hl 1 rfl) ?_
    obtain ⟨g22, hf⟩ := oC_s hf
    refine m_iald b hE rfl rfl g22 dX12_joins_50 ?_
    refine lv_iconst (v := 2) b.1 b.2.1 dX12_joins_51 (by decide) ?_
    refine lv_icmp_ne (tgt := 66) b.1 b.2.1 dX12_joins_52 (by decide) (fun c23 => ?_) (fun c23 => ?_)
    · have hf := oI_f c23 hf
      exact wfX12_joins_66 b hlk hr zs zk  hf hE (lv_sub hl [2, 3, 1, 0] rfl)
    · have hf := oI_t c23 hf
      refine lv_aload_n b.1 b.2.1 dX12_joins_55 rfl (lv_at hl 2 rfl) ?_
      refine lv_iconst (v := 5) b.1 b.2.1 dX12_joins_56 (by decide) ?_
      refine lv_aload_n b.1 b.2.1 dX12_joins_57 rfl (lv_at hl 2 rfl) ?_
      refine gM_156 b hE dX12_joins_58 ?_
      refine lv_iload_n b.1 b.2.1 dX12_joins_61 rfl (lv_at hl 3 rfl) ?_
      obtain ⟨g24, hf⟩ := oC_s hf
      refine m_iald b hE rfl rfl g24 dX12_joins_62 ?_
      obtain ⟨h26, hc25, hf⟩ := oB_s hf
      refine k_callV0 (C := RX12) b zs zk hE (CX12_wrong l D aC ad zk hc25) mc_X12_wrong (in7 136 rfl rfl) mi_X12_wrong ms_X12_wrong ini_RX12 ok_X12_wrong (m_recv b hE) ⟨Nat.le_of_ble_eq_true rfl, Nat.le_of_ble_eq_true rfl⟩ rfl hl.1 rfl (k_room _ (by exact Nat.le_of_ble_eq_true rfl)) ⟨Nat.le_refl _, Nat.le_refl _⟩ dX12_joins_63 (fun H locs hE => ?_)
      exact wfX12_joins_66 b hlk hr zs zk  hf hE (lv_sub hl [2, 3, 1, 0] rfl)
def fX12_joins (h : MS) (x1 : Int32) : Option (MS) := fX12_joins_0 h x1
set_option maxHeartbeats 4000000 in
theorem CX12_joins (l : Launch) (D : va_G) (aC : Nat → ClassId) (ad : Nat → Nat) {Z : State → Prop} (zk : ZOK Z (Rg ad)) {h : MS} {x1 : Int32} {hz : MS} (hf : fX12_joins h x1 = some hz) : CM l D aC Z yX12_joins cX12_joins 5 (none) 2 48 0 0 (EM D aC ad h) [.ref (ad 116), .int x1] (EM D aC ad hz) none (Rg ad) := by
  refine CM.of rfl ?_
  intro p e s m below meth c b hr hlk hin2 zs hE
  refine k_ent (Nat.le_of_ble_eq_true rfl) (fun ls hl => ?_)
  exact wfX12_joins_0 b hlk hr zs zk hf hE (lv_sub hl [0, 1] rfl)
end
