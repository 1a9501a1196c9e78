section
variable {p : Program} {l : Launch} {e : Env} {s : State} {m : MethodId} {below : List Frame} {meth : Method} {c : Code} {D : va_G} {aC : Nat → ClassId} {ad : Nat → Nat}
theorem dX12_judge_0 : decode cX12_judge 0 = .ok (.iload_n 1, 1) := by decide +kernel
theorem dX12_judge_1 : decode cX12_judge 1 = .ok (.ifCond .lt 21, 3) := by decide +kernel
theorem dX12_judge_4 : decode cX12_judge 4 = .ok (.iload_n 1, 1) := by decide +kernel
theorem dX12_judge_5 : decode cX12_judge 5 = .ok (.ldc_w 377, 3) := by decide +kernel
theorem dX12_judge_8 : decode cX12_judge 8 = .ok (.if_icmp .gt 14, 3) := by decide +kernel
theorem dX12_judge_11 : decode cX12_judge 11 = .ok (.iload_n 2, 1) := by decide +kernel
theorem dX12_judge_12 : decode cX12_judge 12 = .ok (.ifCond .lt 10, 3) := by decide +kernel
theorem dX12_judge_15 : decode cX12_judge 15 = .ok (.iload_n 2, 1) := by decide +kernel
theorem dX12_judge_16 : decode cX12_judge 16 = .ok (.ldc_w 377, 3) := by decide +kernel
theorem dX12_judge_19 : decode cX12_judge 19 = .ok (.if_icmp .le 5, 3) := by decide +kernel
theorem dX12_judge_22 : decode cX12_judge 22 = .ok (.iconst (-1), 1) := by decide +kernel
theorem dX12_judge_23 : decode cX12_judge 23 = .ok (.ireturn, 1) := by decide +kernel
theorem dX12_judge_24 : decode cX12_judge 24 = .ok (.aload_n 0, 1) := by decide +kernel
theorem dX12_judge_25 : decode cX12_judge 25 = .ok (.iload_n 1, 1) := by decide +kernel
theorem dX12_judge_26 : decode cX12_judge 26 = .ok (.iload_n 2, 1) := by decide +kernel
theorem dX12_judge_27 : decode cX12_judge 27 = .ok (.invokevirtual 493, 3) := by decide +kernel
theorem dX12_judge_30 : decode cX12_judge 30 = .ok (.aload_n 0, 1) := by decide +kernel
theorem dX12_judge_31 : decode cX12_judge 31 = .ok (.iload_n 1, 1) := by decide +kernel
theorem dX12_judge_32 : decode cX12_judge 32 = .ok (.iload_n 2, 1) := by decide +kernel
theorem dX12_judge_33 : decode cX12_judge 33 = .ok (.invokevirtual 496, 3) := by decide +kernel
theorem dX12_judge_36 : decode cX12_judge 36 = .ok (.iconst 1, 1) := by decide +kernel
theorem dX12_judge_37 : decode cX12_judge 37 = .ok (.istore_n 3, 1) := by decide +kernel
theorem dX12_judge_38 : decode cX12_judge 38 = .ok (.iload_n 3, 1) := by decide +kernel
theorem dX12_judge_39 : decode cX12_judge 39 = .ok (.ifCond .eq 15, 3) := by decide +kernel
theorem dX12_judge_42 : decode cX12_judge 42 = .ok (.aload_n 0, 1) := by decide +kernel
theorem dX12_judge_43 : decode cX12_judge 43 = .ok (.invokevirtual 499, 3) := by decide +kernel
theorem dX12_judge_46 : decode cX12_judge 46 = .ok (.aload_n 0, 1) := by decide +kernel
theorem dX12_judge_47 : decode cX12_judge 47 = .ok (.invokevirtual 502, 3) := by decide +kernel
theorem dX12_judge_50 : decode cX12_judge 50 = .ok (.istore_n 3, 1) := by decide +kernel
theorem dX12_judge_51 : decode cX12_judge 51 = .ok (.goto (-13), 3) := by decide +kernel
theorem dX12_judge_54 : decode cX12_judge 54 = .ok (.aload_n 0, 1) := by decide +kernel
theorem dX12_judge_55 : decode cX12_judge 55 = .ok (.aload_n 0, 1) := by decide +kernel
theorem dX12_judge_56 : decode cX12_judge 56 = .ok (.getfield 338, 3) := by decide +kernel
theorem dX12_judge_59 : decode cX12_judge 59 = .ok (.putfield 506, 3) := by decide +kernel
theorem dX12_judge_62 : decode cX12_judge 62 = .ok (.aload_n 0, 1) := by decide +kernel
theorem dX12_judge_63 : decode cX12_judge 63 = .ok (.aload_n 0, 1) := by decide +kernel
theorem dX12_judge_64 : decode cX12_judge 64 = .ok (.getfield 341, 3) := by decide +kernel
theorem dX12_judge_67 : decode cX12_judge 67 = .ok (.putfield 509, 3) := by decide +kernel
theorem dX12_judge_70 : decode cX12_judge 70 = .ok (.aload_n 0, 1) := by decide +kernel
theorem dX12_judge_71 : decode cX12_judge 71 = .ok (.aload_n 0, 1) := by decide +kernel
theorem dX12_judge_72 : decode cX12_judge 72 = .ok (.getfield 344, 3) := by decide +kernel
theorem dX12_judge_75 : decode cX12_judge 75 = .ok (.putfield 512, 3) := by decide +kernel
theorem dX12_judge_78 : decode cX12_judge 78 = .ok (.aload_n 0, 1) := by decide +kernel
theorem dX12_judge_79 : decode cX12_judge 79 = .ok (.iconst 1, 1) := by decide +kernel
theorem dX12_judge_80 : decode cX12_judge 80 = .ok (.putfield 515, 3) := by decide +kernel
theorem dX12_judge_83 : decode cX12_judge 83 = .ok (.aload_n 0, 1) := by decide +kernel
theorem dX12_judge_84 : decode cX12_judge 84 = .ok (.iconst 0, 1) := by decide +kernel
theorem dX12_judge_85 : decode cX12_judge 85 = .ok (.putfield 518, 3) := by decide +kernel
theorem dX12_judge_88 : decode cX12_judge 88 = .ok (.aload_n 0, 1) := by decide +kernel
theorem dX12_judge_89 : decode cX12_judge 89 = .ok (.iconst 0, 1) := by decide +kernel
theorem dX12_judge_90 : decode cX12_judge 90 = .ok (.putfield 521, 3) := by decide +kernel
theorem dX12_judge_93 : decode cX12_judge 93 = .ok (.aload_n 0, 1) := by decide +kernel
theorem dX12_judge_94 : decode cX12_judge 94 = .ok (.iconst 0, 1) := by decide +kernel
theorem dX12_judge_95 : decode cX12_judge 95 = .ok (.putfield 524, 3) := by decide +kernel
theorem dX12_judge_98 : decode cX12_judge 98 = .ok (.aload_n 0, 1) := by decide +kernel
theorem dX12_judge_99 : decode cX12_judge 99 = .ok (.iconst 0, 1) := by decide +kernel
theorem dX12_judge_100 : decode cX12_judge 100 = .ok (.putfield 527, 3) := by decide +kernel
theorem dX12_judge_103 : decode cX12_judge 103 = .ok (.iconst 0, 1) := by decide +kernel
theorem dX12_judge_104 : decode cX12_judge 104 = .ok (.istore 4, 2) := by decide +kernel
theorem dX12_judge_106 : decode cX12_judge 106 = .ok (.iload 4, 2) := by decide +kernel
theorem dX12_judge_108 : decode cX12_judge 108 = .ok (.aload_n 0, 1) := by decide +kernel
theorem dX12_judge_109 : decode cX12_judge 109 = .ok (.getfield 350, 3) := by decide +kernel
theorem dX12_judge_112 : decode cX12_judge 112 = .ok (.if_icmp .ge 55, 3) := by decide +kernel
theorem dX12_judge_115 : decode cX12_judge 115 = .ok (.iconst 0, 1) := by decide +kernel
theorem dX12_judge_116 : decode cX12_judge 116 = .ok (.istore 5, 2) := by decide +kernel
theorem dX12_judge_118 : decode cX12_judge 118 = .ok (.iload 5, 2) := by decide +kernel
theorem dX12_judge_120 : decode cX12_judge 120 = .ok (.aload_n 0, 1) := by decide +kernel
theorem dX12_judge_121 : decode cX12_judge 121 = .ok (.iload 4, 2) := by decide +kernel
theorem dX12_judge_123 : decode cX12_judge 123 = .ok (.invokevirtual 530, 3) := by decide +kernel
theorem dX12_judge_126 : decode cX12_judge 126 = .ok (.if_icmp .ge 35, 3) := by decide +kernel
theorem dX12_judge_129 : decode cX12_judge 129 = .ok (.aload_n 0, 1) := by decide +kernel
theorem dX12_judge_130 : decode cX12_judge 130 = .ok (.getfield 198, 3) := by decide +kernel
theorem dX12_judge_133 : decode cX12_judge 133 = .ok (.bipush 125, 2) := by decide +kernel
theorem dX12_judge_135 : decode cX12_judge 135 = .ok (.iload 4, 2) := by decide +kernel
theorem dX12_judge_137 : decode cX12_judge 137 = .ok (.imul, 1) := by decide +kernel
theorem dX12_judge_138 : decode cX12_judge 138 = .ok (.iload 5, 2) := by decide +kernel
theorem dX12_judge_140 : decode cX12_judge 140 = .ok (.iadd, 1) := by decide +kernel
theorem dX12_judge_141 : decode cX12_judge 141 = .ok (.baload, 1) := by decide +kernel
theorem dX12_judge_142 : decode cX12_judge 142 = .ok (.ifCond .eq 13, 3) := by decide +kernel
theorem dX12_judge_145 : decode cX12_judge 145 = .ok (.aload_n 0, 1) := by decide +kernel
theorem dX12_judge_146 : decode cX12_judge 146 = .ok (.dup, 1) := by decide +kernel
theorem dX12_judge_147 : decode cX12_judge 147 = .ok (.getfield 527, 3) := by decide +kernel
theorem dX12_judge_150 : decode cX12_judge 150 = .ok (.iconst 1, 1) := by decide +kernel
theorem dX12_judge_151 : decode cX12_judge 151 = .ok (.iadd, 1) := by decide +kernel
theorem dX12_judge_152 : decode cX12_judge 152 = .ok (.putfield 527, 3) := by decide +kernel
theorem dX12_judge_155 : decode cX12_judge 155 = .ok (.iinc 5 1, 3) := by decide +kernel
theorem dX12_judge_158 : decode cX12_judge 158 = .ok (.goto (-40), 3) := by decide +kernel
theorem dX12_judge_161 : decode cX12_judge 161 = .ok (.iinc 4 1, 3) := by decide +kernel
theorem dX12_judge_164 : decode cX12_judge 164 = .ok (.goto (-58), 3) := by decide +kernel
theorem dX12_judge_167 : decode cX12_judge 167 = .ok (.iconst 0, 1) := by decide +kernel
theorem dX12_judge_168 : decode cX12_judge 168 = .ok (.istore 4, 2) := by decide +kernel
theorem dX12_judge_170 : decode cX12_judge 170 = .ok (.iload 4, 2) := by decide +kernel
theorem dX12_judge_172 : decode cX12_judge 172 = .ok (.sipush 600, 3) := by decide +kernel
theorem dX12_judge_175 : decode cX12_judge 175 = .ok (.if_icmp .ge 119, 3) := by decide +kernel
theorem dX12_judge_178 : decode cX12_judge 178 = .ok (.aload_n 0, 1) := by decide +kernel
theorem dX12_judge_179 : decode cX12_judge 179 = .ok (.iload 4, 2) := by decide +kernel
theorem dX12_judge_181 : decode cX12_judge 181 = .ok (.invokevirtual 533, 3) := by decide +kernel
theorem dX12_judge_184 : decode cX12_judge 184 = .ok (.ifCond .ne 6, 3) := by decide +kernel
theorem dX12_judge_187 : decode cX12_judge 187 = .ok (.goto 101, 3) := by decide +kernel
theorem dX12_judge_190 : decode cX12_judge 190 = .ok (.aload_n 0, 1) := by decide +kernel
theorem dX12_judge_191 : decode cX12_judge 191 = .ok (.getfield 219, 3) := by decide +kernel
theorem dX12_judge_194 : decode cX12_judge 194 = .ok (.iload 4, 2) := by decide +kernel
theorem dX12_judge_196 : decode cX12_judge 196 = .ok (.aload_n 0, 1) := by decide +kernel
theorem dX12_judge_197 : decode cX12_judge 197 = .ok (.getfield 207, 3) := by decide +kernel
theorem dX12_judge_200 : decode cX12_judge 200 = .ok (.iload 4, 2) := by decide +kernel
theorem dX12_judge_202 : decode cX12_judge 202 = .ok (.baload, 1) := by decide +kernel
theorem dX12_judge_203 : decode cX12_judge 203 = .ok (.ifCond .eq 7, 3) := by decide +kernel
theorem dX12_judge_206 : decode cX12_judge 206 = .ok (.iconst 1, 1) := by decide +kernel
theorem dX12_judge_207 : decode cX12_judge 207 = .ok (.goto 18, 3) := by decide +kernel
theorem dX12_judge_210 : decode cX12_judge 210 = .ok (.aload_n 0, 1) := by decide +kernel
theorem dX12_judge_211 : decode cX12_judge 211 = .ok (.getfield 210, 3) := by decide +kernel
theorem dX12_judge_214 : decode cX12_judge 214 = .ok (.iload 4, 2) := by decide +kernel
theorem dX12_judge_216 : decode cX12_judge 216 = .ok (.baload, 1) := by decide +kernel
theorem dX12_judge_217 : decode cX12_judge 217 = .ok (.ifCond .eq 7, 3) := by decide +kernel
theorem dX12_judge_220 : decode cX12_judge 220 = .ok (.iconst 0, 1) := by decide +kernel
theorem dX12_judge_221 : decode cX12_judge 221 = .ok (.goto 4, 3) := by decide +kernel
theorem dX12_judge_224 : decode cX12_judge 224 = .ok (.iconst 2, 1) := by decide +kernel
theorem dX12_judge_225 : decode cX12_judge 225 = .ok (.iastore, 1) := by decide +kernel
theorem dX12_judge_226 : decode cX12_judge 226 = .ok (.aload_n 0, 1) := by decide +kernel
theorem dX12_judge_227 : decode cX12_judge 227 = .ok (.getfield 207, 3) := by decide +kernel
theorem dX12_judge_230 : decode cX12_judge 230 = .ok (.iload 4, 2) := by decide +kernel
theorem dX12_judge_232 : decode cX12_judge 232 = .ok (.baload, 1) := by decide +kernel
theorem dX12_judge_233 : decode cX12_judge 233 = .ok (.ifCond .eq 16, 3) := by decide +kernel
theorem dX12_judge_236 : decode cX12_judge 236 = .ok (.aload_n 0, 1) := by decide +kernel
theorem dX12_judge_237 : decode cX12_judge 237 = .ok (.dup, 1) := by decide +kernel
theorem dX12_judge_238 : decode cX12_judge 238 = .ok (.getfield 518, 3) := by decide +kernel
theorem dX12_judge_241 : decode cX12_judge 241 = .ok (.iconst 1, 1) := by decide +kernel
theorem dX12_judge_242 : decode cX12_judge 242 = .ok (.iadd, 1) := by decide +kernel
theorem dX12_judge_243 : decode cX12_judge 243 = .ok (.putfield 518, 3) := by decide +kernel
theorem dX12_judge_246 : decode cX12_judge 246 = .ok (.goto 36, 3) := by decide +kernel
theorem dX12_judge_249 : decode cX12_judge 249 = .ok (.aload_n 0, 1) := by decide +kernel
theorem dX12_judge_250 : decode cX12_judge 250 = .ok (.getfield 210, 3) := by decide +kernel
theorem dX12_judge_253 : decode cX12_judge 253 = .ok (.iload 4, 2) := by decide +kernel
theorem dX12_judge_255 : decode cX12_judge 255 = .ok (.baload, 1) := by decide +kernel
theorem dX12_judge_256 : decode cX12_judge 256 = .ok (.ifCond .eq 16, 3) := by decide +kernel
theorem dX12_judge_259 : decode cX12_judge 259 = .ok (.aload_n 0, 1) := by decide +kernel
theorem dX12_judge_260 : decode cX12_judge 260 = .ok (.dup, 1) := by decide +kernel
theorem dX12_judge_261 : decode cX12_judge 261 = .ok (.getfield 521, 3) := by decide +kernel
theorem dX12_judge_264 : decode cX12_judge 264 = .ok (.iconst 1, 1) := by decide +kernel
theorem dX12_judge_265 : decode cX12_judge 265 = .ok (.iadd, 1) := by decide +kernel
theorem dX12_judge_266 : decode cX12_judge 266 = .ok (.putfield 521, 3) := by decide +kernel
theorem dX12_judge_269 : decode cX12_judge 269 = .ok (.goto 13, 3) := by decide +kernel
theorem dX12_judge_272 : decode cX12_judge 272 = .ok (.aload_n 0, 1) := by decide +kernel
theorem dX12_judge_273 : decode cX12_judge 273 = .ok (.dup, 1) := by decide +kernel
theorem dX12_judge_274 : decode cX12_judge 274 = .ok (.getfield 524, 3) := by decide +kernel
theorem dX12_judge_277 : decode cX12_judge 277 = .ok (.iconst 1, 1) := by decide +kernel
theorem dX12_judge_278 : decode cX12_judge 278 = .ok (.iadd, 1) := by decide +kernel
theorem dX12_judge_279 : decode cX12_judge 279 = .ok (.putfield 524, 3) := by decide +kernel
theorem dX12_judge_282 : decode cX12_judge 282 = .ok (.aload_n 0, 1) := by decide +kernel
theorem dX12_judge_283 : decode cX12_judge 283 = .ok (.iload 4, 2) := by decide +kernel
theorem dX12_judge_285 : decode cX12_judge 285 = .ok (.invokevirtual 536, 3) := by decide +kernel
theorem dX12_judge_288 : decode cX12_judge 288 = .ok (.iinc 4 1, 3) := by decide +kernel
theorem dX12_judge_291 : decode cX12_judge 291 = .ok (.goto (-121), 3) := by decide +kernel
theorem dX12_judge_294 : decode cX12_judge 294 = .ok (.iconst 0, 1) := by decide +kernel
theorem dX12_judge_295 : decode cX12_judge 295 = .ok (.istore 4, 2) := by decide +kernel
theorem dX12_judge_297 : decode cX12_judge 297 = .ok (.iload 4, 2) := by decide +kernel
theorem dX12_judge_299 : decode cX12_judge 299 = .ok (.aload_n 0, 1) := by decide +kernel
theorem dX12_judge_300 : decode cX12_judge 300 = .ok (.getfield 344, 3) := by decide +kernel
theorem dX12_judge_303 : decode cX12_judge 303 = .ok (.if_icmp .ge 35, 3) := by decide +kernel
theorem dX12_judge_306 : decode cX12_judge 306 = .ok (.iconst 0, 1) := by decide +kernel
theorem dX12_judge_307 : decode cX12_judge 307 = .ok (.istore 5, 2) := by decide +kernel
theorem dX12_judge_309 : decode cX12_judge 309 = .ok (.iload 5, 2) := by decide +kernel
theorem dX12_judge_311 : decode cX12_judge 311 = .ok (.aload_n 0, 1) := by decide +kernel
theorem dX12_judge_312 : decode cX12_judge 312 = .ok (.getfield 338, 3) := by decide +kernel
theorem dX12_judge_315 : decode cX12_judge 315 = .ok (.if_icmp .ge 17, 3) := by decide +kernel
theorem dX12_judge_318 : decode cX12_judge 318 = .ok (.aload_n 0, 1) := by decide +kernel
theorem dX12_judge_319 : decode cX12_judge 319 = .ok (.iload 4, 2) := by decide +kernel
theorem dX12_judge_321 : decode cX12_judge 321 = .ok (.iload 5, 2) := by decide +kernel
theorem dX12_judge_323 : decode cX12_judge 323 = .ok (.invokevirtual 539, 3) := by decide +kernel
theorem dX12_judge_326 : decode cX12_judge 326 = .ok (.iinc 5 1, 3) := by decide +kernel
theorem dX12_judge_329 : decode cX12_judge 329 = .ok (.goto (-20), 3) := by decide +kernel
theorem dX12_judge_332 : decode cX12_judge 332 = .ok (.iinc 4 1, 3) := by decide +kernel
theorem dX12_judge_335 : decode cX12_judge 335 = .ok (.goto (-38), 3) := by decide +kernel
theorem dX12_judge_338 : decode cX12_judge 338 = .ok (.aload_n 0, 1) := by decide +kernel
theorem dX12_judge_339 : decode cX12_judge 339 = .ok (.getfield 518, 3) := by decide +kernel
theorem dX12_judge_342 : decode cX12_judge 342 = .ok (.ireturn, 1) := by decide +kernel
def fX12_judge_309F (k297 : MS → Int32 → Option (MS × Int32)) (k309 : MS → Int32 → Int32 → Option (MS × Int32)) (h : MS) (x4 : Int32) (x5 : Int32) : Option (MS × Int32) :=
  if (mI h 18) ≤ x5 then (oL (x4 + 1) (fun y2 => k297 h y2)) else (oB (fX12_reckons h x4 x5) (fun h4 => oL (x5 + 1) (fun y5 => k309 h4 x4 y5)))
set_option maxHeartbeats 4000000 in
theorem wfX12_judge_309F {args : Array Value} (b : Bd p s m c cX12_judge 6 RX12 D aC) (hlk : meth.locks = false) (hr : meth.sig.returnType = some .int) {Z : State → Prop} (zs : Z s) (zk : ZOK Z (Rg ad)) {hz : MS} {rz : Int32} {k297 : MS → Int32 → Option (MS × Int32)} (H297 : ∀ (h : MS) (x4 : Int32), ∀ (H : Heap) (locs : List Loc) (ls : Array Slot), k297 h x4 = some (hz, rz) → CE (EM D aC ad h) (Rg ad) s H locs → lv_has ls 6 [(0, .ref (ad 116)), (4, .int x4)] → W p l e (RM 7 186 0 0) s m args below meth c H locs 0 0 (MQ below (PQ (EM D aC ad hz) (Rg ad) (some (.int rz))) args s 0 0 (Rg ad)) (F0 m 297 ls [])) {k309 : MS → Int32 → Int32 → Option (MS × Int32)} (H309 : ∀ (h : MS) (x4 : Int32) (x5 : Int32), ∀ (H : Heap) (locs : List Loc) (ls : Array Slot), k309 h x4 x5 = some (hz, rz) → CE (EM D aC ad h) (Rg ad) s H locs → lv_has ls 6 [(0, .ref (ad 116)), (4, .int x4), (5, .int x5)] → W p l e (RM 7 186 0 0) s m args below meth c H locs 0 0 (MQ below (PQ (EM D aC ad hz) (Rg ad) (some (.int rz))) args s 0 0 (Rg ad)) (F0 m 309 ls [])) {h : MS} {x4 : Int32} {x5 : Int32}  {H : Heap} {locs : List Loc} {ls : Array Slot} (hf : fX12_judge_309F k297 k309 h x4 x5 = some (hz, rz)) (hE : CE (EM D aC ad h) (Rg ad) s H locs) (hl : lv_has ls 6 [(0, .ref (ad 116)), (4, .int x4), (5, .int x5)]) : W p l e (RM 7 186 0 0) s m args below meth c H locs 0 0 (MQ below (PQ (EM D aC ad hz) (Rg ad) (some (.int rz))) args s 0 0 (Rg ad)) (F0 m 309 ls []) := by
  unfold fX12_judge_309F at hf
  refine lv_iload b.1 b.2.1 dX12_judge_309 (lv_at hl 2 rfl) ?_
  refine lv_aload_n b.1 b.2.1 dX12_judge_311 rfl (lv_at hl 0 rfl) ?_
  refine gM_338 b hE dX12_judge_312 ?_
  refine lv_icmp_ge (tgt := 332) b.1 b.2.1 dX12_judge_315 (by decide) (fun c1 => ?_) (fun c1 => ?_)
  · have hf := oI_t c1 hf
    obtain ⟨y2, ey2, hf⟩ := oL_s hf
    refine lv_iinc (v := y2) (lv' := [(4, .int y2), (0, .ref (ad 116)), (5, .int x5)]) b.1 b.2.1 dX12_judge_332 hl (k := 1) rfl (by rw [ey2]; rfl) (by decide) rfl (fun ls hl => ?_)
    refine lv_goto (tgt := 297) b.1 b.2.1 dX12_judge_335 (by decide) ?_
    exact H297 h y2 _ _ _ hf hE (lv_sub hl [1, 0] rfl)
  · have hf := oI_f c1 hf
    refine lv_aload_n b.1 b.2.1 dX12_judge_318 rfl (lv_at hl 0 rfl) ?_
    refine lv_iload b.1 b.2.1 dX12_judge_319 (lv_at hl 1 rfl) ?_
    refine lv_iload b.1 b.2.1 dX12_judge_321 (lv_at hl 2 rfl) ?_
    obtain ⟨h4, hc3, hf⟩ := oB_s hf
    refine k_callV0 (C := RX12) b zs zk hE (CX12_reckons l D aC ad zk hc3) mc_X12_reckons (in8 80 rfl rfl) mi_X12_reckons ms_X12_reckons ini_RX12 ok_X12_reckons (m_recv b hE) ⟨Nat.le_of_ble_eq_true rfl, Nat.le_of_ble_eq_true rfl⟩ rfl hl.1 rfl (k_room _ (by exact Nat.le_of_ble_eq_true rfl)) ⟨Nat.le_refl _, Nat.le_refl _⟩ dX12_judge_323 (fun H locs hE => ?_)
    obtain ⟨y5, ey5, hf⟩ := oL_s hf
    refine lv_iinc (v := y5) (lv' := [(5, .int y5), (0, .ref (ad 116)), (4, .int x4)]) b.1 b.2.1 dX12_judge_326 hl (k := 2) rfl (by rw [ey5]; rfl) (by decide) rfl (fun ls hl => ?_)
    refine lv_goto (tgt := 309) b.1 b.2.1 dX12_judge_329 (by decide) ?_
    exact H309 h4 x4 y5 _ _ _ hf hE (lv_sub hl [1, 2, 0] rfl)
def fX12_judge_309 (k297 : MS → Int32 → Option (MS × Int32)) : Nat → MS → Int32 → Int32 → Option (MS × Int32)
  | 0 => fun _ _ _ => none
  | n + 1 => fX12_judge_309F k297 (fX12_judge_309 k297 n)
set_option maxHeartbeats 4000000 in
theorem wfX12_judge_309 {args : Array Value} (b : Bd p s m c cX12_judge 6 RX12 D aC) (hlk : meth.locks = false) (hr : meth.sig.returnType = some .int) {Z : State → Prop} (zs : Z s) (zk : ZOK Z (Rg ad)) {hz : MS} {rz : Int32} {k297 : MS → Int32 → Option (MS × Int32)} (H297 : ∀ (h : MS) (x4 : Int32), ∀ (H : Heap) (locs : List Loc) (ls : Array Slot), k297 h x4 = some (hz, rz) → CE (EM D aC ad h) (Rg ad) s H locs → lv_has ls 6 [(0, .ref (ad 116)), (4, .int x4)] → W p l e (RM 7 186 0 0) s m args below meth c H locs 0 0 (MQ below (PQ (EM D aC ad hz) (Rg ad) (some (.int rz))) args s 0 0 (Rg ad)) (F0 m 297 ls [])) : ∀ n : Nat, ∀ (h : MS) (x4 : Int32) (x5 : Int32), ∀ (H : Heap) (locs : List Loc) (ls : Array Slot), fX12_judge_309 k297 n h x4 x5 = some (hz, rz) → CE (EM D aC ad h) (Rg ad) s H locs → lv_has ls 6 [(0, .ref (ad 116)), (4, .int x4), (5, .int x5)] → W p l e (RM 7 186 0 0) s m args below meth c H locs 0 0 (MQ below (PQ (EM D aC ad hz) (Rg ad) (some (.int rz))) args s 0 0 (Rg ad)) (F0 m 309 ls []) := by
  intro n
  induction n with
  | zero =>
    intro h x4 x5 H locs ls hf
    have hf : (none : Option (MS × Int32)) = some _ := hf
    cases hf
  | succ n ih =>
    intro h x4 x5 H locs ls hf hE hl
    exact wfX12_judge_309F b hlk hr zs zk H297 ih hf hE hl
def fX12_judge_297F (k297 : MS → Int32 → Option (MS × Int32)) (h : MS) (x4 : Int32) : Option (MS × Int32) :=
  if (mI h 20) ≤ x4 then (some (h, (mI h 100))) else (fX12_judge_309 k297 FU h x4 0)
set_option maxHeartbeats 4000000 in
theorem wfX12_judge_297F {args : Array Value} (b : Bd p s m c cX12_judge 6 RX12 D aC) (hlk : meth.locks = false) (hr : meth.sig.returnType = some .int) {Z : State → Prop} (zs : Z s) (zk : ZOK Z (Rg ad)) {hz : MS} {rz : Int32} {k297 : MS → Int32 → Option (MS × Int32)} (H297 : ∀ (h : MS) (x4 : Int32), ∀ (H : Heap) (locs : List Loc) (ls : Array Slot), k297 h x4 = some (hz, rz) → CE (EM D aC ad h) (Rg ad) s H locs → lv_has ls 6 [(0, .ref (ad 116)), (4, .int x4)] → W p l e (RM 7 186 0 0) s m args below meth c H locs 0 0 (MQ below (PQ (EM D aC ad hz) (Rg ad) (some (.int rz))) args s 0 0 (Rg ad)) (F0 m 297 ls [])) {h : MS} {x4 : Int32}  {H : Heap} {locs : List Loc} {ls : Array Slot} (hf : fX12_judge_297F k297 h x4 = some (hz, rz)) (hE : CE (EM D aC ad h) (Rg ad) s H locs) (hl : lv_has ls 6 [(0, .ref (ad 116)), (4, .int x4)]) : W p l e (RM 7 186 0 0) s m args below meth c H locs 0 0 (MQ below (PQ (EM D aC ad hz) (Rg ad) (some (.int rz))) args s 0 0 (Rg ad)) (F0 m 297 ls []) := by
  unfold fX12_judge_297F at hf
  refine lv_iload b.1 b.2.1 dX12_judge_297 (lv_at hl 1 rfl) ?_
  refine lv_aload_n b.1 b.2.1 dX12_judge_299 rfl (lv_at hl 0 rfl) ?_
  refine gM_344 b hE dX12_judge_300 ?_
  refine lv_icmp_ge (tgt := 338) b.1 b.2.1 dX12_judge_303 (by decide) (fun c6 => ?_) (fun c6 => ?_)
  · have hf := oI_t c6 hf
    refine lv_aload_n b.1 b.2.1 dX12_judge_338 rfl (lv_at hl 0 rfl) ?_
    refine gM_518 b hE dX12_judge_339 ?_
    cases hf
    exact k_iret b hlk hr hE (Nat.le_refl _) (Nat.le_refl _) dX12_judge_342
  · have hf := oI_f c6 hf
    refine lv_iconst (v := 0) b.1 b.2.1 dX12_judge_306 (by decide) ?_
    refine lv_istore (lv' := [(5, .int 0), (0, .ref (ad 116)), (4, .int x4)]) b.1 b.2.1 dX12_judge_307 hl (by decide) rfl (fun ls hl => ?_)
    exact wfX12_judge_309 b hlk hr zs zk H297 FU h x4 0 _ _ _ hf hE (lv_sub hl [1, 2, 0] rfl)
def fX12_judge_297  : Nat → MS → Int32 → Option (MS × Int32)
  | 0 => fun _ _ => none
  | n + 1 => fX12_judge_297F  (fX12_judge_297  n)
set_option maxHeartbeats 4000000 in
theorem wfX12_judge_297 {args : Array Value} (b : Bd p s m c cX12_judge 6 RX12 D aC) (hlk : meth.locks = false) (hr : meth.sig.returnType = some .int) {Z : State → Prop} (zs : Z s) (zk : ZOK Z (Rg ad)) {hz : MS} {rz : Int32} : ∀ n : Nat, ∀ (h : MS) (x4 : Int32), ∀ (H : Heap) (locs : List Loc) (ls : Array Slot), fX12_judge_297  n h x4 = some (hz, rz) → CE (EM D aC ad h) (Rg ad) s H locs → lv_has ls 6 [(0, .ref (ad 116)), (4, .int x4)] → W p l e (RM 7 186 0 0) s m args below meth c H locs 0 0 (MQ below (PQ (EM D aC ad hz) (Rg ad) (some (.int rz))) args s 0 0 (Rg ad)) (F0 m 297 ls []) := by
  intro n
  induction n with
  | zero =>
    intro h x4 H locs ls hf
    have hf : (none : Option (MS × Int32)) = some _ := hf
    cases hf
  | succ n ih =>
    intro h x4 H locs ls hf hE hl
    exact wfX12_judge_297F b hlk hr zs zk  ih hf hE hl
def fX12_judge_288 (k170 : MS → Int32 → Option (MS × Int32)) (h : MS) (x4 : Int32) : Option (MS × Int32) :=
  oL (x4 + 1) (fun y7 => k170 h y7)
set_option maxHeartbeats 4000000 in
theorem wfX12_judge_288 {args : Array Value} (b : Bd p s m c cX12_judge 6 RX12 D aC) (hlk : meth.locks = false) (hr : meth.sig.returnType = some .int) {Z : State → Prop} (zs : Z s) (zk : ZOK Z (Rg ad)) {hz : MS} {rz : Int32} {k170 : MS → Int32 → Option (MS × Int32)} (H170 : ∀ (h : MS) (x4 : Int32), ∀ (H : Heap) (locs : List Loc) (ls : Array Slot), k170 h x4 = some (hz, rz) → CE (EM D aC ad h) (Rg ad) s H locs → lv_has ls 6 [(0, .ref (ad 116)), (4, .int x4)] → W p l e (RM 7 186 0 0) s m args below meth c H locs 0 0 (MQ below (PQ (EM D aC ad hz) (Rg ad) (some (.int rz))) args s 0 0 (Rg ad)) (F0 m 170 ls [])) {h : MS} {x4 : Int32}  {H : Heap} {locs : List Loc} {ls : Array Slot} (hf : fX12_judge_288 k170 h x4 = some (hz, rz)) (hE : CE (EM D aC ad h) (Rg ad) s H locs) (hl : lv_has ls 6 [(0, .ref (ad 116)), (4, .int x4)]) : W p l e (RM 7 186 0 0) s m args below meth c H locs 0 0 (MQ below (PQ (EM D aC ad hz) (Rg ad) (some (.int rz))) args s 0 0 (Rg ad)) (F0 m 288 ls []) := by
  unfold fX12_judge_288 at hf
  obtain ⟨y7, ey7, hf⟩ := oL_s hf
  refine lv_iinc (v := y7) (lv' := [(4, .int y7), (0, .ref (ad 116))]) b.1 b.2.1 dX12_judge_288 hl (k := 1) rfl (by rw [ey7]; rfl) (by decide) rfl (fun ls hl => ?_)
  refine lv_goto (tgt := 170) b.1 b.2.1 dX12_judge_291 (by decide) ?_
  exact H170 h y7 _ _ _ hf hE (lv_sub hl [1, 0] rfl)
def fX12_judge_282 (k170 : MS → Int32 → Option (MS × Int32)) (h : MS) (x4 : Int32) : Option (MS × Int32) :=
  oB (fX12_because h x4) (fun h9 => fX12_judge_288 k170 h9 x4)
set_option maxHeartbeats 4000000 in
theorem wfX12_judge_282 {args : Array Value} (b : Bd p s m c cX12_judge 6 RX12 D aC) (hlk : meth.locks = false) (hr : meth.sig.returnType = some .int) {Z : State → Prop} (zs : Z s) (zk : ZOK Z (Rg ad)) {hz : MS} {rz : Int32} {k170 : MS → Int32 → Option (MS × Int32)} (H170 : ∀ (h : MS) (x4 : Int32), ∀ (H : Heap) (locs : List Loc) (ls : Array Slot), k170 h x4 = some (hz, rz) → CE (EM D aC ad h) (Rg ad) s H locs → lv_has ls 6 [(0, .ref (ad 116)), (4, .int x4)] → W p l e (RM 7 186 0 0) s m args below meth c H locs 0 0 (MQ below (PQ (EM D aC ad hz) (Rg ad) (some (.int rz))) args s 0 0 (Rg ad)) (F0 m 170 ls [])) {h : MS} {x4 : Int32}  {H : Heap} {locs : List Loc} {ls : Array Slot} (hf : fX12_judge_282 k170 h x4 = some (hz, rz)) (hE : CE (EM D aC ad h) (Rg ad) s H locs) (hl : lv_has ls 6 [(0, .ref (ad 116)), (4, .int x4)]) : W p l e (RM 7 186 0 0) s m args below meth c H locs 0 0 (MQ below (PQ (EM D aC ad hz) (Rg ad) (some (.int rz))) args s 0 0 (Rg ad)) (F0 m 282 ls []) := by
  unfold fX12_judge_282 at hf
  refine lv_aload_n b.1 b.2.1 dX12_judge_282 rfl (lv_at hl 0 rfl) ?_
  refine lv_iload b.1 b.2.1 dX12_judge_283 (lv_at hl 1 rfl) ?_
  obtain ⟨h9, hc8, hf⟩ := oB_s hf
  refine k_callV0 (C := RX12) b zs zk hE (CX12_because l D aC ad zk hc8) mc_X12_because (in8 76 rfl rfl) mi_X12_because ms_X12_because ini_RX12 ok_X12_because (m_recv b hE) ⟨Nat.le_of_ble_eq_true rfl, Nat.le_of_ble_eq_true rfl⟩ rfl hl.1 rfl (k_room _ (by exact Nat.le_of_ble_eq_true rfl)) ⟨Nat.le_refl _, Nat.le_refl _⟩ dX12_judge_285 (fun H locs hE => ?_)
  exact wfX12_judge_288 b hlk hr zs zk H170 hf hE (lv_sub hl [0, 1] rfl)
def fX12_judge_225 (k170 : MS → Int32 → Option (MS × Int32)) (h : MS) (x4 : Int32) (s0 : Int32) (s1 : Int32) : Option (MS × Int32) :=
  oC (ix s1 (mlen 104)) (oL (mSA h 104 (Int32.toNatClampNeg s1) s0) (fun h11 => oC (ix x4 (mlen 92)) (if (mA h11 92 (Int32.toNatClampNeg x4)) = 0 then (oC (ix x4 (mlen 93)) (if (mA h11 93 (Int32.toNatClampNeg x4)) = 0 then (oL (mSI h11 102 ((mI h11 102) + 1)) (fun h16 => fX12_judge_282 k170 h16 x4)) else (oL (mSI h11 101 ((mI h11 101) + 1)) (fun h17 => fX12_judge_282 k170 h17 x4)))) else (oL (mSI h11 100 ((mI h11 100) + 1)) (fun h18 => fX12_judge_282 k170 h18 x4)))))
set_option maxHeartbeats 4000000 in
theorem wfX12_judge_225 {args : Array Value} (b : Bd p s m c cX12_judge 6 RX12 D aC) (hlk : meth.locks = false) (hr : meth.sig.returnType = some .int) {Z : State → Prop} (zs : Z s) (zk : ZOK Z (Rg ad)) {hz : MS} {rz : Int32} {k170 : MS → Int32 → Option (MS × Int32)} (H170 : ∀ (h : MS) (x4 : Int32), ∀ (H : Heap) (locs : List Loc) (ls : Array Slot), k170 h x4 = some (hz, rz) → CE (EM D aC ad h) (Rg ad) s H locs → lv_has ls 6 [(0, .ref (ad 116)), (4, .int x4)] → W p l e (RM 7 186 0 0) s m args below meth c H locs 0 0 (MQ below (PQ (EM D aC ad hz) (Rg ad) (some (.int rz))) args s 0 0 (Rg ad)) (F0 m 170 ls [])) {h : MS} {x4 : Int32} {s0 : Int32} {s1 : Int32}  {H : Heap} {locs : List Loc} {ls : Array Slot} (hf : fX12_judge_225 k170 h x4 s0 s1 = some (hz, rz)) (hE : CE (EM D aC ad h) (Rg ad) s H locs) (hl : lv_has ls 6 [(0, .ref (ad 116)), (4, .int x4)]) : W p l e (RM 7 186 0 0) s m args below meth c H locs 0 0 (MQ below (PQ (EM D aC ad hz) (Rg ad) (some (.int rz))) args s 0 0 (Rg ad)) (F0 m 225 ls [.int s0, .int s1, .ref (ad 104)]) := by
  unfold fX12_judge_225 at hf
  obtain ⟨g10, hf⟩ := oC_s hf
  obtain ⟨h11, eh11, hf⟩ := oL_s hf
  refine n_iast b hE rfl rfl g10 eh11 dX12_judge_225 (fun H locs hE => ?_)
  refine lv_aload_n b.1 b.2.1 dX12_judge_226 rfl (lv_at hl 0 rfl) ?_
  refine gM_207 b hE dX12_judge_227 ?_
  refine lv_iload b.1 b.2.1 dX12_judge_230 (lv_at hl 1 rfl) ?_
  obtain ⟨g12, hf⟩ := oC_s hf
  refine m_zald b hE rfl rfl g12 dX12_judge_232 ?_
  refine lv_if_eq (tgt := 249) b.1 b.2.1 dX12_judge_233 (by decide) (fun c13 => ?_) (fun c13 => ?_)
  · have hf := oI_t c13 hf
    refine lv_aload_n b.1 b.2.1 dX12_judge_249 rfl (lv_at hl 0 rfl) ?_
    refine gM_210 b hE dX12_judge_250 ?_
    refine lv_iload b.1 b.2.1 dX12_judge_253 (lv_at hl 1 rfl) ?_
    obtain ⟨g14, hf⟩ := oC_s hf
    refine m_zald b hE rfl rfl g14 dX12_judge_255 ?_
    refine lv_if_eq (tgt := 272) b.1 b.2.1 dX12_judge_256 (by decide) (fun c15 => ?_) (fun c15 => ?_)
    · have hf := oI_t c15 hf
      refine lv_aload_n b.1 b.2.1 dX12_judge_272 rfl (lv_at hl 0 rfl) ?_
      refine lv_dup b.1 b.2.1 dX12_judge_273 rfl ?_
      refine gM_524 b hE dX12_judge_274 ?_
      refine lv_iconst (v := 1) b.1 b.2.1 dX12_judge_277 (by decide) ?_
      refine lv_iadd b.1 b.2.1 dX12_judge_278 ?_
      obtain ⟨h16, eh16, hf⟩ := oL_s hf
      refine pM_524 b hE eh16 dX12_judge_279 (fun H locs hE => ?_)
      exact wfX12_judge_282 b hlk hr zs zk H170 hf hE (lv_sub hl [0, 1] rfl)
    · have hf := oI_f c15 hf
      refine lv_aload_n b.1 b.2.1 dX12_judge_259 rfl (lv_at hl 0 rfl) ?_
      refine lv_dup b.1 b.2.1 dX12_judge_260 rfl ?_
      refine gM_521 b hE dX12_judge_261 ?_
      refine lv_iconst (v := 1) b.1 b.2.1 dX12_judge_264 (by decide) ?_
      refine lv_iadd b.1 b.2.1 dX12_judge_265 ?_
      obtain ⟨h17, eh17, hf⟩ := oL_s hf
      refine pM_521 b hE eh17 dX12_judge_266 (fun H locs hE => ?_)
      refine lv_goto (tgt := 282) b.1 b.2.1 dX12_judge_269 (by decide) ?_
      exact wfX12_judge_282 b hlk hr zs zk H170 hf hE (lv_sub hl [0, 1] rfl)
  · have hf := oI_f c13 hf
    refine lv_aload_n b.1 b.2.1 dX12_judge_236 rfl (lv_at hl 0 rfl) ?_
    refine lv_dup b.1 b.2.1 dX12_judge_237 rfl ?_
    refine gM_518 b hE dX12_judge_238 ?_
    refine lv_iconst (v := 1) b.1 b.2.1 dX12_judge_241 (by decide) ?_
    refine lv_iadd b.1 b.2.1 dX12_judge_242 ?_
    obtain ⟨h18, eh18, hf⟩ := oL_s hf
    refine pM_518 b hE eh18 dX12_judge_243 (fun H locs hE => ?_)
    refine lv_goto (tgt := 282) b.1 b.2.1 dX12_judge_246 (by decide) ?_
    exact wfX12_judge_282 b hlk hr zs zk H170 hf hE (lv_sub hl [0, 1] rfl)
def fX12_judge_170F (k170 : MS → Int32 → Option (MS × Int32)) (h : MS) (x4 : Int32) : Option (MS × Int32) :=
  if 600 ≤ x4 then (fX12_judge_297  FU h 0) else (oB (fX12_isLiteral h x4) (fun r21 => if r21 = 0 then (fX12_judge_288 k170 h x4) else (oC (ix x4 (mlen 92)) (if (mA h 92 (Int32.toNatClampNeg x4)) = 0 then (oC (ix x4 (mlen 93)) (if (mA h 93 (Int32.toNatClampNeg x4)) = 0 then (fX12_judge_225 k170 h x4 2 x4) else (fX12_judge_225 k170 h x4 0 x4))) else (fX12_judge_225 k170 h x4 1 x4)))))
set_option maxHeartbeats 4000000 in
theorem wfX12_judge_170F {args : Array Value} (b : Bd p s m c cX12_judge 6 RX12 D aC) (hlk : meth.locks = false) (hr : meth.sig.returnType = some .int) {Z : State → Prop} (zs : Z s) (zk : ZOK Z (Rg ad)) {hz : MS} {rz : Int32} {k170 : MS → Int32 → Option (MS × Int32)} (H170 : ∀ (h : MS) (x4 : Int32), ∀ (H : Heap) (locs : List Loc) (ls : Array Slot), k170 h x4 = some (hz, rz) → CE (EM D aC ad h) (Rg ad) s H locs → lv_has ls 6 [(0, .ref (ad 116)), (4, .int x4)] → W p l e (RM 7 186 0 0) s m args below meth c H locs 0 0 (MQ below (PQ (EM D aC ad hz) (Rg ad) (some (.int rz))) args s 0 0 (Rg ad)) (F0 m 170 ls [])) {h : MS} {x4 : Int32}  {H : Heap} {locs : List Loc} {ls : Array Slot} (hf : fX12_judge_170F k170 h x4 = some (hz, rz)) (hE : CE (EM D aC ad h) (Rg ad) s H locs) (hl : lv_has ls 6 [(0, .ref (ad 116)), (4, .int x4)]) : W p l e (RM 7 186 0 0) s m args below meth c H locs 0 0 (MQ below (PQ (EM D aC ad hz) (Rg ad) (some (.int rz))) args s 0 0 (Rg ad)) (F0 m 170 ls []) := by
  unfold fX12_judge_170F at hf
  refine lv_iload b.1 b.2.1 dX12_judge_170 (lv_at hl 1 rfl) ?_
  refine lv_sipush (v := 600) b.1 b.2.1 dX12_judge_172 (by decide) ?_
  refine lv_icmp_ge (tgt := 294) b.1 b.2.1 dX12_judge_175 (by decide) (fun c19 => ?_) (fun c19 => ?_)
  · have hf := oI_t c19 hf
    refine lv_iconst (v := 0) b.1 b.2.1 dX12_judge_294 (by decide) ?_
    refine lv_istore (lv' := [(4, .int 0), (0, .ref (ad 116))]) b.1 b.2.1 dX12_judge_295 hl (by decide) rfl (fun ls hl => ?_)
    exact wfX12_judge_297 b hlk hr zs zk  FU h 0 _ _ _ hf hE (lv_sub hl [1, 0] rfl)
  · have hf := oI_f c19 hf
    refine lv_aload_n b.1 b.2.1 dX12_judge_178 rfl (lv_at hl 0 rfl) ?_
    refine lv_iload b.1 b.2.1 dX12_judge_179 (lv_at hl 1 rfl) ?_
    obtain ⟨r21, hc20, hf⟩ := oB_s hf
    refine k_callV0 (C := RX12) b zs zk hE (CX12_isLiteral l D aC ad zk hc20) mc_X12_isLiteral (in8 60 rfl rfl) mi_X12_isLiteral ms_X12_isLiteral ini_RX12 ok_X12_isLiteral (m_recv b hE) ⟨Nat.le_of_ble_eq_true rfl, Nat.le_of_ble_eq_true rfl⟩ rfl hl.1 rfl (k_room _ (by exact Nat.le_of_ble_eq_true rfl)) ⟨Nat.le_refl _, Nat.le_refl _⟩ dX12_judge_181 (fun H locs hE => ?_)
    refine lv_if_ne (tgt := 190) b.1 b.2.1 dX12_judge_184 (by decide) (fun c22 => ?_) (fun c22 => ?_)
    · have hf := oI_f c22 hf
      refine lv_aload_n b.1 b.2.1 dX12_judge_190 rfl (lv_at hl 0 rfl) ?_
      refine gM_219 b hE dX12_judge_191 ?_
      refine lv_iload b.1 b.2.1 dX12_judge_194 (lv_at hl 1 rfl) ?_
      refine lv_aload_n b.1 b.2.1 dX12_judge_196 rfl (lv_at hl 0 rfl) ?_
      refine gM_207 b hE dX12_judge_197 ?_
      refine lv_iload b.1 b.2.1 dX12_judge_200 (lv_at hl 1 rfl) ?_
      obtain ⟨g23, hf⟩ := oC_s hf
      refine m_zald b hE rfl rfl g23 dX12_judge_202 ?_
      refine lv_if_eq (tgt := 210) b.1 b.2.1 dX12_judge_203 (by decide) (fun c24 => ?_) (fun c24 => ?_)
      · have hf := oI_t c24 hf
        refine lv_aload_n b.1 b.2.1 dX12_judge_210 rfl (lv_at hl 0 rfl) ?_
        refine gM_210 b hE dX12_judge_211 ?_
        refine lv_iload b.1 b.2.1 dX12_judge_214 (lv_at hl 1 rfl) ?_
        obtain ⟨g25, hf⟩ := oC_s hf
        refine m_zald b hE rfl rfl g25 dX12_judge_216 ?_
        refine lv_if_eq (tgt := 224) b.1 b.2.1 dX12_judge_217 (by decide) (fun c26 => ?_) (fun c26 => ?_)
        · have hf := oI_t c26 hf
          refine lv_iconst (v := 2) b.1 b.2.1 dX12_judge_224 (by decide) ?_
          exact wfX12_judge_225 b hlk hr zs zk H170 hf hE (lv_sub hl [0, 1] rfl)
        · have hf := oI_f c26 hf
          refine lv_iconst (v := 0) b.1 b.2.1 dX12_judge_220 (by decide) ?_
          refine lv_goto (tgt := 225) b.1 b.2.1 dX12_judge_221 (by decide) ?_
          exact wfX12_judge_225 b hlk hr zs zk H170 hf hE (lv_sub hl [0, 1] rfl)
      · have hf := oI_f c24 hf
        refine lv_iconst (v := 1) b.1 b.2.1 dX12_judge_206 (by decide) ?_
        refine lv_goto (tgt := 225) b.1 b.2.1 dX12_judge_207 (by decide) ?_
        exact wfX12_judge_225 b hlk hr zs zk H170 hf hE (lv_sub hl [0, 1] rfl)
    · have hf := oI_t c22 hf
      refine lv_goto (tgt := 288) b.1 b.2.1 dX12_judge_187 (by decide) ?_
      exact wfX12_judge_288 b hlk hr zs zk H170 hf hE (lv_sub hl [0, 1] rfl)
def fX12_judge_170  : Nat → MS → Int32 → Option (MS × Int32)
  | 0 => fun _ _ => none
  | n + 1 => fX12_judge_170F  (fX12_judge_170  n)
set_option maxHeartbeats 4000000 in
theorem wfX12_judge_170 {args : Array Value} (b : Bd p s m c cX12_judge 6 RX12 D aC) (hlk : meth.locks = false) (hr : meth.sig.returnType = some .int) {Z : State → Prop} (zs : Z s) (zk : ZOK Z (Rg ad)) {hz : MS} {rz : Int32} : ∀ n : Nat, ∀ (h : MS) (x4 : Int32), ∀ (H : Heap) (locs : List Loc) (ls : Array Slot), fX12_judge_170  n h x4 = some (hz, rz) → CE (EM D aC ad h) (Rg ad) s H locs → lv_has ls 6 [(0, .ref (ad 116)), (4, .int x4)] → W p l e (RM 7 186 0 0) s m args below meth c H locs 0 0 (MQ below (PQ (EM D aC ad hz) (Rg ad) (some (.int rz))) args s 0 0 (Rg ad)) (F0 m 170 ls []) := by
  intro n
  induction n with
  | zero =>
    intro h x4 H locs ls hf
    have hf : (none : Option (MS × Int32)) = some _ := hf
    cases hf
  | succ n ih =>
    intro h x4 H locs ls hf hE hl
    exact wfX12_judge_170F b hlk hr zs zk  ih hf hE hl
def fX12_judge_155 (k106 : MS → Int32 → Option (MS × Int32)) (k118 : MS → Int32 → Int32 → Option (MS × Int32)) (h : MS) (x4 : Int32) (x5 : Int32) : Option (MS × Int32) :=
  oL (x5 + 1) (fun y27 => k118 h x4 y27)
set_option maxHeartbeats 4000000 in
theorem wfX12_judge_155 {args : Array Value} (b : Bd p s m c cX12_judge 6 RX12 D aC) (hlk : meth.locks = false) (hr : meth.sig.returnType = some .int) {Z : State → Prop} (zs : Z s) (zk : ZOK Z (Rg ad)) {hz : MS} {rz : Int32} {k106 : MS → Int32 → Option (MS × Int32)} (H106 : ∀ (h : MS) (x4 : Int32), ∀ (H : Heap) (locs : List Loc) (ls : Array Slot), k106 h x4 = some (hz, rz) → CE (EM D aC ad h) (Rg ad) s H locs → lv_has ls 6 [(0, .ref (ad 116)), (4, .int x4)] → W p l e (RM 7 186 0 0) s m args below meth c H locs 0 0 (MQ below (PQ (EM D aC ad hz) (Rg ad) (some (.int rz))) args s 0 0 (Rg ad)) (F0 m 106 ls [])) {k118 : MS → Int32 → Int32 → Option (MS × Int32)} (H118 : ∀ (h : MS) (x4 : Int32) (x5 : Int32), ∀ (H : Heap) (locs : List Loc) (ls : Array Slot), k118 h x4 x5 = some (hz, rz) → CE (EM D aC ad h) (Rg ad) s H locs → lv_has ls 6 [(0, .ref (ad 116)), (4, .int x4), (5, .int x5)] → W p l e (RM 7 186 0 0) s m args below meth c H locs 0 0 (MQ below (PQ (EM D aC ad hz) (Rg ad) (some (.int rz))) args s 0 0 (Rg ad)) (F0 m 118 ls [])) {h : MS} {x4 : Int32} {x5 : Int32}  {H : Heap} {locs : List Loc} {ls : Array Slot} (hf : fX12_judge_155 k106 k118 h x4 x5 = some (hz, rz)) (hE : CE (EM D aC ad h) (Rg ad) s H locs) (hl : lv_has ls 6 [(0, .ref (ad 116)), (4, .int x4), (5, .int x5)]) : W p l e (RM 7 186 0 0) s m args below meth c H locs 0 0 (MQ below (PQ (EM D aC ad hz) (Rg ad) (some (.int rz))) args s 0 0 (Rg ad)) (F0 m 155 ls []) := by
  unfold fX12_judge_155 at hf
  obtain ⟨y27, ey27, hf⟩ := oL_s hf
  refine lv_iinc (v := y27) (lv' := [(5, .int y27), (0, .ref (ad 116)), (4, .int x4)]) b.1 b.2.1 dX12_judge_155 hl (k := 2) rfl (by rw [ey27]; rfl) (by decide) rfl (fun ls hl => ?_)
  refine lv_goto (tgt := 118) b.1 b.2.1 dX12_judge_158 (by decide) ?_
  exact H118 h x4 y27 _ _ _ hf hE (lv_sub hl [1, 2, 0] rfl)
def fX12_judge_118F (k106 : MS → Int32 → Option (MS × Int32)) (k118 : MS → Int32 → Int32 → Option (MS × Int32)) (h : MS) (x4 : Int32) (x5 : Int32) : Option (MS × Int32) :=
  oB (fX12_instances h x4) (fun r29 => if r29 ≤ x5 then (oL (x4 + 1) (fun y31 => k106 h y31)) else (oC (ix ((125 * x4) + x5) (mlen 89)) (if (mA h 89 (Int32.toNatClampNeg ((125 * x4) + x5))) = 0 then (fX12_judge_155 k106 k118 h x4 x5) else (oL (mSI h 103 ((mI h 103) + 1)) (fun h34 => fX12_judge_155 k106 k118 h34 x4 x5)))))
set_option maxHeartbeats 4000000 in
theorem wfX12_judge_118F {args : Array Value} (b : Bd p s m c cX12_judge 6 RX12 D aC) (hlk : meth.locks = false) (hr : meth.sig.returnType = some .int) {Z : State → Prop} (zs : Z s) (zk : ZOK Z (Rg ad)) {hz : MS} {rz : Int32} {k106 : MS → Int32 → Option (MS × Int32)} (H106 : ∀ (h : MS) (x4 : Int32), ∀ (H : Heap) (locs : List Loc) (ls : Array Slot), k106 h x4 = some (hz, rz) → CE (EM D aC ad h) (Rg ad) s H locs → lv_has ls 6 [(0, .ref (ad 116)), (4, .int x4)] → W p l e (RM 7 186 0 0) s m args below meth c H locs 0 0 (MQ below (PQ (EM D aC ad hz) (Rg ad) (some (.int rz))) args s 0 0 (Rg ad)) (F0 m 106 ls [])) {k118 : MS → Int32 → Int32 → Option (MS × Int32)} (H118 : ∀ (h : MS) (x4 : Int32) (x5 : Int32), ∀ (H : Heap) (locs : List Loc) (ls : Array Slot), k118 h x4 x5 = some (hz, rz) → CE (EM D aC ad h) (Rg ad) s H locs → lv_has ls 6 [(0, .ref (ad 116)), (4, .int x4), (5, .int x5)] → W p l e (RM 7 186 0 0) s m args below meth c H locs 0 0 (MQ below (PQ (EM D aC ad hz) (Rg ad) (some (.int rz))) args s 0 0 (Rg ad)) (F0 m 118 ls [])) {h : MS} {x4 : Int32} {x5 : Int32}  {H : Heap} {locs : List Loc} {ls : Array Slot} (hf : fX12_judge_118F k106 k118 h x4 x5 = some (hz, rz)) (hE : CE (EM D aC ad h) (Rg ad) s H locs) (hl : lv_has ls 6 [(0, .ref (ad 116)), (4, .int x4), (5, .int x5)]) : W p l e (RM 7 186 0 0) s m args below meth c H locs 0 0 (MQ below (PQ (EM D aC ad hz) (Rg ad) (some (.int rz))) args s 0 0 (Rg ad)) (F0 m 118 ls []) := by
  unfold fX12_judge_118F at hf
  refine lv_iload b.1 b.2.1 dX12_judge_118 (lv_at hl 2 rfl) ?_
  refine lv_aload_n b.1 b.2.1 dX12_judge_120 rfl (lv_at hl 0 rfl) ?_
  refine lv_iload b.1 b.2.1 dX12_judge_121 (lv_at hl 1 rfl) ?_
  obtain ⟨r29, hc28, hf⟩ := oB_s hf
  refine k_callV0 (C := RX12) b zs zk hE (CX12_instances l D aC ad zk hc28) mc_X12_instances (in8 9 rfl rfl) mi_X12_instances ms_X12_instances ini_RX12 ok_X12_instances (m_recv b hE) ⟨Nat.le_of_ble_eq_true rfl, Nat.le_of_ble_eq_true rfl⟩ rfl hl.1 rfl (k_room _ (by exact Nat.le_of_ble_eq_true rfl)) ⟨Nat.le_refl _, Nat.le_refl _⟩ dX12_judge_123 (fun H locs hE => ?_)
  refine lv_icmp_ge (tgt := 161) b.1 b.2.1 dX12_judge_126 (by decide) (fun c30 => ?_) (fun c30 => ?_)
  · have hf := oI_t c30 hf
    obtain ⟨y31, ey31, hf⟩ := oL_s hf
    refine lv_iinc (v := y31) (lv' := [(4, .int y31), (0, .ref (ad 116)), (5, .int x5)]) b.1 b.2.1 dX12_judge_161 hl (k := 1) rfl (by rw [ey31]; rfl) (by decide) rfl (fun ls hl => ?_)
    refine lv_goto (tgt := 106) b.1 b.2.1 dX12_judge_164 (by decide) ?_
    exact H106 h y31 _ _ _ hf hE (lv_sub hl [1, 0] rfl)
  · have hf := oI_f c30 hf
    refine lv_aload_n b.1 b.2.1 dX12_judge_129 rfl (lv_at hl 0 rfl) ?_
    refine gM_198 b hE dX12_judge_130 ?_
    refine lv_bipush (v := 125) b.1 b.2.1 dX12_judge_133 (by decide) ?_
    refine lv_iload b.1 b.2.1 dX12_judge_135 (lv_at hl 1 rfl) ?_
    refine lv_imul b.1 b.2.1 dX12_judge_137 ?_
    refine lv_iload b.1 b.2.1 dX12_judge_138 (lv_at hl 2 rfl) ?_
    refine lv_iadd b.1 b.2.1 dX12_judge_140 ?_
    obtain ⟨g32, hf⟩ := oC_s hf
    refine m_zald b hE rfl rfl g32 dX12_judge_141 ?_
    refine lv_if_eq (tgt := 155) b.1 b.2.1 dX12_judge_142 (by decide) (fun c33 => ?_) (fun c33 => ?_)
    · have hf := oI_t c33 hf
      exact wfX12_judge_155 b hlk hr zs zk H106 H118 hf hE (lv_sub hl [0, 1, 2] rfl)
    · have hf := oI_f c33 hf
      refine lv_aload_n b.1 b.2.1 dX12_judge_145 rfl (lv_at hl 0 rfl) ?_
      refine lv_dup b.1 b.2.1 dX12_judge_146 rfl ?_
      refine gM_527 b hE dX12_judge_147 ?_
      refine lv_iconst (v := 1) b.1 b.2.1 dX12_judge_150 (by decide) ?_
      refine lv_iadd b.1 b.2.1 dX12_judge_151 ?_
      obtain ⟨h34, eh34, hf⟩ := oL_s hf
      refine pM_527 b hE eh34 dX12_judge_152 (fun H locs hE => ?_)
      exact wfX12_judge_155 b hlk hr zs zk H106 H118 hf hE (lv_sub hl [0, 1, 2] rfl)
def fX12_judge_118 (k106 : MS → Int32 → Option (MS × Int32)) : Nat → MS → Int32 → Int32 → Option (MS × Int32)
  | 0 => fun _ _ _ => none
  | n + 1 => fX12_judge_118F k106 (fX12_judge_118 k106 n)
set_option maxHeartbeats 4000000 in
theorem wfX12_judge_118 {args : Array Value} (b : Bd p s m c cX12_judge 6 RX12 D aC) (hlk : meth.locks = false) (hr : meth.sig.returnType = some .int) {Z : State → Prop} (zs : Z s) (zk : ZOK Z (Rg ad)) {hz : MS} {rz : Int32} {k106 : MS → Int32 → Option (MS × Int32)} (H106 : ∀ (h : MS) (x4 : Int32), ∀ (H : Heap) (locs : List Loc) (ls : Array Slot), k106 h x4 = some (hz, rz) → CE (EM D aC ad h) (Rg ad) s H locs → lv_has ls 6 [(0, .ref (ad 116)), (4, .int x4)] → W p l e (RM 7 186 0 0) s m args below meth c H locs 0 0 (MQ below (PQ (EM D aC ad hz) (Rg ad) (some (.int rz))) args s 0 0 (Rg ad)) (F0 m 106 ls [])) : ∀ n : Nat, ∀ (h : MS) (x4 : Int32) (x5 : Int32), ∀ (H : Heap) (locs : List Loc) (ls : Array Slot), fX12_judge_118 k106 n h x4 x5 = some (hz, rz) → CE (EM D aC ad h) (Rg ad) s H locs → lv_has ls 6 [(0, .ref (ad 116)), (4, .int x4), (5, .int x5)] → W p l e (RM 7 186 0 0) s m args below meth c H locs 0 0 (MQ below (PQ (EM D aC ad hz) (Rg ad) (some (.int rz))) args s 0 0 (Rg ad)) (F0 m 118 ls []) := by
  intro n
  induction n with
  | zero =>
    intro h x4 x5 H locs ls hf
    have hf : (none : Option (MS × Int32)) = some _ := hf
    cases hf
  | succ n ih =>
    intro h x4 x5 H locs ls hf hE hl
    exact wfX12_judge_118F b hlk hr zs zk H106 ih hf hE hl
def fX12_judge_106F (k106 : MS → Int32 → Option (MS × Int32)) (h : MS) (x4 : Int32) : Option (MS × Int32) :=
  if (mI h 22) ≤ x4 then (fX12_judge_170  FU h 0) else (fX12_judge_118 k106 FU h x4 0)
set_option maxHeartbeats 4000000 in
theorem wfX12_judge_106F {args : Array Value} (b : Bd p s m c cX12_judge 6 RX12 D aC) (hlk : meth.locks = false) (hr : meth.sig.returnType = some .int) {Z : State → Prop} (zs : Z s) (zk : ZOK Z (Rg ad)) {hz : MS} {rz : Int32} {k106 : MS → Int32 → Option (MS × Int32)} (H106 : ∀ (h : MS) (x4 : Int32), ∀ (H : Heap) (locs : List Loc) (ls : Array Slot), k106 h x4 = some (hz, rz) → CE (EM D aC ad h) (Rg ad) s H locs → lv_has ls 6 [(0, .ref (ad 116)), (4, .int x4)] → W p l e (RM 7 186 0 0) s m args below meth c H locs 0 0 (MQ below (PQ (EM D aC ad hz) (Rg ad) (some (.int rz))) args s 0 0 (Rg ad)) (F0 m 106 ls [])) {h : MS} {x4 : Int32}  {H : Heap} {locs : List Loc} {ls : Array Slot} (hf : fX12_judge_106F k106 h x4 = some (hz, rz)) (hE : CE (EM D aC ad h) (Rg ad) s H locs) (hl : lv_has ls 6 [(0, .ref (ad 116)), (4, .int x4)]) : W p l e (RM 7 186 0 0) s m args below meth c H locs 0 0 (MQ below (PQ (EM D aC ad hz) (Rg ad) (some (.int rz))) args s 0 0 (Rg ad)) (F0 m 106 ls []) := by
  unfold fX12_judge_106F at hf
  refine lv_iload b.1 b.2.1 dX12_judge_106 (lv_at hl 1 rfl) ?_
  refine lv_aload_n b.1 b.2.1 dX12_judge_108 rfl (lv_at hl 0 rfl) ?_
  refine gM_350 b hE dX12_judge_109 ?_
  refine lv_icmp_ge (tgt := 167) b.1 b.2.1 dX12_judge_112 (by decide) (fun c35 => ?_) (fun c35 => ?_)
  · have hf := oI_t c35 hf
    refine lv_iconst (v := 0) b.1 b.2.1 dX12_judge_167 (by decide) ?_
    refine lv_istore (lv' := [(4, .int 0), (0, .ref (ad 116))]) b.1 b.2.1 dX12_judge_168 hl (by decide) rfl (fun ls hl => ?_)
    exact wfX12_judge_170 b hlk hr zs zk  FU h 0 _ _ _ hf hE (lv_sub hl [1, 0] rfl)
  · have hf := oI_f c35 hf
    refine lv_iconst (v := 0) b.1 b.2.1 dX12_judge_115 (by decide) ?_
    refine lv_istore (lv' := [(5, .int 0), (0, .ref (ad 116)), (4, .int x4)]) b.1 b.2.1 dX12_judge_116 hl (by decide) rfl (fun ls hl => ?_)
    exact wfX12_judge_118 b hlk hr zs zk H106 FU h x4 0 _ _ _ hf hE (lv_sub hl [1, 2, 0] rfl)
def fX12_judge_106  : Nat → MS → Int32 → Option (MS × Int32)
  | 0 => fun _ _ => none
  | n + 1 => fX12_judge_106F  (fX12_judge_106  n)
set_option maxHeartbeats 4000000 in
theorem wfX12_judge_106 {args : Array Value} (b : Bd p s m c cX12_judge 6 RX12 D aC) (hlk : meth.locks = false) (hr : meth.sig.returnType = some .int) {Z : State → Prop} (zs : Z s) (zk : ZOK Z (Rg ad)) {hz : MS} {rz : Int32} : ∀ n : Nat, ∀ (h : MS) (x4 : Int32), ∀ (H : Heap) (locs : List Loc) (ls : Array Slot), fX12_judge_106  n h x4 = some (hz, rz) → CE (EM D aC ad h) (Rg ad) s H locs → lv_has ls 6 [(0, .ref (ad 116)), (4, .int x4)] → W p l e (RM 7 186 0 0) s m args below meth c H locs 0 0 (MQ below (PQ (EM D aC ad hz) (Rg ad) (some (.int rz))) args s 0 0 (Rg ad)) (F0 m 106 ls []) := by
  intro n
  induction n with
  | zero =>
    intro h x4 H locs ls hf
    have hf : (none : Option (MS × Int32)) = some _ := hf
    cases hf
  | succ n ih =>
    intro h x4 H locs ls hf hE hl
    exact wfX12_judge_106F b hlk hr zs zk  ih hf hE hl
def fX12_judge_38F (k38 : MS → Int32 → Option (MS × Int32)) (h : MS) (x3 : Int32) : Option (MS × Int32) :=
  if x3 = 0 then (oL (mSI h 97 (mI h 18)) (fun h37 => oL (mSI h37 98 (mI h37 19)) (fun h38 => oL (mSI h38 99 (mI h38 20)) (fun h39 => oL (mSI h39 96 1) (fun h40 => oL (mSI h40 100 0) (fun h41 => oL (mSI h41 101 0) (fun h42 => oL (mSI h42 102 0) (fun h43 => oL (mSI h43 103 0) (fun h44 => fX12_judge_106  FU h44 0))))))))) else (oB (fX12_steps h ) (fun h46 => oB2 (fX12_grows h46 ) (fun h49 r48 => k38 h49 r48)))
set_option maxHeartbeats 4000000 in
theorem wfX12_judge_38F {args : Array Value} (b : Bd p s m c cX12_judge 6 RX12 D aC) (hlk : meth.locks = false) (hr : meth.sig.returnType = some .int) {Z : State → Prop} (zs : Z s) (zk : ZOK Z (Rg ad)) {hz : MS} {rz : Int32} {k38 : MS → Int32 → Option (MS × Int32)} (H38 : ∀ (h : MS) (x3 : Int32), ∀ (H : Heap) (locs : List Loc) (ls : Array Slot), k38 h x3 = some (hz, rz) → CE (EM D aC ad h) (Rg ad) s H locs → lv_has ls 6 [(0, .ref (ad 116)), (3, .int x3)] → W p l e (RM 7 186 0 0) s m args below meth c H locs 0 0 (MQ below (PQ (EM D aC ad hz) (Rg ad) (some (.int rz))) args s 0 0 (Rg ad)) (F0 m 38 ls [])) {h : MS} {x3 : Int32}  {H : Heap} {locs : List Loc} {ls : Array Slot} (hf : fX12_judge_38F k38 h x3 = some (hz, rz)) (hE : CE (EM D aC ad h) (Rg ad) s H locs) (hl : lv_has ls 6 [(0, .ref (ad 116)), (3, .int x3)]) : W p l e (RM 7 186 0 0) s m args below meth c H locs 0 0 (MQ below (PQ (EM D aC ad hz) (Rg ad) (some (.int rz))) args s 0 0 (Rg ad)) (F0 m 38 ls []) := by
  unfold fX12_judge_38F at hf
  refine lv_iload_n b.1 b.2.1 dX12_judge_38 rfl (lv_at hl 1 rfl) ?_
  refine lv_if_eq (tgt := 54) b.1 b.2.1 dX12_judge_39 (by decide) (fun c36 => ?_) (fun c36 => ?_)
  · have hf := oI_t c36 hf
    refine lv_aload_n b.1 b.2.1 dX12_judge_54 rfl (lv_at hl 0 rfl) ?_
    refine lv_aload_n b.1 b.2.1 dX12_judge_55 rfl (lv_at hl 0 rfl) ?_
    refine gM_338 b hE dX12_judge_56 ?_
    obtain ⟨h37, eh37, hf⟩ := oL_s hf
    refine pM_506 b hE eh37 dX12_judge_59 (fun H locs hE => ?_)
    refine lv_aload_n b.1 b.2.1 dX12_judge_62 rfl (lv_at hl 0 rfl) ?_
    refine lv_aload_n b.1 b.2.1 dX12_judge_63 rfl (lv_at hl 0 rfl) ?_
    refine gM_341 b hE dX12_judge_64 ?_
    obtain ⟨h38, eh38, hf⟩ := oL_s hf
    refine pM_509 b hE eh38 dX12_judge_67 (fun H locs hE => ?_)
    refine lv_aload_n b.1 b.2.1 dX12_judge_70 rfl (lv_at hl 0 rfl) ?_
    refine lv_aload_n b.1 b.2.1 dX12_judge_71 rfl (lv_at hl 0 rfl) ?_
    refine gM_344 b hE dX12_judge_72 ?_
    obtain ⟨h39, eh39, hf⟩ := oL_s hf
    refine pM_512 b hE eh39 dX12_judge_75 (fun H locs hE => ?_)
    refine lv_aload_n b.1 b.2.1 dX12_judge_78 rfl (lv_at hl 0 rfl) ?_
    refine lv_iconst (v := 1) b.1 b.2.1 dX12_judge_79 (by decide) ?_
    obtain ⟨h40, eh40, hf⟩ := oL_s hf
    refine pM_515 b hE (by decide) eh40 dX12_judge_80 (fun H locs hE => ?_)
    refine lv_aload_n b.1 b.2.1 dX12_judge_83 rfl (lv_at hl 0 rfl) ?_
    refine lv_iconst (v := 0) b.1 b.2.1 dX12_judge_84 (by decide) ?_
    obtain ⟨h41, eh41, hf⟩ := oL_s hf
    refine pM_518 b hE eh41 dX12_judge_85 (fun H locs hE => ?_)
    refine lv_aload_n b.1 b.2.1 dX12_judge_88 rfl (lv_at hl 0 rfl) ?_
    refine lv_iconst (v := 0) b.1 b.2.1 dX12_judge_89 (by decide) ?_
    obtain ⟨h42, eh42, hf⟩ := oL_s hf
    refine pM_521 b hE eh42 dX12_judge_90 (fun H locs hE => ?_)
    refine lv_aload_n b.1 b.2.1 dX12_judge_93 rfl (lv_at hl 0 rfl) ?_
    refine lv_iconst (v := 0) b.1 b.2.1 dX12_judge_94 (by decide) ?_
    obtain ⟨h43, eh43, hf⟩ := oL_s hf
    refine pM_524 b hE eh43 dX12_judge_95 (fun H locs hE => ?_)
    refine lv_aload_n b.1 b.2.1 dX12_judge_98 rfl (lv_at hl 0 rfl) ?_
    refine lv_iconst (v := 0) b.1 b.2.1 dX12_judge_99 (by decide) ?_
    obtain ⟨h44, eh44, hf⟩ := oL_s hf
    refine pM_527 b hE eh44 dX12_judge_100 (fun H locs hE => ?_)
    refine lv_iconst (v := 0) b.1 b.2.1 dX12_judge_103 (by decide) ?_
    refine lv_istore (lv' := [(4, .int 0), (0, .ref (ad 116)), (3, .int x3)]) b.1 b.2.1 dX12_judge_104 hl (by decide) rfl (fun ls hl => ?_)
    have hl := lv_sub (l' := [(4, .int 0), (0, .ref (ad 116))]) hl [0, 1] rfl
    exact wfX12_judge_106 b hlk hr zs zk  FU h44 0 _ _ _ hf hE (lv_sub hl [1, 0] rfl)
  · have hf := oI_f c36 hf
    refine lv_aload_n b.1 b.2.1 dX12_judge_42 rfl (lv_at hl 0 rfl) ?_
    obtain ⟨h46, hc45, hf⟩ := oB_s hf
    refine k_callV0 (C := RX12) b zs zk hE (CX12_steps l D aC ad zk hc45) mc_X12_steps (in8 52 rfl rfl) mi_X12_steps ms_X12_steps ini_RX12 ok_X12_steps (m_recv b hE) ⟨Nat.le_of_ble_eq_true rfl, Nat.le_of_ble_eq_true rfl⟩ rfl hl.1 rfl (k_room _ (by exact Nat.le_of_ble_eq_true rfl)) ⟨Nat.le_refl _, Nat.le_refl _⟩ dX12_judge_43 (fun H locs hE => ?_)
    refine lv_aload_n b.1 b.2.1 dX12_judge_46 rfl (lv_at hl 0 rfl) ?_
    obtain ⟨h49, r48, hc47, hf⟩ := oB2_s hf
    refine k_callV0 (C := RX12) b zs zk hE (CX12_grows l D aC ad zk hc47) mc_X12_grows (in8 56 rfl rfl) mi_X12_grows ms_X12_grows ini_RX12 ok_X12_grows (m_recv b hE) ⟨Nat.le_of_ble_eq_true rfl, Nat.le_of_ble_eq_true rfl⟩ rfl hl.1 rfl (k_room _ (by exact Nat.le_of_ble_eq_true rfl)) ⟨Nat.le_refl _, Nat.le_refl _⟩ dX12_judge_47 (fun H locs hE => ?_)
    refine lv_istore_n (lv' := [(3, .int r48), (0, .ref (ad 116))]) b.1 b.2.1 dX12_judge_50 rfl hl (by decide) rfl (fun ls hl => ?_)
    refine lv_goto (tgt := 38) b.1 b.2.1 dX12_judge_51 (by decide) ?_
    exact H38 h49 r48 _ _ _ hf hE (lv_sub hl [1, 0] rfl)
def fX12_judge_38  : Nat → MS → Int32 → Option (MS × Int32)
  | 0 => fun _ _ => none
  | n + 1 => fX12_judge_38F  (fX12_judge_38  n)
set_option maxHeartbeats 4000000 in
theorem wfX12_judge_38 {args : Array Value} (b : Bd p s m c cX12_judge 6 RX12 D aC) (hlk : meth.locks = false) (hr : meth.sig.returnType = some .int) {Z : State → Prop} (zs : Z s) (zk : ZOK Z (Rg ad)) {hz : MS} {rz : Int32} : ∀ n : Nat, ∀ (h : MS) (x3 : Int32), ∀ (H : Heap) (locs : List Loc) (ls : Array Slot), fX12_judge_38  n h x3 = some (hz, rz) → CE (EM D aC ad h) (Rg ad) s H locs → lv_has ls 6 [(0, .ref (ad 116)), (3, .int x3)] → W p l e (RM 7 186 0 0) s m args below meth c H locs 0 0 (MQ below (PQ (EM D aC ad hz) (Rg ad) (some (.int rz))) args s 0 0 (Rg ad)) (F0 m 38 ls []) := by
  intro n
  induction n with
  | zero =>
    intro h x3 H locs ls hf
    have hf : (none : Option (MS × Int32)) = some _ := hf
    cases hf
  | succ n ih =>
    intro h x3 H locs ls hf hE hl
    exact wfX12_judge_38F b hlk hr zs zk  ih hf hE hl
def fX12_judge_0  (h : MS) (x1 : Int32) (x2 : Int32) : Option (MS × Int32) :=
  if x1 < 0 then (some (h, (-1))) else (if 999999 < x1 then (some (h, (-1))) else (if x2 < 0 then (some (h, (-1))) else (if x2 ≤ 999999 then (oB (fX12_facts h x1 x2) (fun h55 => oB (fX12_instantiates h55 x1 x2) (fun h57 => fX12_judge_38  FU h57 1))) else (some (h, (-1))))))
set_option maxHeartbeats 4000000 in
theorem wfX12_judge_0 {args : Array Value} (b : Bd p s m c cX12_judge 6 RX12 D aC) (hlk : meth.locks = false) (hr : meth.sig.returnType = some .int) {Z : State → Prop} (zs : Z s) (zk : ZOK Z (Rg ad)) {hz : MS} {rz : Int32} {h : MS} {x1 : Int32} {x2 : Int32}  {H : Heap} {locs : List Loc} {ls : Array Slot} (hf : fX12_judge_0 h x1 x2 = some (hz, rz)) (hE : CE (EM D aC ad h) (Rg ad) s H locs) (hl : lv_has ls 6 [(0, .ref (ad 116)), (1, .int x1), (2, .int x2)]) : W p l e (RM 7 186 0 0) s m args below meth c H locs 0 0 (MQ below (PQ (EM D aC ad hz) (Rg ad) (some (.int rz))) args s 0 0 (Rg ad)) (F0 m 0 ls []) := by
  unfold fX12_judge_0 at hf
  refine lv_iload_n b.1 b.2.1 dX12_judge_0 rfl (lv_at hl 1 rfl) ?_
  refine lv_if_lt (tgt := 22) b.1 b.2.1 dX12_judge_1 (by decide) (fun c50 => ?_) (fun c50 => ?_)
  · have hf := oI_t c50 hf
    refine lv_iconst (v := (-1)) b.1 b.2.1 dX12_judge_22 (by decide) ?_
    cases hf
    exact k_iret b hlk hr hE (Nat.le_refl _) (Nat.le_refl _) dX12_judge_23
  · have hf := oI_f c50 hf
    refine lv_iload_n b.1 b.2.1 dX12_judge_4 rfl (lv_at hl 1 rfl) ?_
    refine k_ldcw (v := 999999) b (in7 148 rfl rfl) dX12_judge_5 ?_
    refine lv_icmp_gt (tgt := 22) b.1 b.2.1 dX12_judge_8 (by decide) (fun c51 => ?_) (fun c51 => ?_)
    · have hf := oI_t c51 hf
      refine lv_iconst (v := (-1)) b.1 b.2.1 dX12_judge_22 (by decide) ?_
      cases hf
      exact k_iret b hlk hr hE (Nat.le_refl _) (Nat.le_refl _) dX12_judge_23
    · have hf := oI_f c51 hf
      refine lv_iload_n b.1 b.2.1 dX12_judge_11 rfl (lv_at hl 2 rfl) ?_
      refine lv_if_lt (tgt := 22) b.1 b.2.1 dX12_judge_12 (by decide) (fun c52 => ?_) (fun c52 => ?_)
      · have hf := oI_t c52 hf
        refine lv_iconst (v := (-1)) b.1 b.2.1 dX12_judge_22 (by decide) ?_
        cases hf
        exact k_iret b hlk hr hE (Nat.le_refl _) (Nat.le_refl _) dX12_judge_23
      · have hf := oI_f c52 hf
        refine lv_iload_n b.1 b.2.1 dX12_judge_15 rfl (lv_at hl 2 rfl) ?_
        refine k_ldcw (v := 999999) b (in7 148 rfl rfl) dX12_judge_16 ?_
        refine lv_icmp_le (tgt := 24) b.1 b.2.1 dX12_judge_19 (by decide) (fun c53 => ?_) (fun c53 => ?_)
        · have hf := oI_t c53 hf
          refine lv_aload_n b.1 b.2.1 dX12_judge_24 rfl (lv_at hl 0 rfl) ?_
          refine lv_iload_n b.1 b.2.1 dX12_judge_25 rfl (lv_at hl 1 rfl) ?_
          refine lv_iload_n b.1 b.2.1 dX12_judge_26 rfl (lv_at hl 2 rfl) ?_
          obtain ⟨h55, hc54, hf⟩ := oB_s hf
          refine k_callV0 (C := RX12) b zs zk hE (CX12_facts l D aC ad zk hc54) mc_X12_facts (in7 237 rfl rfl) mi_X12_facts ms_X12_facts ini_RX12 ok_X12_facts (m_recv b hE) ⟨Nat.le_of_ble_eq_true rfl, Nat.le_of_ble_eq_true rfl⟩ rfl hl.1 rfl (k_room _ (by exact Nat.le_of_ble_eq_true rfl)) ⟨Nat.le_refl _, Nat.le_refl _⟩ dX12_judge_27 (fun H locs hE => ?_)
          refine lv_aload_n b.1 b.2.1 dX12_judge_30 rfl (lv_at hl 0 rfl) ?_
          refine lv_iload_n b.1 b.2.1 dX12_judge_31 rfl (lv_at hl 1 rfl) ?_
          refine lv_iload_n b.1 b.2.1 dX12_judge_32 rfl (lv_at hl 2 rfl) ?_
          obtain ⟨h57, hc56, hf⟩ := oB_s hf
          refine k_callV0 (C := RX12) b zs zk hE (CX12_instantiates l D aC ad zk hc56) mc_X12_instantiates (in8 1 rfl rfl) mi_X12_instantiates ms_X12_instantiates ini_RX12 ok_X12_instantiates (m_recv b hE) ⟨Nat.le_of_ble_eq_true rfl, Nat.le_of_ble_eq_true rfl⟩ rfl hl.1 rfl (k_room _ (by exact Nat.le_of_ble_eq_true rfl)) ⟨Nat.le_refl _, Nat.le_refl _⟩ dX12_judge_33 (fun H locs hE => ?_)
          refine lv_iconst (v := 1) b.1 b.2.1 dX12_judge_36 (by decide) ?_
          refine lv_istore_n (lv' := [(3, .int 1), (0, .ref (ad 116)), (1, .int x1), (2, .int x2)]) b.1 b.2.1 dX12_judge_37 rfl hl (by decide) rfl (fun ls hl => ?_)
          have hl := lv_sub (l' := [(3, .int 1), (0, .ref (ad 116))]) hl [0, 1] rfl
          exact wfX12_judge_38 b hlk hr zs zk  FU h57 1 _ _ _ hf hE (lv_sub hl [1, 0] rfl)
        · have hf := oI_f c53 hf
          refine lv_iconst (v := (-1)) b.1 b.2.1 dX12_judge_22 (by decide) ?_
          cases hf
          exact k_iret b hlk hr hE (Nat.le_refl _) (Nat.le_refl _) dX12_judge_23
def fX12_judge (h : MS) (x1 : Int32) (x2 : Int32) : Option (MS × Int32) := fX12_judge_0 h x1 x2
set_option maxHeartbeats 4000000 in
theorem CX12_judge (l : Launch) (D : va_G) (aC : Nat → ClassId) (ad : Nat → Nat) {Z : State → Prop} (zk : ZOK Z (Rg ad)) {h : MS} {x1 : Int32} {x2 : Int32} {hz : MS} {rz : Int32} (hf : fX12_judge h x1 x2 = some (hz, rz)) : CM l D aC Z yX12_judge cX12_judge 6 (some .int) 7 186 0 0 (EM D aC ad h) [.ref (ad 116), .int x1, .int x2] (EM D aC ad hz) (some (.int rz)) (Rg ad) := by
  refine CM.of rfl ?_
  intro p e s m below meth c b hr hlk hin2 zs hE
  refine k_ent (Nat.le_of_ble_eq_true rfl) (fun ls hl => ?_)
  exact wfX12_judge_0 b hlk hr zs zk hf hE (lv_sub hl [0, 1, 2] rfl)
theorem dX12_status_0 : decode cX12_status 0 = .ok (.aload_n 0, 1) := by decide +kernel
theorem dX12_status_1 : decode cX12_status 1 = .ok (.getfield 515, 3) := by decide +kernel
theorem dX12_status_4 : decode cX12_status 4 = .ok (.ifCond .eq 23, 3) := by decide +kernel
theorem dX12_status_7 : decode cX12_status 7 = .ok (.aload_n 0, 1) := by decide +kernel
theorem dX12_status_8 : decode cX12_status 8 = .ok (.iload_n 1, 1) := by decide +kernel
theorem dX12_status_9 : decode cX12_status 9 = .ok (.iload_n 2, 1) := by decide +kernel
theorem dX12_status_10 : decode cX12_status 10 = .ok (.iload_n 3, 1) := by decide +kernel
theorem dX12_status_11 : decode cX12_status 11 = .ok (.iload 4, 2) := by decide +kernel
theorem dX12_status_13 : decode cX12_status 13 = .ok (.aload_n 0, 1) := by decide +kernel
theorem dX12_status_14 : decode cX12_status 14 = .ok (.getfield 509, 3) := by decide +kernel
theorem dX12_status_17 : decode cX12_status 17 = .ok (.aload_n 0, 1) := by decide +kernel
theorem dX12_status_18 : decode cX12_status 18 = .ok (.getfield 506, 3) := by decide +kernel
theorem dX12_status_21 : decode cX12_status 21 = .ok (.invokevirtual 439, 3) := by decide +kernel
theorem dX12_status_24 : decode cX12_status 24 = .ok (.goto 4, 3) := by decide +kernel
theorem dX12_status_27 : decode cX12_status 27 = .ok (.iconst (-1), 1) := by decide +kernel
theorem dX12_status_28 : decode cX12_status 28 = .ok (.istore 5, 2) := by decide +kernel
theorem dX12_status_30 : decode cX12_status 30 = .ok (.iload 5, 2) := by decide +kernel
theorem dX12_status_32 : decode cX12_status 32 = .ok (.iconst (-1), 1) := by decide +kernel
theorem dX12_status_33 : decode cX12_status 33 = .ok (.if_icmp .ne 7, 3) := by decide +kernel
theorem dX12_status_36 : decode cX12_status 36 = .ok (.iconst (-1), 1) := by decide +kernel
theorem dX12_status_37 : decode cX12_status 37 = .ok (.goto 10, 3) := by decide +kernel
theorem dX12_status_40 : decode cX12_status 40 = .ok (.aload_n 0, 1) := by decide +kernel
theorem dX12_status_41 : decode cX12_status 41 = .ok (.getfield 219, 3) := by decide +kernel
theorem dX12_status_44 : decode cX12_status 44 = .ok (.iload 5, 2) := by decide +kernel
theorem dX12_status_46 : decode cX12_status 46 = .ok (.iaload, 1) := by decide +kernel
theorem dX12_status_47 : decode cX12_status 47 = .ok (.ireturn, 1) := by decide +kernel
def fX12_status_28  (h : MS) (s0 : Int32) : Option (Int32) :=
  if s0 = (-1) then (some ((-1))) else (oC (ix s0 (mlen 104)) (some ((mA h 104 (Int32.toNatClampNeg s0)))))
set_option maxHeartbeats 4000000 in
theorem wfX12_status_28 {args : Array Value} (b : Bd p s m c cX12_status 6 RX12 D aC) (hlk : meth.locks = false) (hr : meth.sig.returnType = some .int) {Z : State → Prop} (zs : Z s) (zk : ZOK Z (Rg ad)) {rz : Int32} {h : MS} {s0 : Int32}  {H : Heap} {locs : List Loc} {ls : Array Slot} (hf : fX12_status_28 h s0 = some rz) (hE : CE (EM D aC ad h) (Rg ad) s H locs) (hl : lv_has ls 6 [(0, .ref (ad 116))]) : W p l e (RM 2 47 0 0) s m args below meth c H locs 0 0 (MQ below (PQ (EM D aC ad h) (Rg ad) (some (.int rz))) args s 0 0 (Rg ad)) (F0 m 28 ls [.int s0]) := by
  unfold fX12_status_28 at hf
  refine lv_istore (lv' := [(5, .int s0), (0, .ref (ad 116))]) b.1 b.2.1 dX12_status_28 hl (by decide) rfl (fun ls hl => ?_)
  refine lv_iload b.1 b.2.1 dX12_status_30 (lv_at hl 0 rfl) ?_
  refine lv_iconst (v := (-1)) b.1 b.2.1 dX12_status_32 (by decide) ?_
  refine lv_icmp_ne (tgt := 40) b.1 b.2.1 dX12_status_33 (by decide) (fun c1 => ?_) (fun c1 => ?_)
  · have hf := oI_f c1 hf
    refine lv_aload_n b.1 b.2.1 dX12_status_40 rfl (lv_at hl 1 rfl) ?_
    refine gM_219 b hE dX12_status_41 ?_
    refine lv_iload b.1 b.2.1 dX12_status_44 (lv_at hl 0 rfl) ?_
    obtain ⟨g2, hf⟩ := oC_s hf
    refine m_iald b hE rfl rfl g2 dX12_status_46 ?_
    cases hf
    exact k_iret b hlk hr hE (Nat.le_refl _) (Nat.le_refl _) dX12_status_47
  · have hf := oI_t c1 hf
    refine lv_iconst (v := (-1)) b.1 b.2.1 dX12_status_36 (by decide) ?_
    refine lv_goto (tgt := 47) b.1 b.2.1 dX12_status_37 (by decide) ?_
    cases hf
    exact k_iret b hlk hr hE (Nat.le_refl _) (Nat.le_refl _) dX12_status_47
def fX12_status_0  (h : MS) (x1 : Int32) (x2 : Int32) (x3 : Int32) (x4 : Int32) : Option (Int32) :=
  if (mI h 96) = 0 then (fX12_status_28  h (-1)) else (oB (fX12_literalOf h x1 x2 x3 x4 (mI h 98) (mI h 97)) (fun r5 => fX12_status_28  h r5))
set_option maxHeartbeats 4000000 in
theorem wfX12_status_0 {args : Array Value} (b : Bd p s m c cX12_status 6 RX12 D aC) (hlk : meth.locks = false) (hr : meth.sig.returnType = some .int) {Z : State → Prop} (zs : Z s) (zk : ZOK Z (Rg ad)) {rz : Int32} {h : MS} {x1 : Int32} {x2 : Int32} {x3 : Int32} {x4 : Int32}  {H : Heap} {locs : List Loc} {ls : Array Slot} (hf : fX12_status_0 h x1 x2 x3 x4 = some rz) (hE : CE (EM D aC ad h) (Rg ad) s H locs) (hl : lv_has ls 6 [(0, .ref (ad 116)), (1, .int x1), (2, .int x2), (3, .int x3), (4, .int x4)]) : W p l e (RM 2 47 0 0) s m args below meth c H locs 0 0 (MQ below (PQ (EM D aC ad h) (Rg ad) (some (.int rz))) args s 0 0 (Rg ad)) (F0 m 0 ls []) := by
  unfold fX12_status_0 at hf
  refine lv_aload_n b.1 b.2.1 dX12_status_0 rfl (lv_at hl 0 rfl) ?_
  refine gM_515 b hE dX12_status_1 ?_
  refine lv_if_eq (tgt := 27) b.1 b.2.1 dX12_status_4 (by decide) (fun c3 => ?_) (fun c3 => ?_)
  · have hf := oI_t c3 hf
    refine lv_iconst (v := (-1)) b.1 b.2.1 dX12_status_27 (by decide) ?_
    exact wfX12_status_28 b hlk hr zs zk  hf hE (lv_sub hl [0] rfl)
  · have hf := oI_f c3 hf
    refine lv_aload_n b.1 b.2.1 dX12_status_7 rfl (lv_at hl 0 rfl) ?_
    refine lv_iload_n b.1 b.2.1 dX12_status_8 rfl (lv_at hl 1 rfl) ?_
    refine lv_iload_n b.1 b.2.1 dX12_status_9 rfl (lv_at hl 2 rfl) ?_
    refine lv_iload_n b.1 b.2.1 dX12_status_10 rfl (lv_at hl 3 rfl) ?_
    refine lv_iload b.1 b.2.1 dX12_status_11 (lv_at hl 4 rfl) ?_
    refine lv_aload_n b.1 b.2.1 dX12_status_13 rfl (lv_at hl 0 rfl) ?_
    refine gM_509 b hE dX12_status_14 ?_
    refine lv_aload_n b.1 b.2.1 dX12_status_17 rfl (lv_at hl 0 rfl) ?_
    refine gM_506 b hE dX12_status_18 ?_
    obtain ⟨r5, hc4, hf⟩ := oB_s hf
    refine k_callV0 (C := RX12) b zs zk hE (CX12_literalOf l D aC ad zk hc4) mc_X12_literalOf (in7 212 rfl rfl) mi_X12_literalOf ms_X12_literalOf ini_RX12 ok_X12_literalOf (m_recv b hE) ⟨Nat.le_of_ble_eq_true rfl, Nat.le_of_ble_eq_true rfl⟩ rfl hl.1 rfl (k_room _ (by exact Nat.le_of_ble_eq_true rfl)) ⟨Nat.le_refl _, Nat.le_refl _⟩ dX12_status_21 (fun H locs hE => ?_)
    refine lv_goto (tgt := 28) b.1 b.2.1 dX12_status_24 (by decide) ?_
    exact wfX12_status_28 b hlk hr zs zk  hf hE (lv_sub hl [0] rfl)
def fX12_status (h : MS) (x1 : Int32) (x2 : Int32) (x3 : Int32) (x4 : Int32) : Option (Int32) := fX12_status_0 h x1 x2 x3 x4
set_option maxHeartbeats 4000000 in
theorem CX12_status (l : Launch) (D : va_G) (aC : Nat → ClassId) (ad : Nat → Nat) {Z : State → Prop} (zk : ZOK Z (Rg ad)) {h : MS} {x1 : Int32} {x2 : Int32} {x3 : Int32} {x4 : Int32} {rz : Int32} (hf : fX12_status h x1 x2 x3 x4 = some rz) : CM l D aC Z yX12_status cX12_status 6 (some .int) 2 47 0 0 (EM D aC ad h) [.ref (ad 116), .int x1, .int x2, .int x3, .int x4] (EM D aC ad h) (some (.int rz)) (Rg ad) := by
  refine CM.of rfl ?_
  intro p e s m below meth c b hr hlk hin2 zs hE
  refine k_ent (Nat.le_of_ble_eq_true rfl) (fun ls hl => ?_)
  exact wfX12_status_0 b hlk hr zs zk hf hE (lv_sub hl [0, 1, 2, 3, 4] rfl)
theorem dX12_why_0 : decode cX12_why 0 = .ok (.aload_n 0, 1) := by decide +kernel
theorem dX12_why_1 : decode cX12_why 1 = .ok (.getfield 515, 3) := by decide +kernel
theorem dX12_why_4 : decode cX12_why 4 = .ok (.ifCond .eq 23, 3) := by decide +kernel
theorem dX12_why_7 : decode cX12_why 7 = .ok (.aload_n 0, 1) := by decide +kernel
theorem dX12_why_8 : decode cX12_why 8 = .ok (.iload_n 1, 1) := by decide +kernel
theorem dX12_why_9 : decode cX12_why 9 = .ok (.iload_n 2, 1) := by decide +kernel
theorem dX12_why_10 : decode cX12_why 10 = .ok (.iload_n 3, 1) := by decide +kernel
theorem dX12_why_11 : decode cX12_why 11 = .ok (.iload 4, 2) := by decide +kernel
theorem dX12_why_13 : decode cX12_why 13 = .ok (.aload_n 0, 1) := by decide +kernel
theorem dX12_why_14 : decode cX12_why 14 = .ok (.getfield 509, 3) := by decide +kernel
theorem dX12_why_17 : decode cX12_why 17 = .ok (.aload_n 0, 1) := by decide +kernel
theorem dX12_why_18 : decode cX12_why 18 = .ok (.getfield 506, 3) := by decide +kernel
theorem dX12_why_21 : decode cX12_why 21 = .ok (.invokevirtual 439, 3) := by decide +kernel
theorem dX12_why_24 : decode cX12_why 24 = .ok (.goto 4, 3) := by decide +kernel
theorem dX12_why_27 : decode cX12_why 27 = .ok (.iconst (-1), 1) := by decide +kernel
theorem dX12_why_28 : decode cX12_why 28 = .ok (.istore 6, 2) := by decide +kernel
theorem dX12_why_30 : decode cX12_why 30 = .ok (.iload 6, 2) := by decide +kernel
theorem dX12_why_32 : decode cX12_why 32 = .ok (.iconst (-1), 1) := by decide +kernel
theorem dX12_why_33 : decode cX12_why 33 = .ok (.if_icmp .eq 14, 3) := by decide +kernel
theorem dX12_why_36 : decode cX12_why 36 = .ok (.iload 5, 2) := by decide +kernel
theorem dX12_why_38 : decode cX12_why 38 = .ok (.ifCond .lt 9, 3) := by decide +kernel
theorem dX12_why_41 : decode cX12_why 41 = .ok (.iload 5, 2) := by decide +kernel
theorem dX12_why_43 : decode cX12_why 43 = .ok (.iconst 4, 1) := by decide +kernel
theorem dX12_why_44 : decode cX12_why 44 = .ok (.if_icmp .le 5, 3) := by decide +kernel
theorem dX12_why_47 : decode cX12_why 47 = .ok (.iconst (-1), 1) := by decide +kernel
theorem dX12_why_48 : decode cX12_why 48 = .ok (.ireturn, 1) := by decide +kernel
theorem dX12_why_49 : decode cX12_why 49 = .ok (.iload 5, 2) := by decide +kernel
theorem dX12_why_51 : decode cX12_why 51 = .ok (.ifCond .ne 13, 3) := by decide +kernel
theorem dX12_why_54 : decode cX12_why 54 = .ok (.aload_n 0, 1) := by decide +kernel
theorem dX12_why_55 : decode cX12_why 55 = .ok (.getfield 222, 3) := by decide +kernel
theorem dX12_why_58 : decode cX12_why 58 = .ok (.iload 6, 2) := by decide +kernel
theorem dX12_why_60 : decode cX12_why 60 = .ok (.iaload, 1) := by decide +kernel
theorem dX12_why_61 : decode cX12_why 61 = .ok (.goto 33, 3) := by decide +kernel
theorem dX12_why_64 : decode cX12_why 64 = .ok (.iload 5, 2) := by decide +kernel
theorem dX12_why_66 : decode cX12_why 66 = .ok (.iconst 1, 1) := by decide +kernel
theorem dX12_why_67 : decode cX12_why 67 = .ok (.if_icmp .ne 13, 3) := by decide +kernel
theorem dX12_why_70 : decode cX12_why 70 = .ok (.aload_n 0, 1) := by decide +kernel
theorem dX12_why_71 : decode cX12_why 71 = .ok (.getfield 225, 3) := by decide +kernel
theorem dX12_why_74 : decode cX12_why 74 = .ok (.iload 6, 2) := by decide +kernel
theorem dX12_why_76 : decode cX12_why 76 = .ok (.iaload, 1) := by decide +kernel
theorem dX12_why_77 : decode cX12_why 77 = .ok (.goto 17, 3) := by decide +kernel
theorem dX12_why_80 : decode cX12_why 80 = .ok (.aload_n 0, 1) := by decide +kernel
theorem dX12_why_81 : decode cX12_why 81 = .ok (.getfield 228, 3) := by decide +kernel
theorem dX12_why_84 : decode cX12_why 84 = .ok (.iconst 3, 1) := by decide +kernel
theorem dX12_why_85 : decode cX12_why 85 = .ok (.iload 6, 2) := by decide +kernel
theorem dX12_why_87 : decode cX12_why 87 = .ok (.imul, 1) := by decide +kernel
theorem dX12_why_88 : decode cX12_why 88 = .ok (.iload 5, 2) := by decide +kernel
theorem dX12_why_90 : decode cX12_why 90 = .ok (.iadd, 1) := by decide +kernel
theorem dX12_why_91 : decode cX12_why 91 = .ok (.iconst 2, 1) := by decide +kernel
theorem dX12_why_92 : decode cX12_why 92 = .ok (.isub, 1) := by decide +kernel
theorem dX12_why_93 : decode cX12_why 93 = .ok (.iaload, 1) := by decide +kernel
theorem dX12_why_94 : decode cX12_why 94 = .ok (.ireturn, 1) := by decide +kernel
def fX12_why_28  (h : MS) (x5 : Int32) (s0 : Int32) : Option (Int32) :=
  if s0 = (-1) then (some ((-1))) else (if x5 < 0 then (some ((-1))) else (if x5 ≤ 4 then (if x5 = 0 then (oC (ix s0 (mlen 105)) (some ((mA h 105 (Int32.toNatClampNeg s0))))) else (if x5 = 1 then (oC (ix s0 (mlen 106)) (some ((mA h 106 (Int32.toNatClampNeg s0))))) else (oC (ix (((3 * s0) + x5) - 2) (mlen 107)) (some ((mA h 107 (Int32.toNatClampNeg (((3 * s0) + x5) - 2)))))))) else (some ((-1)))))
set_option maxHeartbeats 4000000 in
theorem wfX12_why_28 {args : Array Value} (b : Bd p s m c cX12_why 7 RX12 D aC) (hlk : meth.locks = false) (hr : meth.sig.returnType = some .int) {Z : State → Prop} (zs : Z s) (zk : ZOK Z (Rg ad)) {rz : Int32} {h : MS} {x5 : Int32} {s0 : Int32}  {H : Heap} {locs : List Loc} {ls : Array Slot} (hf : fX12_why_28 h x5 s0 = some rz) (hE : CE (EM D aC ad h) (Rg ad) s H locs) (hl : lv_has ls 7 [(0, .ref (ad 116)), (5, .int x5)]) : W p l e (RM 2 47 0 0) s m args below meth c H locs 0 0 (MQ below (PQ (EM D aC ad h) (Rg ad) (some (.int rz))) args s 0 0 (Rg ad)) (F0 m 28 ls [.int s0]) := by
  unfold fX12_why_28 at hf
  refine lv_istore (lv' := [(6, .int s0), (0, .ref (ad 116)), (5, .int x5)]) b.1 b.2.1 dX12_why_28 hl (by decide) rfl (fun ls hl => ?_)
  refine lv_iload b.1 b.2.1 dX12_why_30 (lv_at hl 0 rfl) ?_
  refine lv_iconst (v := (-1)) b.1 b.2.1 dX12_why_32 (by decide) ?_
  refine lv_icmp_eq (tgt := 47) b.1 b.2.1 dX12_why_33 (by decide) (fun c1 => ?_) (fun c1 => ?_)
  · have hf := oI_t c1 hf
    refine lv_iconst (v := (-1)) b.1 b.2.1 dX12_why_47 (by decide) ?_
    cases hf
    exact k_iret b hlk hr hE (Nat.le_refl _) (Nat.le_refl _) dX12_why_48
  · have hf := oI_f c1 hf
    refine lv_iload b.1 b.2.1 dX12_why_36 (lv_at hl 2 rfl) ?_
    refine lv_if_lt (tgt := 47) b.1 b.2.1 dX12_why_38 (by decide) (fun c2 => ?_) (fun c2 => ?_)
    · have hf := oI_t c2 hf
      refine lv_iconst (v := (-1)) b.1 b.2.1 dX12_why_47 (by decide) ?_
      cases hf
      exact k_iret b hlk hr hE (Nat.le_refl _) (Nat.le_refl _) dX12_why_48
    · have hf := oI_f c2 hf
      refine lv_iload b.1 b.2.1 dX12_why_41 (lv_at hl 2 rfl) ?_
      refine lv_iconst (v := 4) b.1 b.2.1 dX12_why_43 (by decide) ?_
      refine lv_icmp_le (tgt := 49) b.1 b.2.1 dX12_why_44 (by decide) (fun c3 => ?_) (fun c3 => ?_)
      · have hf := oI_t c3 hf
        refine lv_iload b.1 b.2.1 dX12_why_49 (lv_at hl 2 rfl) ?_
        refine lv_if_ne (tgt := 64) b.1 b.2.1 dX12_why_51 (by decide) (fun c4 => ?_) (fun c4 => ?_)
        · have hf := oI_f c4 hf
          refine lv_iload b.1 b.2.1 dX12_why_64 (lv_at hl 2 rfl) ?_
          refine lv_iconst (v := 1) b.1 b.2.1 dX12_why_66 (by decide) ?_
          refine lv_icmp_ne (tgt := 80) b.1 b.2.1 dX12_why_67 (by decide) (fun c5 => ?_) (fun c5 => ?_)
          · have hf := oI_f c5 hf
            refine lv_aload_n b.1 b.2.1 dX12_why_80 rfl (lv_at hl 1 rfl) ?_
            refine gM_228 b hE dX12_why_81 ?_
            refine lv_iconst (v := 3) b.1 b.2.1 dX12_why_84 (by decide) ?_
            refine lv_iload b.1 b.2.1 dX12_why_85 (lv_at hl 0 rfl) ?_
            refine lv_imul b.1 b.2.1 dX12_why_87 ?_
            refine lv_iload b.1 b.2.1 dX12_why_88 (lv_at hl 2 rfl) ?_
            refine lv_iadd b.1 b.2.1 dX12_why_90 ?_
            refine lv_iconst (v := 2) b.1 b.2.1 dX12_why_91 (by decide) ?_
            refine lv_isub b.1 b.2.1 dX12_why_92 ?_
            obtain ⟨g6, hf⟩ := oC_s hf
            refine m_iald b hE rfl rfl g6 dX12_why_93 ?_
            cases hf
            exact k_iret b hlk hr hE (Nat.le_refl _) (Nat.le_refl _) dX12_why_94
          · have hf := oI_t c5 hf
            refine lv_aload_n b.1 b.2.1 dX12_why_70 rfl (lv_at hl 1 rfl) ?_
            refine gM_225 b hE dX12_why_71 ?_
            refine lv_iload b.1 b.2.1 dX12_why_74 (lv_at hl 0 rfl) ?_
            obtain ⟨g7, hf⟩ := oC_s hf
            refine m_iald b hE rfl rfl g7 dX12_why_76 ?_
            refine lv_goto (tgt := 94) b.1 b.2.1 dX12_why_77 (by decide) ?_
            cases hf
            exact k_iret b hlk hr hE (Nat.le_refl _) (Nat.le_refl _) dX12_why_94
        · have hf := oI_t c4 hf
          refine lv_aload_n b.1 b.2.1 dX12_why_54 rfl (lv_at hl 1 rfl) ?_
          refine gM_222 b hE dX12_why_55 ?_
          refine lv_iload b.1 b.2.1 dX12_why_58 (lv_at hl 0 rfl) ?_
          obtain ⟨g8, hf⟩ := oC_s hf
          refine m_iald b hE rfl rfl g8 dX12_why_60 ?_
          refine lv_goto (tgt := 94) b.1 b.2.1 dX12_why_61 (by decide) ?_
          cases hf
          exact k_iret b hlk hr hE (Nat.le_refl _) (Nat.le_refl _) dX12_why_94
      · have hf := oI_f c3 hf
        refine lv_iconst (v := (-1)) b.1 b.2.1 dX12_why_47 (by decide) ?_
        cases hf
        exact k_iret b hlk hr hE (Nat.le_refl _) (Nat.le_refl _) dX12_why_48
def fX12_why_0  (h : MS) (x1 : Int32) (x2 : Int32) (x3 : Int32) (x4 : Int32) (x5 : Int32) : Option (Int32) :=
  if (mI h 96) = 0 then (fX12_why_28  h x5 (-1)) else (oB (fX12_literalOf h x1 x2 x3 x4 (mI h 98) (mI h 97)) (fun r11 => fX12_why_28  h x5 r11))
set_option maxHeartbeats 4000000 in
theorem wfX12_why_0 {args : Array Value} (b : Bd p s m c cX12_why 7 RX12 D aC) (hlk : meth.locks = false) (hr : meth.sig.returnType = some .int) {Z : State → Prop} (zs : Z s) (zk : ZOK Z (Rg ad)) {rz : Int32} {h : MS} {x1 : Int32} {x2 : Int32} {x3 : Int32} {x4 : Int32} {x5 : Int32}  {H : Heap} {locs : List Loc} {ls : Array Slot} (hf : fX12_why_0 h x1 x2 x3 x4 x5 = some rz) (hE : CE (EM D aC ad h) (Rg ad) s H locs) (hl : lv_has ls 7 [(0, .ref (ad 116)), (1, .int x1), (2, .int x2), (3, .int x3), (4, .int x4), (5, .int x5)]) : W p l e (RM 2 47 0 0) s m args below meth c H locs 0 0 (MQ below (PQ (EM D aC ad h) (Rg ad) (some (.int rz))) args s 0 0 (Rg ad)) (F0 m 0 ls []) := by
  unfold fX12_why_0 at hf
  refine lv_aload_n b.1 b.2.1 dX12_why_0 rfl (lv_at hl 0 rfl) ?_
  refine gM_515 b hE dX12_why_1 ?_
  refine lv_if_eq (tgt := 27) b.1 b.2.1 dX12_why_4 (by decide) (fun c9 => ?_) (fun c9 => ?_)
  · have hf := oI_t c9 hf
    refine lv_iconst (v := (-1)) b.1 b.2.1 dX12_why_27 (by decide) ?_
    exact wfX12_why_28 b hlk hr zs zk  hf hE (lv_sub hl [0, 5] rfl)
  · have hf := oI_f c9 hf
    refine lv_aload_n b.1 b.2.1 dX12_why_7 rfl (lv_at hl 0 rfl) ?_
    refine lv_iload_n b.1 b.2.1 dX12_why_8 rfl (lv_at hl 1 rfl) ?_
    refine lv_iload_n b.1 b.2.1 dX12_why_9 rfl (lv_at hl 2 rfl) ?_
    refine lv_iload_n b.1 b.2.1 dX12_why_10 rfl (lv_at hl 3 rfl) ?_
    refine lv_iload b.1 b.2.1 dX12_why_11 (lv_at hl 4 rfl) ?_
    refine lv_aload_n b.1 b.2.1 dX12_why_13 rfl (lv_at hl 0 rfl) ?_
    refine gM_509 b hE dX12_why_14 ?_
    refine lv_aload_n b.1 b.2.1 dX12_why_17 rfl (lv_at hl 0 rfl) ?_
    refine gM_506 b hE dX12_why_18 ?_
    obtain ⟨r11, hc10, hf⟩ := oB_s hf
    refine k_callV0 (C := RX12) b zs zk hE (CX12_literalOf l D aC ad zk hc10) mc_X12_literalOf (in7 212 rfl rfl) mi_X12_literalOf ms_X12_literalOf ini_RX12 ok_X12_literalOf (m_recv b hE) ⟨Nat.le_of_ble_eq_true rfl, Nat.le_of_ble_eq_true rfl⟩ rfl hl.1 rfl (k_room _ (by exact Nat.le_of_ble_eq_true rfl)) ⟨Nat.le_refl _, Nat.le_refl _⟩ dX12_why_21 (fun H locs hE => ?_)
    refine lv_goto (tgt := 28) b.1 b.2.1 dX12_why_24 (by decide) ?_
    exact wfX12_why_28 b hlk hr zs zk  hf hE (lv_sub hl [0, 5] rfl)
def fX12_why (h : MS) (x1 : Int32) (x2 : Int32) (x3 : Int32) (x4 : Int32) (x5 : Int32) : Option (Int32) := fX12_why_0 h x1 x2 x3 x4 x5
set_option maxHeartbeats 4000000 in
theorem CX12_why (l : Launch) (D : va_G) (aC : Nat → ClassId) (ad : Nat → Nat) {Z : State → Prop} (zk : ZOK Z (Rg ad)) {h : MS} {x1 : Int32} {x2 : Int32} {x3 : Int32} {x4 : Int32} {x5 : Int32} {rz : Int32} (hf : fX12_why h x1 x2 x3 x4 x5 = some rz) : CM l D aC Z yX12_why cX12_why 7 (some .int) 2 47 0 0 (EM D aC ad h) [.ref (ad 116), .int x1, .int x2, .int x3, .int x4, .int x5] (EM D aC ad h) (some (.int rz)) (Rg ad) := by
  refine CM.of rfl ?_
  intro p e s m below meth c b hr hlk hin2 zs hE
  refine k_ent (Nat.le_of_ble_eq_true rfl) (fun ls hl => ?_)
  exact wfX12_why_0 b hlk hr zs zk hf hE (lv_sub hl [0, 1, 2, 3, 4, 5] rfl)
theorem dX12_sum_0 : decode cX12_sum 0 = .ok (.aload_n 0, 1) := by decide +kernel
theorem dX12_sum_1 : decode cX12_sum 1 = .ok (.getfield 515, 3) := by decide +kernel
theorem dX12_sum_4 : decode cX12_sum 4 = .ok (.ifCond .eq 25, 3) := by decide +kernel
theorem dX12_sum_7 : decode cX12_sum 7 = .ok (.iload_n 1, 1) := by decide +kernel
theorem dX12_sum_8 : decode cX12_sum 8 = .ok (.aload_n 0, 1) := by decide +kernel
theorem dX12_sum_9 : decode cX12_sum 9 = .ok (.getfield 512, 3) := by decide +kernel
theorem dX12_sum_12 : decode cX12_sum 12 = .ok (.invokestatic 435, 3) := by decide +kernel
theorem dX12_sum_15 : decode cX12_sum 15 = .ok (.ifCond .eq 14, 3) := by decide +kernel
theorem dX12_sum_18 : decode cX12_sum 18 = .ok (.iload_n 2, 1) := by decide +kernel
theorem dX12_sum_19 : decode cX12_sum 19 = .ok (.aload_n 0, 1) := by decide +kernel
theorem dX12_sum_20 : decode cX12_sum 20 = .ok (.getfield 506, 3) := by decide +kernel
theorem dX12_sum_23 : decode cX12_sum 23 = .ok (.invokestatic 435, 3) := by decide +kernel
theorem dX12_sum_26 : decode cX12_sum 26 = .ok (.ifCond .ne 7, 3) := by decide +kernel
theorem dX12_sum_29 : decode cX12_sum 29 = .ok (.ldc2_w 565, 3) := by decide +kernel
theorem dX12_sum_32 : decode cX12_sum 32 = .ok (.lreturn, 1) := by decide +kernel
theorem dX12_sum_33 : decode cX12_sum 33 = .ok (.iconst 5, 1) := by decide +kernel
theorem dX12_sum_34 : decode cX12_sum 34 = .ok (.iload_n 1, 1) := by decide +kernel
theorem dX12_sum_35 : decode cX12_sum 35 = .ok (.imul, 1) := by decide +kernel
theorem dX12_sum_36 : decode cX12_sum 36 = .ok (.iload_n 2, 1) := by decide +kernel
theorem dX12_sum_37 : decode cX12_sum 37 = .ok (.iadd, 1) := by decide +kernel
theorem dX12_sum_38 : decode cX12_sum 38 = .ok (.istore 4, 2) := by decide +kernel
theorem dX12_sum_40 : decode cX12_sum 40 = .ok (.iload_n 3, 1) := by decide +kernel
theorem dX12_sum_41 : decode cX12_sum 41 = .ok (.tableswitch 72 0 3 #[31, 39, 47, 56], 31) := by decide +kernel
theorem dX12_sum_72 : decode cX12_sum 72 = .ok (.aload_n 0, 1) := by decide +kernel
theorem dX12_sum_73 : decode cX12_sum 73 = .ok (.getfield 231, 3) := by decide +kernel
theorem dX12_sum_76 : decode cX12_sum 76 = .ok (.iload 4, 2) := by decide +kernel
theorem dX12_sum_78 : decode cX12_sum 78 = .ok (.laload, 1) := by decide +kernel
theorem dX12_sum_79 : decode cX12_sum 79 = .ok (.lreturn, 1) := by decide +kernel
theorem dX12_sum_80 : decode cX12_sum 80 = .ok (.aload_n 0, 1) := by decide +kernel
theorem dX12_sum_81 : decode cX12_sum 81 = .ok (.getfield 234, 3) := by decide +kernel
theorem dX12_sum_84 : decode cX12_sum 84 = .ok (.iload 4, 2) := by decide +kernel
theorem dX12_sum_86 : decode cX12_sum 86 = .ok (.laload, 1) := by decide +kernel
theorem dX12_sum_87 : decode cX12_sum 87 = .ok (.lreturn, 1) := by decide +kernel
theorem dX12_sum_88 : decode cX12_sum 88 = .ok (.aload_n 0, 1) := by decide +kernel
theorem dX12_sum_89 : decode cX12_sum 89 = .ok (.getfield 237, 3) := by decide +kernel
theorem dX12_sum_92 : decode cX12_sum 92 = .ok (.iload 4, 2) := by decide +kernel
theorem dX12_sum_94 : decode cX12_sum 94 = .ok (.iaload, 1) := by decide +kernel
theorem dX12_sum_95 : decode cX12_sum 95 = .ok (.i2l, 1) := by decide +kernel
theorem dX12_sum_96 : decode cX12_sum 96 = .ok (.lreturn, 1) := by decide +kernel
theorem dX12_sum_97 : decode cX12_sum 97 = .ok (.aload_n 0, 1) := by decide +kernel
theorem dX12_sum_98 : decode cX12_sum 98 = .ok (.getfield 240, 3) := by decide +kernel
theorem dX12_sum_101 : decode cX12_sum 101 = .ok (.iload 4, 2) := by decide +kernel
theorem dX12_sum_103 : decode cX12_sum 103 = .ok (.baload, 1) := by decide +kernel
theorem dX12_sum_104 : decode cX12_sum 104 = .ok (.ifCond .eq 7, 3) := by decide +kernel
theorem dX12_sum_107 : decode cX12_sum 107 = .ok (.lconst 1, 1) := by decide +kernel
theorem dX12_sum_108 : decode cX12_sum 108 = .ok (.goto 4, 3) := by decide +kernel
theorem dX12_sum_111 : decode cX12_sum 111 = .ok (.lconst 0, 1) := by decide +kernel
theorem dX12_sum_112 : decode cX12_sum 112 = .ok (.lreturn, 1) := by decide +kernel
theorem dX12_sum_113 : decode cX12_sum 113 = .ok (.ldc2_w 565, 3) := by decide +kernel
theorem dX12_sum_116 : decode cX12_sum 116 = .ok (.lreturn, 1) := by decide +kernel
def fX12_sum_29  (h : MS) : Option (Int64) :=
  some ((-1))
set_option maxHeartbeats 4000000 in
theorem wfX12_sum_29 {args : Array Value} (b : Bd p s m c cX12_sum 5 RX12 D aC) (hlk : meth.locks = false) (hr : meth.sig.returnType = some .long) {Z : State → Prop} (zs : Z s) (zk : ZOK Z (Rg ad)) {rz : Int64} {h : MS}  {H : Heap} {locs : List Loc} {ls : Array Slot} (hf : fX12_sum_29 h = some rz) (hE : CE (EM D aC ad h) (Rg ad) s H locs) (hl : lv_has ls 5 []) : W p l e (RM 1 21 0 0) s m args below meth c H locs 0 0 (MQ below (PQ (EM D aC ad h) (Rg ad) (some (.long rz))) args s 0 0 (Rg ad)) (F0 m 29 ls []) := by
  unfold fX12_sum_29 at hf
  refine k_ldc2 (v := (-1)) b (in8 96 rfl rfl) dX12_sum_29 ?_
  cases hf
  exact k_lret b hlk hr hE (Nat.le_refl _) (Nat.le_refl _) dX12_sum_32
def fX12_sum_0  (h : MS) (x1 : Int32) (x2 : Int32) (x3 : Int32) : Option (Int64) :=
  if (mI h 96) = 0 then (fX12_sum_29  h) else (oB (fX12_isOne x1 (mI h 99)) (fun r3 => if r3 = 0 then (fX12_sum_29  h) else (oB (fX12_isOne x2 (mI h 97)) (fun r6 => if r6 = 0 then (fX12_sum_29  h) else (oL ((5 * x1) + x2) (fun y8 => if x3 = 0 then (oC (ix y8 (mlen 108)) (some ((mB h 108 (Int32.toNatClampNeg y8))))) else (if x3 = 1 then (oC (ix y8 (mlen 109)) (some ((mB h 109 (Int32.toNatClampNeg y8))))) else (if x3 = 2 then (oC (ix y8 (mlen 110)) (some ((Int32.toInt64 (mA h 110 (Int32.toNatClampNeg y8)))))) else (if x3 = 3 then (oC (ix y8 (mlen 111)) (if (mA h 111 (Int32.toNatClampNeg y8)) = 0 then (some (0)) else (some (1)))) else (some ((-1))))))))))))
set_option maxHeartbeats 4000000 in
theorem wfX12_sum_0 {args : Array Value} (b : Bd p s m c cX12_sum 5 RX12 D aC) (hlk : meth.locks = false) (hr : meth.sig.returnType = some .long) {Z : State → Prop} (zs : Z s) (zk : ZOK Z (Rg ad)) {rz : Int64} {h : MS} {x1 : Int32} {x2 : Int32} {x3 : Int32}  {H : Heap} {locs : List Loc} {ls : Array Slot} (hf : fX12_sum_0 h x1 x2 x3 = some rz) (hE : CE (EM D aC ad h) (Rg ad) s H locs) (hl : lv_has ls 5 [(0, .ref (ad 116)), (1, .int x1), (2, .int x2), (3, .int x3)]) : W p l e (RM 1 21 0 0) s m args below meth c H locs 0 0 (MQ below (PQ (EM D aC ad h) (Rg ad) (some (.long rz))) args s 0 0 (Rg ad)) (F0 m 0 ls []) := by
  unfold fX12_sum_0 at hf
  refine lv_aload_n b.1 b.2.1 dX12_sum_0 rfl (lv_at hl 0 rfl) ?_
  refine gM_515 b hE dX12_sum_1 ?_
  refine lv_if_eq (tgt := 29) b.1 b.2.1 dX12_sum_4 (by decide) (fun c1 => ?_) (fun c1 => ?_)
  · have hf := oI_t c1 hf
    exact wfX12_sum_29 b hlk hr zs zk  hf hE (lv_sub hl [] rfl)
  · have hf := oI_f c1 hf
    refine lv_iload_n b.1 b.2.1 dX12_sum_7 rfl (lv_at hl 1 rfl) ?_
    refine lv_aload_n b.1 b.2.1 dX12_sum_8 rfl (lv_at hl 0 rfl) ?_
    refine gM_512 b hE dX12_sum_9 ?_
    obtain ⟨r3, hc2, hf⟩ := oB_s hf
    refine k_callS0 b zs zk hE (CX12_isOne l D aC zk hc2) mc_X12_isOne (in7 216 rfl rfl) mt_X12_isOne ini_RX12 ok_X12_isOne ⟨Nat.le_of_ble_eq_true rfl, Nat.le_of_ble_eq_true rfl⟩ rfl hl.1 rfl (k_room _ (by exact Nat.le_of_ble_eq_true rfl)) ⟨Nat.le_refl _, Nat.le_refl _⟩ dX12_sum_12 (fun H locs hE => ?_)
    refine lv_if_eq (tgt := 29) b.1 b.2.1 dX12_sum_15 (by decide) (fun c4 => ?_) (fun c4 => ?_)
    · have hf := oI_t c4 hf
      exact wfX12_sum_29 b hlk hr zs zk  hf hE (lv_sub hl [] rfl)
    · have hf := oI_f c4 hf
      refine lv_iload_n b.1 b.2.1 dX12_sum_18 rfl (lv_at hl 2 rfl) ?_
      refine lv_aload_n b.1 b.2.1 dX12_sum_19 rfl (lv_at hl 0 rfl) ?_
      refine gM_506 b hE dX12_sum_20 ?_
      obtain ⟨r6, hc5, hf⟩ := oB_s hf
      refine k_callS0 b zs zk hE (CX12_isOne l D aC zk hc5) mc_X12_isOne (in7 216 rfl rfl) mt_X12_isOne ini_RX12 ok_X12_isOne ⟨Nat.le_of_ble_eq_true rfl, Nat.le_of_ble_eq_true rfl⟩ rfl hl.1 rfl (k_room _ (by exact Nat.le_of_ble_eq_true rfl)) ⟨Nat.le_refl _, Nat.le_refl _⟩ dX12_sum_23 (fun H locs hE => ?_)
      refine lv_if_ne (tgt := 33) b.1 b.2.1 dX12_sum_26 (by decide) (fun c7 => ?_) (fun c7 => ?_)
      · have hf := oI_f c7 hf
        refine lv_iconst (v := 5) b.1 b.2.1 dX12_sum_33 (by decide) ?_
        refine lv_iload_n b.1 b.2.1 dX12_sum_34 rfl (lv_at hl 1 rfl) ?_
        refine lv_imul b.1 b.2.1 dX12_sum_35 ?_
        refine lv_iload_n b.1 b.2.1 dX12_sum_36 rfl (lv_at hl 2 rfl) ?_
        refine lv_iadd b.1 b.2.1 dX12_sum_37 ?_
        obtain ⟨y8, ey8, hf⟩ := oL_s hf
        refine k_nmI ey8 ?_
        refine lv_istore (lv' := [(4, .int y8), (0, .ref (ad 116)), (1, .int x1), (2, .int x2), (3, .int x3)]) b.1 b.2.1 dX12_sum_38 hl (by decide) rfl (fun ls hl => ?_)
        have hl := lv_sub (l' := [(4, .int y8), (0, .ref (ad 116)), (3, .int x3)]) hl [0, 1, 4] rfl
        refine lv_iload_n b.1 b.2.1 dX12_sum_40 rfl (lv_at hl 2 rfl) ?_
        rcases Decidable.em (x3 = 0) with c9 | c9
        · have hf := oI_t c9 hf
          refine lv_tableIn (tgt := 72) b.1 b.2.1 dX12_sum_41 (off := 31) (by rw [c9]; decide) (by rw [c9]; decide) (by rw [c9] <;> rfl) (by decide) ?_
          refine lv_aload_n b.1 b.2.1 dX12_sum_72 rfl (lv_at hl 1 rfl) ?_
          refine gM_231 b hE dX12_sum_73 ?_
          refine lv_iload b.1 b.2.1 dX12_sum_76 (lv_at hl 0 rfl) ?_
          obtain ⟨g10, hf⟩ := oC_s hf
          refine m_lald b hE rfl rfl g10 dX12_sum_78 ?_
          cases hf
          exact k_lret b hlk hr hE (Nat.le_refl _) (Nat.le_refl _) dX12_sum_79
        have hf := oI_f c9 hf
        rcases Decidable.em (x3 = 1) with c11 | c11
        · have hf := oI_t c11 hf
          refine lv_tableIn (tgt := 80) b.1 b.2.1 dX12_sum_41 (off := 39) (by rw [c11]; decide) (by rw [c11]; decide) (by rw [c11] <;> rfl) (by decide) ?_
          refine lv_aload_n b.1 b.2.1 dX12_sum_80 rfl (lv_at hl 1 rfl) ?_
          refine gM_234 b hE dX12_sum_81 ?_
          refine lv_iload b.1 b.2.1 dX12_sum_84 (lv_at hl 0 rfl) ?_
          obtain ⟨g12, hf⟩ := oC_s hf
          refine m_lald b hE rfl rfl g12 dX12_sum_86 ?_
          cases hf
          exact k_lret b hlk hr hE (Nat.le_refl _) (Nat.le_refl _) dX12_sum_87
        have hf := oI_f c11 hf
        rcases Decidable.em (x3 = 2) with c13 | c13
        · have hf := oI_t c13 hf
          refine lv_tableIn (tgt := 88) b.1 b.2.1 dX12_sum_41 (off := 47) (by rw [c13]; decide) (by rw [c13]; decide) (by rw [c13] <;> rfl) (by decide) ?_
          refine lv_aload_n b.1 b.2.1 dX12_sum_88 rfl (lv_at hl 1 rfl) ?_
          refine gM_237 b hE dX12_sum_89 ?_
          refine lv_iload b.1 b.2.1 dX12_sum_92 (lv_at hl 0 rfl) ?_
          obtain ⟨g14, hf⟩ := oC_s hf
          refine m_iald b hE rfl rfl g14 dX12_sum_94 ?_
          refine lv_i2l b.1 b.2.1 dX12_sum_95 rfl ?_
          cases hf
          exact k_lret b hlk hr hE (Nat.le_refl _) (Nat.le_refl _) dX12_sum_96
        have hf := oI_f c13 hf
        rcases Decidable.em (x3 = 3) with c15 | c15
        · have hf := oI_t c15 hf
          refine lv_tableIn (tgt := 97) b.1 b.2.1 dX12_sum_41 (off := 56) (by rw [c15]; decide) (by rw [c15]; decide) (by rw [c15] <;> rfl) (by decide) ?_
          refine lv_aload_n b.1 b.2.1 dX12_sum_97 rfl (lv_at hl 1 rfl) ?_
          refine gM_240 b hE dX12_sum_98 ?_
          refine lv_iload b.1 b.2.1 dX12_sum_101 (lv_at hl 0 rfl) ?_
          obtain ⟨g16, hf⟩ := oC_s hf
          refine m_zald b hE rfl rfl g16 dX12_sum_103 ?_
          refine lv_if_eq (tgt := 111) b.1 b.2.1 dX12_sum_104 (by decide) (fun c17 => ?_) (fun c17 => ?_)
          · have hf := oI_t c17 hf
            refine lv_lconst (v := 0) b.1 b.2.1 dX12_sum_111 rfl ?_
            cases hf
            exact k_lret b hlk hr hE (Nat.le_refl _) (Nat.le_refl _) dX12_sum_112
          · have hf := oI_f c17 hf
            refine lv_lconst (v := 1) b.1 b.2.1 dX12_sum_107 rfl ?_
            refine lv_goto (tgt := 112) b.1 b.2.1 dX12_sum_108 (by decide) ?_
            cases hf
            exact k_lret b hlk hr hE (Nat.le_refl _) (Nat.le_refl _) dX12_sum_112
        have hf := oI_f c15 hf
        have c9 := lv_neT (a := 0) c9 (by decide)
        have c11 := lv_neT (a := 1) c11 (by decide)
        have c13 := lv_neT (a := 2) c13 (by decide)
        have c15 := lv_neT (a := 3) c15 (by decide)
        refine lv_tableOut (tgt := 113) b.1 b.2.1 dX12_sum_41 (by omega) (by decide) ?_
        refine k_ldc2 (v := (-1)) b (in8 96 rfl rfl) dX12_sum_113 ?_
        cases hf
        exact k_lret b hlk hr hE (Nat.le_refl _) (Nat.le_refl _) dX12_sum_116
      · have hf := oI_t c7 hf
        exact wfX12_sum_29 b hlk hr zs zk  hf hE (lv_sub hl [] rfl)
def fX12_sum (h : MS) (x1 : Int32) (x2 : Int32) (x3 : Int32) : Option (Int64) := fX12_sum_0 h x1 x2 x3
set_option maxHeartbeats 4000000 in
theorem CX12_sum (l : Launch) (D : va_G) (aC : Nat → ClassId) (ad : Nat → Nat) {Z : State → Prop} (zk : ZOK Z (Rg ad)) {h : MS} {x1 : Int32} {x2 : Int32} {x3 : Int32} {rz : Int64} (hf : fX12_sum h x1 x2 x3 = some rz) : CM l D aC Z yX12_sum cX12_sum 5 (some .long) 1 21 0 0 (EM D aC ad h) [.ref (ad 116), .int x1, .int x2, .int x3] (EM D aC ad h) (some (.long rz)) (Rg ad) := by
  refine CM.of rfl ?_
  intro p e s m below meth c b hr hlk hin2 zs hE
  refine k_ent (Nat.le_of_ble_eq_true rfl) (fun ls hl => ?_)
  exact wfX12_sum_0 b hlk hr zs zk hf hE (lv_sub hl [0, 1, 2, 3] rfl)
theorem dX12_byteOut_0 : decode cX12_byteOut 0 = .ok (.aload_n 0, 1) := by decide +kernel
theorem dX12_byteOut_1 : decode cX12_byteOut 1 = .ok (.getfield 567, 3) := by decide +kernel
theorem dX12_byteOut_4 : decode cX12_byteOut 4 = .ok (.sipush 4000, 3) := by decide +kernel
theorem dX12_byteOut_7 : decode cX12_byteOut 7 = .ok (.if_icmp .ge 14, 3) := by decide +kernel
theorem dX12_byteOut_10 : decode cX12_byteOut 10 = .ok (.aload_n 0, 1) := by decide +kernel
theorem dX12_byteOut_11 : decode cX12_byteOut 11 = .ok (.getfield 246, 3) := by decide +kernel
theorem dX12_byteOut_14 : decode cX12_byteOut 14 = .ok (.aload_n 0, 1) := by decide +kernel
theorem dX12_byteOut_15 : decode cX12_byteOut 15 = .ok (.getfield 567, 3) := by decide +kernel
theorem dX12_byteOut_18 : decode cX12_byteOut 18 = .ok (.iload_n 1, 1) := by decide +kernel
theorem dX12_byteOut_19 : decode cX12_byteOut 19 = .ok (.i2b, 1) := by decide +kernel
theorem dX12_byteOut_20 : decode cX12_byteOut 20 = .ok (.bastore, 1) := by decide +kernel
theorem dX12_byteOut_21 : decode cX12_byteOut 21 = .ok (.aload_n 0, 1) := by decide +kernel
theorem dX12_byteOut_22 : decode cX12_byteOut 22 = .ok (.dup, 1) := by decide +kernel
theorem dX12_byteOut_23 : decode cX12_byteOut 23 = .ok (.getfield 567, 3) := by decide +kernel
theorem dX12_byteOut_26 : decode cX12_byteOut 26 = .ok (.iconst 1, 1) := by decide +kernel
theorem dX12_byteOut_27 : decode cX12_byteOut 27 = .ok (.iadd, 1) := by decide +kernel
theorem dX12_byteOut_28 : decode cX12_byteOut 28 = .ok (.putfield 567, 3) := by decide +kernel
theorem dX12_byteOut_31 : decode cX12_byteOut 31 = .ok (.return_, 1) := by decide +kernel
def fX12_byteOut_21  (h : MS) : Option (MS) :=
  oL (mSI h 113 ((mI h 113) + 1)) (fun h1 => some (h1))
set_option maxHeartbeats 4000000 in
theorem wfX12_byteOut_21 {args : Array Value} (b : Bd p s m c cX12_byteOut 2 RX12 D aC) (hlk : meth.locks = false) (hr : meth.sig.returnType = none) {Z : State → Prop} (zs : Z s) (zk : ZOK Z (Rg ad)) {hz : MS} {h : MS}  {H : Heap} {locs : List Loc} {ls : Array Slot} (hf : fX12_byteOut_21 h = some hz) (hE : CE (EM D aC ad h) (Rg ad) s H locs) (hl : lv_has ls 2 [(0, .ref (ad 116))]) : W p l e (RM 0 0 0 0) s m args below meth c H locs 0 0 (MQ below (PQ (EM D aC ad hz) (Rg ad) none) args s 0 0 (Rg ad)) (F0 m 21 ls []) := by
  unfold fX12_byteOut_21 at hf
  refine lv_aload_n b.1 b.2.1 dX12_byteOut_21 rfl (lv_at hl 0 rfl) ?_
  refine lv_dup b.1 b.2.1 dX12_byteOut_22 rfl ?_
  refine gM_567 b hE dX12_byteOut_23 ?_
  refine lv_iconst (v := 1) b.1 b.2.1 dX12_byteOut_26 (by decide) ?_
  refine lv_iadd b.1 b.2.1 dX12_byteOut_27 ?_
  obtain ⟨h1, eh1, hf⟩ := oL_s hf
  refine pM_567 b hE eh1 dX12_byteOut_28 (fun H locs hE => ?_)
  cases hf
  exact k_vret b hlk hr hE (Nat.le_refl _) (Nat.le_refl _) dX12_byteOut_31
def fX12_byteOut_0  (h : MS) (x1 : Int32) : Option (MS) :=
  if 4000 ≤ (mI h 113) then (fX12_byteOut_21  h) else (oC (ix (mI h 113) (mlen 114)) (oL (mSA h 114 (Int32.toNatClampNeg (mI h 113)) (Int8.toInt32 (Int32.toInt8 (Int8.toInt32 (Int32.toInt8 x1))))) (fun h4 => fX12_byteOut_21  h4)))
set_option maxHeartbeats 4000000 in
theorem wfX12_byteOut_0 {args : Array Value} (b : Bd p s m c cX12_byteOut 2 RX12 D aC) (hlk : meth.locks = false) (hr : meth.sig.returnType = none) {Z : State → Prop} (zs : Z s) (zk : ZOK Z (Rg ad)) {hz : MS} {h : MS} {x1 : Int32}  {H : Heap} {locs : List Loc} {ls : Array Slot} (hf : fX12_byteOut_0 h x1 = some hz) (hE : CE (EM D aC ad h) (Rg ad) s H locs) (hl : lv_has ls 2 [(0, .ref (ad 116)), (1, .int x1)]) : W p l e (RM 0 0 0 0) s m args below meth c H locs 0 0 (MQ below (PQ (EM D aC ad hz) (Rg ad) none) args s 0 0 (Rg ad)) (F0 m 0 ls []) := by
  unfold fX12_byteOut_0 at hf
  refine lv_aload_n b.1 b.2.1 dX12_byteOut_0 rfl (lv_at hl 0 rfl) ?_
  refine gM_567 b hE dX12_byteOut_1 ?_
  refine lv_sipush (v := 4000) b.1 b.2.1 dX12_byteOut_4 (by decide) ?_
  refine lv_icmp_ge (tgt := 21) b.1 b.2.1 dX12_byteOut_7 (by decide) (fun c2 => ?_) (fun c2 => ?_)
  · have hf := oI_t c2 hf
    exact wfX12_byteOut_21 b hlk hr zs zk  hf hE (lv_sub hl [0] rfl)
  · have hf := oI_f c2 hf
    refine lv_aload_n b.1 b.2.1 dX12_byteOut_10 rfl (lv_at hl 0 rfl) ?_
    refine gM_246 b hE dX12_byteOut_11 ?_
    refine lv_aload_n b.1 b.2.1 dX12_byteOut_14 rfl (lv_at hl 0 rfl) ?_
    refine gM_567 b hE dX12_byteOut_15 ?_
    refine lv_iload_n b.1 b.2.1 dX12_byteOut_18 rfl (lv_at hl 1 rfl) ?_
    refine lv_i2b b.1 b.2.1 dX12_byteOut_19 rfl ?_
    obtain ⟨g3, hf⟩ := oC_s hf
    obtain ⟨h4, eh4, hf⟩ := oL_s hf
    refine n_bast b hE rfl rfl g3 eh4 dX12_byteOut_20 (fun H locs hE => ?_)
    exact wfX12_byteOut_21 b hlk hr zs zk  hf hE (lv_sub hl [0] rfl)
def fX12_byteOut (h : MS) (x1 : Int32) : Option (MS) := fX12_byteOut_0 h x1
set_option maxHeartbeats 4000000 in
theorem CX12_byteOut (l : Launch) (D : va_G) (aC : Nat → ClassId) (ad : Nat → Nat) {Z : State → Prop} (zk : ZOK Z (Rg ad)) {h : MS} {x1 : Int32} {hz : MS} (hf : fX12_byteOut h x1 = some hz) : CM l D aC Z yX12_byteOut cX12_byteOut 2 (none) 0 0 0 0 (EM D aC ad h) [.ref (ad 116), .int x1] (EM D aC ad hz) none (Rg ad) := by
  refine CM.of rfl ?_
  intro p e s m below meth c b hr hlk hin2 zs hE
  refine k_ent (Nat.le_of_ble_eq_true rfl) (fun ls hl => ?_)
  exact wfX12_byteOut_0 b hlk hr zs zk hf hE (lv_sub hl [0, 1] rfl)
end
