section
variable {p : Program} {l : Launch} {e : Env} {s : State} {m : MethodId} {below : List Frame} {meth : Method} {c : Code} {D : va_G} {aC : Nat → ClassId} {ad : Nat → Nat}
theorem dX12_cut_0 : decode cX12_cut 0 = .ok (.aload_n 0, 1) := by decide +kernel
theorem dX12_cut_1 : decode cX12_cut 1 = .ok (.iconst 0, 1) := by decide +kernel
theorem dX12_cut_2 : decode cX12_cut 2 = .ok (.putfield 276, 3) := by decide +kernel
theorem dX12_cut_5 : decode cX12_cut 5 = .ok (.iconst 0, 1) := by decide +kernel
theorem dX12_cut_6 : decode cX12_cut 6 = .ok (.istore_n 1, 1) := by decide +kernel
theorem dX12_cut_7 : decode cX12_cut 7 = .ok (.aload_n 0, 1) := by decide +kernel
theorem dX12_cut_8 : decode cX12_cut 8 = .ok (.getfield 276, 3) := by decide +kernel
theorem dX12_cut_11 : decode cX12_cut 11 = .ok (.sipush 1200, 3) := by decide +kernel
theorem dX12_cut_14 : decode cX12_cut 14 = .ok (.if_icmp .gt 321, 3) := by decide +kernel
theorem dX12_cut_17 : decode cX12_cut 17 = .ok (.aload_n 0, 1) := by decide +kernel
theorem dX12_cut_18 : decode cX12_cut 18 = .ok (.iload_n 1, 1) := by decide +kernel
theorem dX12_cut_19 : decode cX12_cut 19 = .ok (.invokevirtual 279, 3) := by decide +kernel
theorem dX12_cut_22 : decode cX12_cut 22 = .ok (.istore_n 2, 1) := by decide +kernel
theorem dX12_cut_23 : decode cX12_cut 23 = .ok (.iload_n 1, 1) := by decide +kernel
theorem dX12_cut_24 : decode cX12_cut 24 = .ok (.aload_n 0, 1) := by decide +kernel
theorem dX12_cut_25 : decode cX12_cut 25 = .ok (.getfield 263, 3) := by decide +kernel
theorem dX12_cut_28 : decode cX12_cut 28 = .ok (.if_icmp .lt 15, 3) := by decide +kernel
theorem dX12_cut_31 : decode cX12_cut 31 = .ok (.aload_n 0, 1) := by decide +kernel
theorem dX12_cut_32 : decode cX12_cut 32 = .ok (.iconst 0, 1) := by decide +kernel
theorem dX12_cut_33 : decode cX12_cut 33 = .ok (.aload_n 0, 1) := by decide +kernel
theorem dX12_cut_34 : decode cX12_cut 34 = .ok (.getfield 263, 3) := by decide +kernel
theorem dX12_cut_37 : decode cX12_cut 37 = .ok (.iconst 0, 1) := by decide +kernel
theorem dX12_cut_38 : decode cX12_cut 38 = .ok (.lconst 0, 1) := by decide +kernel
theorem dX12_cut_39 : decode cX12_cut 39 = .ok (.invokevirtual 283, 3) := by decide +kernel
theorem dX12_cut_42 : decode cX12_cut 42 = .ok (.return_, 1) := by decide +kernel
theorem dX12_cut_43 : decode cX12_cut 43 = .ok (.iload_n 2, 1) := by decide +kernel
theorem dX12_cut_44 : decode cX12_cut 44 = .ok (.bipush 9, 2) := by decide +kernel
theorem dX12_cut_46 : decode cX12_cut 46 = .ok (.if_icmp .eq 21, 3) := by decide +kernel
theorem dX12_cut_49 : decode cX12_cut 49 = .ok (.iload_n 2, 1) := by decide +kernel
theorem dX12_cut_50 : decode cX12_cut 50 = .ok (.bipush 10, 2) := by decide +kernel
theorem dX12_cut_52 : decode cX12_cut 52 = .ok (.if_icmp .eq 15, 3) := by decide +kernel
theorem dX12_cut_55 : decode cX12_cut 55 = .ok (.iload_n 2, 1) := by decide +kernel
theorem dX12_cut_56 : decode cX12_cut 56 = .ok (.bipush 13, 2) := by decide +kernel
theorem dX12_cut_58 : decode cX12_cut 58 = .ok (.if_icmp .eq 9, 3) := by decide +kernel
theorem dX12_cut_61 : decode cX12_cut 61 = .ok (.iload_n 2, 1) := by decide +kernel
theorem dX12_cut_62 : decode cX12_cut 62 = .ok (.bipush 32, 2) := by decide +kernel
theorem dX12_cut_64 : decode cX12_cut 64 = .ok (.if_icmp .ne 9, 3) := by decide +kernel
theorem dX12_cut_67 : decode cX12_cut 67 = .ok (.iinc 1 1, 3) := by decide +kernel
theorem dX12_cut_70 : decode cX12_cut 70 = .ok (.goto 262, 3) := by decide +kernel
theorem dX12_cut_73 : decode cX12_cut 73 = .ok (.iload_n 2, 1) := by decide +kernel
theorem dX12_cut_74 : decode cX12_cut 74 = .ok (.invokestatic 287, 3) := by decide +kernel
theorem dX12_cut_77 : decode cX12_cut 77 = .ok (.ifCond .eq 132, 3) := by decide +kernel
theorem dX12_cut_80 : decode cX12_cut 80 = .ok (.iconst 0, 1) := by decide +kernel
theorem dX12_cut_81 : decode cX12_cut 81 = .ok (.istore_n 3, 1) := by decide +kernel
theorem dX12_cut_82 : decode cX12_cut 82 = .ok (.lconst 0, 1) := by decide +kernel
theorem dX12_cut_83 : decode cX12_cut 83 = .ok (.lstore 4, 2) := by decide +kernel
theorem dX12_cut_85 : decode cX12_cut 85 = .ok (.aload_n 0, 1) := by decide +kernel
theorem dX12_cut_86 : decode cX12_cut 86 = .ok (.iload_n 1, 1) := by decide +kernel
theorem dX12_cut_87 : decode cX12_cut 87 = .ok (.iload_n 3, 1) := by decide +kernel
theorem dX12_cut_88 : decode cX12_cut 88 = .ok (.iadd, 1) := by decide +kernel
theorem dX12_cut_89 : decode cX12_cut 89 = .ok (.invokevirtual 279, 3) := by decide +kernel
theorem dX12_cut_92 : decode cX12_cut 92 = .ok (.invokestatic 287, 3) := by decide +kernel
theorem dX12_cut_95 : decode cX12_cut 95 = .ok (.ifCond .ne 16, 3) := by decide +kernel
theorem dX12_cut_98 : decode cX12_cut 98 = .ok (.aload_n 0, 1) := by decide +kernel
theorem dX12_cut_99 : decode cX12_cut 99 = .ok (.iload_n 1, 1) := by decide +kernel
theorem dX12_cut_100 : decode cX12_cut 100 = .ok (.iload_n 3, 1) := by decide +kernel
theorem dX12_cut_101 : decode cX12_cut 101 = .ok (.iadd, 1) := by decide +kernel
theorem dX12_cut_102 : decode cX12_cut 102 = .ok (.invokevirtual 279, 3) := by decide +kernel
theorem dX12_cut_105 : decode cX12_cut 105 = .ok (.invokestatic 268, 3) := by decide +kernel
theorem dX12_cut_108 : decode cX12_cut 108 = .ok (.ifCond .eq 29, 3) := by decide +kernel
theorem dX12_cut_111 : decode cX12_cut 111 = .ok (.iload_n 3, 1) := by decide +kernel
theorem dX12_cut_112 : decode cX12_cut 112 = .ok (.bipush 10, 2) := by decide +kernel
theorem dX12_cut_114 : decode cX12_cut 114 = .ok (.if_icmp .ge 17, 3) := by decide +kernel
theorem dX12_cut_117 : decode cX12_cut 117 = .ok (.lload 4, 2) := by decide +kernel
theorem dX12_cut_119 : decode cX12_cut 119 = .ok (.aload_n 0, 1) := by decide +kernel
theorem dX12_cut_120 : decode cX12_cut 120 = .ok (.iload_n 1, 1) := by decide +kernel
theorem dX12_cut_121 : decode cX12_cut 121 = .ok (.iload_n 3, 1) := by decide +kernel
theorem dX12_cut_122 : decode cX12_cut 122 = .ok (.iadd, 1) := by decide +kernel
theorem dX12_cut_123 : decode cX12_cut 123 = .ok (.invokevirtual 279, 3) := by decide +kernel
theorem dX12_cut_126 : decode cX12_cut 126 = .ok (.invokestatic 272, 3) := by decide +kernel
theorem dX12_cut_129 : decode cX12_cut 129 = .ok (.lstore 4, 2) := by decide +kernel
theorem dX12_cut_131 : decode cX12_cut 131 = .ok (.iinc 3 1, 3) := by decide +kernel
theorem dX12_cut_134 : decode cX12_cut 134 = .ok (.goto (-49), 3) := by decide +kernel
theorem dX12_cut_137 : decode cX12_cut 137 = .ok (.iload_n 3, 1) := by decide +kernel
theorem dX12_cut_138 : decode cX12_cut 138 = .ok (.bipush 10, 2) := by decide +kernel
theorem dX12_cut_140 : decode cX12_cut 140 = .ok (.if_icmp .le 7, 3) := by decide +kernel
theorem dX12_cut_143 : decode cX12_cut 143 = .ok (.iconst 4, 1) := by decide +kernel
theorem dX12_cut_144 : decode cX12_cut 144 = .ok (.goto 4, 3) := by decide +kernel
theorem dX12_cut_147 : decode cX12_cut 147 = .ok (.iconst 1, 1) := by decide +kernel
theorem dX12_cut_148 : decode cX12_cut 148 = .ok (.istore 6, 2) := by decide +kernel
theorem dX12_cut_150 : decode cX12_cut 150 = .ok (.iload_n 3, 1) := by decide +kernel
theorem dX12_cut_151 : decode cX12_cut 151 = .ok (.bipush 6, 2) := by decide +kernel
theorem dX12_cut_153 : decode cX12_cut 153 = .ok (.if_icmp .gt 39, 3) := by decide +kernel
theorem dX12_cut_156 : decode cX12_cut 156 = .ok (.iconst 0, 1) := by decide +kernel
theorem dX12_cut_157 : decode cX12_cut 157 = .ok (.istore 7, 2) := by decide +kernel
theorem dX12_cut_159 : decode cX12_cut 159 = .ok (.iload 7, 2) := by decide +kernel
theorem dX12_cut_161 : decode cX12_cut 161 = .ok (.bipush 18, 2) := by decide +kernel
theorem dX12_cut_163 : decode cX12_cut 163 = .ok (.if_icmp .ge 29, 3) := by decide +kernel
theorem dX12_cut_166 : decode cX12_cut 166 = .ok (.aload_n 0, 1) := by decide +kernel
theorem dX12_cut_167 : decode cX12_cut 167 = .ok (.getfield 34, 3) := by decide +kernel
theorem dX12_cut_170 : decode cX12_cut 170 = .ok (.iload 7, 2) := by decide +kernel
theorem dX12_cut_172 : decode cX12_cut 172 = .ok (.laload, 1) := by decide +kernel
theorem dX12_cut_173 : decode cX12_cut 173 = .ok (.lload 4, 2) := by decide +kernel
theorem dX12_cut_175 : decode cX12_cut 175 = .ok (.lcmp, 1) := by decide +kernel
theorem dX12_cut_176 : decode cX12_cut 176 = .ok (.ifCond .ne 10, 3) := by decide +kernel
theorem dX12_cut_179 : decode cX12_cut 179 = .ok (.bipush 20, 2) := by decide +kernel
theorem dX12_cut_181 : decode cX12_cut 181 = .ok (.iload 7, 2) := by decide +kernel
theorem dX12_cut_183 : decode cX12_cut 183 = .ok (.iadd, 1) := by decide +kernel
theorem dX12_cut_184 : decode cX12_cut 184 = .ok (.istore 6, 2) := by decide +kernel
theorem dX12_cut_186 : decode cX12_cut 186 = .ok (.iinc 7 1, 3) := by decide +kernel
theorem dX12_cut_189 : decode cX12_cut 189 = .ok (.goto (-30), 3) := by decide +kernel
theorem dX12_cut_192 : decode cX12_cut 192 = .ok (.aload_n 0, 1) := by decide +kernel
theorem dX12_cut_193 : decode cX12_cut 193 = .ok (.iload 6, 2) := by decide +kernel
theorem dX12_cut_195 : decode cX12_cut 195 = .ok (.iload_n 1, 1) := by decide +kernel
theorem dX12_cut_196 : decode cX12_cut 196 = .ok (.iconst 0, 1) := by decide +kernel
theorem dX12_cut_197 : decode cX12_cut 197 = .ok (.lload 4, 2) := by decide +kernel
theorem dX12_cut_199 : decode cX12_cut 199 = .ok (.invokevirtual 283, 3) := by decide +kernel
theorem dX12_cut_202 : decode cX12_cut 202 = .ok (.iload_n 1, 1) := by decide +kernel
theorem dX12_cut_203 : decode cX12_cut 203 = .ok (.iload_n 3, 1) := by decide +kernel
theorem dX12_cut_204 : decode cX12_cut 204 = .ok (.iadd, 1) := by decide +kernel
theorem dX12_cut_205 : decode cX12_cut 205 = .ok (.istore_n 1, 1) := by decide +kernel
theorem dX12_cut_206 : decode cX12_cut 206 = .ok (.goto 126, 3) := by decide +kernel
theorem dX12_cut_209 : decode cX12_cut 209 = .ok (.iload_n 2, 1) := by decide +kernel
theorem dX12_cut_210 : decode cX12_cut 210 = .ok (.bipush 65, 2) := by decide +kernel
theorem dX12_cut_212 : decode cX12_cut 212 = .ok (.if_icmp .lt 23, 3) := by decide +kernel
theorem dX12_cut_215 : decode cX12_cut 215 = .ok (.iload_n 2, 1) := by decide +kernel
theorem dX12_cut_216 : decode cX12_cut 216 = .ok (.bipush 90, 2) := by decide +kernel
theorem dX12_cut_218 : decode cX12_cut 218 = .ok (.if_icmp .gt 17, 3) := by decide +kernel
theorem dX12_cut_221 : decode cX12_cut 221 = .ok (.aload_n 0, 1) := by decide +kernel
theorem dX12_cut_222 : decode cX12_cut 222 = .ok (.iconst 2, 1) := by decide +kernel
theorem dX12_cut_223 : decode cX12_cut 223 = .ok (.iload_n 1, 1) := by decide +kernel
theorem dX12_cut_224 : decode cX12_cut 224 = .ok (.iload_n 2, 1) := by decide +kernel
theorem dX12_cut_225 : decode cX12_cut 225 = .ok (.lconst 0, 1) := by decide +kernel
theorem dX12_cut_226 : decode cX12_cut 226 = .ok (.invokevirtual 283, 3) := by decide +kernel
theorem dX12_cut_229 : decode cX12_cut 229 = .ok (.iinc 1 1, 3) := by decide +kernel
theorem dX12_cut_232 : decode cX12_cut 232 = .ok (.goto 100, 3) := by decide +kernel
theorem dX12_cut_235 : decode cX12_cut 235 = .ok (.iload_n 2, 1) := by decide +kernel
theorem dX12_cut_236 : decode cX12_cut 236 = .ok (.invokestatic 268, 3) := by decide +kernel
theorem dX12_cut_239 : decode cX12_cut 239 = .ok (.ifCond .eq 77, 3) := by decide +kernel
theorem dX12_cut_242 : decode cX12_cut 242 = .ok (.iconst 0, 1) := by decide +kernel
theorem dX12_cut_243 : decode cX12_cut 243 = .ok (.istore_n 3, 1) := by decide +kernel
theorem dX12_cut_244 : decode cX12_cut 244 = .ok (.iconst 0, 1) := by decide +kernel
theorem dX12_cut_245 : decode cX12_cut 245 = .ok (.istore 4, 2) := by decide +kernel
theorem dX12_cut_247 : decode cX12_cut 247 = .ok (.aload_n 0, 1) := by decide +kernel
theorem dX12_cut_248 : decode cX12_cut 248 = .ok (.iload_n 1, 1) := by decide +kernel
theorem dX12_cut_249 : decode cX12_cut 249 = .ok (.iload_n 3, 1) := by decide +kernel
theorem dX12_cut_250 : decode cX12_cut 250 = .ok (.iadd, 1) := by decide +kernel
theorem dX12_cut_251 : decode cX12_cut 251 = .ok (.invokevirtual 279, 3) := by decide +kernel
theorem dX12_cut_254 : decode cX12_cut 254 = .ok (.invokestatic 268, 3) := by decide +kernel
theorem dX12_cut_257 : decode cX12_cut 257 = .ok (.ifCond .eq 33, 3) := by decide +kernel
theorem dX12_cut_260 : decode cX12_cut 260 = .ok (.iload_n 3, 1) := by decide +kernel
theorem dX12_cut_261 : decode cX12_cut 261 = .ok (.bipush 6, 2) := by decide +kernel
theorem dX12_cut_263 : decode cX12_cut 263 = .ok (.if_icmp .ge 21, 3) := by decide +kernel
theorem dX12_cut_266 : decode cX12_cut 266 = .ok (.bipush 10, 2) := by decide +kernel
theorem dX12_cut_268 : decode cX12_cut 268 = .ok (.iload 4, 2) := by decide +kernel
theorem dX12_cut_270 : decode cX12_cut 270 = .ok (.imul, 1) := by decide +kernel
theorem dX12_cut_271 : decode cX12_cut 271 = .ok (.aload_n 0, 1) := by decide +kernel
theorem dX12_cut_272 : decode cX12_cut 272 = .ok (.iload_n 1, 1) := by decide +kernel
theorem dX12_cut_273 : decode cX12_cut 273 = .ok (.iload_n 3, 1) := by decide +kernel
theorem dX12_cut_274 : decode cX12_cut 274 = .ok (.iadd, 1) := by decide +kernel
theorem dX12_cut_275 : decode cX12_cut 275 = .ok (.invokevirtual 279, 3) := by decide +kernel
theorem dX12_cut_278 : decode cX12_cut 278 = .ok (.iadd, 1) := by decide +kernel
theorem dX12_cut_279 : decode cX12_cut 279 = .ok (.bipush 48, 2) := by decide +kernel
theorem dX12_cut_281 : decode cX12_cut 281 = .ok (.isub, 1) := by decide +kernel
theorem dX12_cut_282 : decode cX12_cut 282 = .ok (.istore 4, 2) := by decide +kernel
theorem dX12_cut_284 : decode cX12_cut 284 = .ok (.iinc 3 1, 3) := by decide +kernel
theorem dX12_cut_287 : decode cX12_cut 287 = .ok (.goto (-40), 3) := by decide +kernel
theorem dX12_cut_290 : decode cX12_cut 290 = .ok (.aload_n 0, 1) := by decide +kernel
theorem dX12_cut_291 : decode cX12_cut 291 = .ok (.iload_n 3, 1) := by decide +kernel
theorem dX12_cut_292 : decode cX12_cut 292 = .ok (.bipush 6, 2) := by decide +kernel
theorem dX12_cut_294 : decode cX12_cut 294 = .ok (.if_icmp .le 7, 3) := by decide +kernel
theorem dX12_cut_297 : decode cX12_cut 297 = .ok (.iconst 4, 1) := by decide +kernel
theorem dX12_cut_298 : decode cX12_cut 298 = .ok (.goto 4, 3) := by decide +kernel
theorem dX12_cut_301 : decode cX12_cut 301 = .ok (.iconst 3, 1) := by decide +kernel
theorem dX12_cut_302 : decode cX12_cut 302 = .ok (.iload_n 1, 1) := by decide +kernel
theorem dX12_cut_303 : decode cX12_cut 303 = .ok (.iload 4, 2) := by decide +kernel
theorem dX12_cut_305 : decode cX12_cut 305 = .ok (.lconst 0, 1) := by decide +kernel
theorem dX12_cut_306 : decode cX12_cut 306 = .ok (.invokevirtual 283, 3) := by decide +kernel
theorem dX12_cut_309 : decode cX12_cut 309 = .ok (.iload_n 1, 1) := by decide +kernel
theorem dX12_cut_310 : decode cX12_cut 310 = .ok (.iload_n 3, 1) := by decide +kernel
theorem dX12_cut_311 : decode cX12_cut 311 = .ok (.iadd, 1) := by decide +kernel
theorem dX12_cut_312 : decode cX12_cut 312 = .ok (.istore_n 1, 1) := by decide +kernel
theorem dX12_cut_313 : decode cX12_cut 313 = .ok (.goto 19, 3) := by decide +kernel
theorem dX12_cut_316 : decode cX12_cut 316 = .ok (.iload_n 1, 1) := by decide +kernel
theorem dX12_cut_317 : decode cX12_cut 317 = .ok (.aload_n 0, 1) := by decide +kernel
theorem dX12_cut_318 : decode cX12_cut 318 = .ok (.iload_n 1, 1) := by decide +kernel
theorem dX12_cut_319 : decode cX12_cut 319 = .ok (.iload_n 2, 1) := by decide +kernel
theorem dX12_cut_320 : decode cX12_cut 320 = .ok (.aload_n 0, 1) := by decide +kernel
theorem dX12_cut_321 : decode cX12_cut 321 = .ok (.iload_n 1, 1) := by decide +kernel
theorem dX12_cut_322 : decode cX12_cut 322 = .ok (.iconst 1, 1) := by decide +kernel
theorem dX12_cut_323 : decode cX12_cut 323 = .ok (.iadd, 1) := by decide +kernel
theorem dX12_cut_324 : decode cX12_cut 324 = .ok (.invokevirtual 279, 3) := by decide +kernel
theorem dX12_cut_327 : decode cX12_cut 327 = .ok (.invokevirtual 290, 3) := by decide +kernel
theorem dX12_cut_330 : decode cX12_cut 330 = .ok (.iadd, 1) := by decide +kernel
theorem dX12_cut_331 : decode cX12_cut 331 = .ok (.istore_n 1, 1) := by decide +kernel
theorem dX12_cut_332 : decode cX12_cut 332 = .ok (.goto (-325), 3) := by decide +kernel
theorem dX12_cut_335 : decode cX12_cut 335 = .ok (.return_, 1) := by decide +kernel
def fX12_cut_67 (k7 : MS → Int32 → Option (MS)) (h : MS) (x1 : Int32) : Option (MS) :=
  oL (x1 + 1) (fun y1 => k7 h y1)
set_option maxHeartbeats 4000000 in
theorem wfX12_cut_67 {args : Array Value} (b : Bd p s m c cX12_cut 8 RX12 D aC) (hlk : meth.locks = false) (hr : meth.sig.returnType = none) {Z : State → Prop} (zs : Z s) (zk : ZOK Z (Rg ad)) {hz : MS} {k7 : MS → Int32 → Option (MS)} (H7 : ∀ (h : MS) (x1 : Int32), ∀ (H : Heap) (locs : List Loc) (ls : Array Slot), k7 h x1 = some hz → CE (EM D aC ad h) (Rg ad) s H locs → lv_has ls 8 [(0, .ref (ad 116)), (1, .int x1)] → W p l e (RM 2 50 0 0) s m args below meth c H locs 0 0 (MQ below (PQ (EM D aC ad hz) (Rg ad) none) args s 0 0 (Rg ad)) (F0 m 7 ls [])) {h : MS} {x1 : Int32}  {H : Heap} {locs : List Loc} {ls : Array Slot} (hf : fX12_cut_67 k7 h x1 = some hz) (hE : CE (EM D aC ad h) (Rg ad) s H locs) (hl : lv_has ls 8 [(0, .ref (ad 116)), (1, .int x1)]) : W p l e (RM 2 50 0 0) s m args below meth c H locs 0 0 (MQ below (PQ (EM D aC ad hz) (Rg ad) none) args s 0 0 (Rg ad)) (F0 m 67 ls []) := by
  unfold fX12_cut_67 at hf
  obtain ⟨y1, ey1, hf⟩ := oL_s hf
  refine lv_iinc (v := y1) (lv' := [(1, .int y1), (0, .ref (ad 116))]) b.1 b.2.1 dX12_cut_67 hl (k := 1) rfl (by rw [ey1]; rfl) (by decide) rfl (fun ls hl => ?_)
  refine lv_goto (tgt := 332) b.1 b.2.1 dX12_cut_70 (by decide) ?_
  refine lv_goto (tgt := 7) b.1 b.2.1 dX12_cut_332 (by decide) ?_
  exact H7 h y1 _ _ _ hf hE (lv_sub hl [1, 0] rfl)
def fX12_cut_302 (k7 : MS → Int32 → Option (MS)) (h : MS) (x1 : Int32) (x3 : Int32) (x4 : Int32) (s0 : Int32) : Option (MS) :=
  oB (fX12_token h s0 x1 x4 0) (fun h3 => oL (x1 + x3) (fun y4 => k7 h3 y4))
set_option maxHeartbeats 4000000 in
theorem wfX12_cut_302 {args : Array Value} (b : Bd p s m c cX12_cut 8 RX12 D aC) (hlk : meth.locks = false) (hr : meth.sig.returnType = none) {Z : State → Prop} (zs : Z s) (zk : ZOK Z (Rg ad)) {hz : MS} {k7 : MS → Int32 → Option (MS)} (H7 : ∀ (h : MS) (x1 : Int32), ∀ (H : Heap) (locs : List Loc) (ls : Array Slot), k7 h x1 = some hz → CE (EM D aC ad h) (Rg ad) s H locs → lv_has ls 8 [(0, .ref (ad 116)), (1, .int x1)] → W p l e (RM 2 50 0 0) s m args below meth c H locs 0 0 (MQ below (PQ (EM D aC ad hz) (Rg ad) none) args s 0 0 (Rg ad)) (F0 m 7 ls [])) {h : MS} {x1 : Int32} {x3 : Int32} {x4 : Int32} {s0 : Int32}  {H : Heap} {locs : List Loc} {ls : Array Slot} (hf : fX12_cut_302 k7 h x1 x3 x4 s0 = some hz) (hE : CE (EM D aC ad h) (Rg ad) s H locs) (hl : lv_has ls 8 [(0, .ref (ad 116)), (1, .int x1), (3, .int x3), (4, .int x4)]) : W p l e (RM 2 50 0 0) s m args below meth c H locs 0 0 (MQ below (PQ (EM D aC ad hz) (Rg ad) none) args s 0 0 (Rg ad)) (F0 m 302 ls [.int s0, .ref (ad 116)]) := by
  unfold fX12_cut_302 at hf
  refine lv_iload_n b.1 b.2.1 dX12_cut_302 rfl (lv_at hl 1 rfl) ?_
  refine lv_iload b.1 b.2.1 dX12_cut_303 (lv_at hl 3 rfl) ?_
  refine lv_lconst (v := 0) b.1 b.2.1 dX12_cut_305 rfl ?_
  obtain ⟨h3, hc2, hf⟩ := oB_s hf
  refine k_callV0 (C := RX12) b zs zk hE (CX12_token l D aC ad zk hc2) mc_X12_token (in7 98 rfl rfl) mi_X12_token ms_X12_token ini_RX12 ok_X12_token (m_recv b hE) ⟨Nat.le_of_ble_eq_true rfl, Nat.le_of_ble_eq_true rfl⟩ rfl hl.1 rfl (k_room _ (by exact Nat.le_of_ble_eq_true rfl)) ⟨Nat.le_refl _, Nat.le_refl _⟩ dX12_cut_306 (fun H locs hE => ?_)
  refine lv_iload_n b.1 b.2.1 dX12_cut_309 rfl (lv_at hl 1 rfl) ?_
  refine lv_iload_n b.1 b.2.1 dX12_cut_310 rfl (lv_at hl 2 rfl) ?_
  refine lv_iadd b.1 b.2.1 dX12_cut_311 ?_
  obtain ⟨y4, ey4, hf⟩ := oL_s hf
  refine k_nmI ey4 ?_
  refine lv_istore_n (lv' := [(1, .int y4), (0, .ref (ad 116)), (3, .int x3), (4, .int x4)]) b.1 b.2.1 dX12_cut_312 rfl hl (by decide) rfl (fun ls hl => ?_)
  have hl := lv_sub (l' := [(1, .int y4), (0, .ref (ad 116))]) hl [0, 1] rfl
  refine lv_goto (tgt := 332) b.1 b.2.1 dX12_cut_313 (by decide) ?_
  refine lv_goto (tgt := 7) b.1 b.2.1 dX12_cut_332 (by decide) ?_
  exact H7 h3 y4 _ _ _ hf hE (lv_sub hl [1, 0] rfl)
def fX12_cut_284 (k7 : MS → Int32 → Option (MS)) (k247 : MS → Int32 → Int32 → Int32 → Option (MS)) (h : MS) (x1 : Int32) (x3 : Int32) (x4 : Int32) : Option (MS) :=
  oL (x3 + 1) (fun y5 => k247 h x1 y5 x4)
set_option maxHeartbeats 4000000 in
theorem wfX12_cut_284 {args : Array Value} (b : Bd p s m c cX12_cut 8 RX12 D aC) (hlk : meth.locks = false) (hr : meth.sig.returnType = none) {Z : State → Prop} (zs : Z s) (zk : ZOK Z (Rg ad)) {hz : MS} {k7 : MS → Int32 → Option (MS)} (H7 : ∀ (h : MS) (x1 : Int32), ∀ (H : Heap) (locs : List Loc) (ls : Array Slot), k7 h x1 = some hz → CE (EM D aC ad h) (Rg ad) s H locs → lv_has ls 8 [(0, .ref (ad 116)), (1, .int x1)] → W p l e (RM 2 50 0 0) s m args below meth c H locs 0 0 (MQ below (PQ (EM D aC ad hz) (Rg ad) none) args s 0 0 (Rg ad)) (F0 m 7 ls [])) {k247 : MS → Int32 → Int32 → Int32 → Option (MS)} (H247 : ∀ (h : MS) (x1 : Int32) (x3 : Int32) (x4 : Int32), ∀ (H : Heap) (locs : List Loc) (ls : Array Slot), k247 h x1 x3 x4 = some hz → CE (EM D aC ad h) (Rg ad) s H locs → lv_has ls 8 [(0, .ref (ad 116)), (1, .int x1), (3, .int x3), (4, .int x4)] → W p l e (RM 2 50 0 0) s m args below meth c H locs 0 0 (MQ below (PQ (EM D aC ad hz) (Rg ad) none) args s 0 0 (Rg ad)) (F0 m 247 ls [])) {h : MS} {x1 : Int32} {x3 : Int32} {x4 : Int32}  {H : Heap} {locs : List Loc} {ls : Array Slot} (hf : fX12_cut_284 k7 k247 h x1 x3 x4 = some hz) (hE : CE (EM D aC ad h) (Rg ad) s H locs) (hl : lv_has ls 8 [(0, .ref (ad 116)), (1, .int x1), (3, .int x3), (4, .int x4)]) : W p l e (RM 2 50 0 0) s m args below meth c H locs 0 0 (MQ below (PQ (EM D aC ad hz) (Rg ad) none) args s 0 0 (Rg ad)) (F0 m 284 ls []) := by
  unfold fX12_cut_284 at hf
  obtain ⟨y5, ey5, hf⟩ := oL_s hf
  refine lv_iinc (v := y5) (lv' := [(3, .int y5), (0, .ref (ad 116)), (1, .int x1), (4, .int x4)]) b.1 b.2.1 dX12_cut_284 hl (k := 2) rfl (by rw [ey5]; rfl) (by decide) rfl (fun ls hl => ?_)
  refine lv_goto (tgt := 247) b.1 b.2.1 dX12_cut_287 (by decide) ?_
  exact H247 h x1 y5 x4 _ _ _ hf hE (lv_sub hl [1, 2, 0, 3] rfl)
def fX12_cut_247F (k7 : MS → Int32 → Option (MS)) (k247 : MS → Int32 → Int32 → Int32 → Option (MS)) (h : MS) (x1 : Int32) (x3 : Int32) (x4 : Int32) : Option (MS) :=
  oB (fX12_at h (x1 + x3)) (fun r7 => oB (fX12_isDigit r7) (fun r9 => if r9 = 0 then (if x3 ≤ 6 then (fX12_cut_302 k7 h x1 x3 x4 3) else (fX12_cut_302 k7 h x1 x3 x4 4)) else (if 6 ≤ x3 then (fX12_cut_284 k7 k247 h x1 x3 x4) else (oB (fX12_at h (x1 + x3)) (fun r14 => oL (((10 * x4) + r14) - 48) (fun y15 => fX12_cut_284 k7 k247 h x1 x3 y15))))))
set_option maxHeartbeats 4000000 in
theorem wfX12_cut_247F {args : Array Value} (b : Bd p s m c cX12_cut 8 RX12 D aC) (hlk : meth.locks = false) (hr : meth.sig.returnType = none) {Z : State → Prop} (zs : Z s) (zk : ZOK Z (Rg ad)) {hz : MS} {k7 : MS → Int32 → Option (MS)} (H7 : ∀ (h : MS) (x1 : Int32), ∀ (H : Heap) (locs : List Loc) (ls : Array Slot), k7 h x1 = some hz → CE (EM D aC ad h) (Rg ad) s H locs → lv_has ls 8 [(0, .ref (ad 116)), (1, .int x1)] → W p l e (RM 2 50 0 0) s m args below meth c H locs 0 0 (MQ below (PQ (EM D aC ad hz) (Rg ad) none) args s 0 0 (Rg ad)) (F0 m 7 ls [])) {k247 : MS → Int32 → Int32 → Int32 → Option (MS)} (H247 : ∀ (h : MS) (x1 : Int32) (x3 : Int32) (x4 : Int32), ∀ (H : Heap) (locs : List Loc) (ls : Array Slot), k247 h x1 x3 x4 = some hz → CE (EM D aC ad h) (Rg ad) s H locs → lv_has ls 8 [(0, .ref (ad 116)), (1, .int x1), (3, .int x3), (4, .int x4)] → W p l e (RM 2 50 0 0) s m args below meth c H locs 0 0 (MQ below (PQ (EM D aC ad hz) (Rg ad) none) args s 0 0 (Rg ad)) (F0 m 247 ls [])) {h : MS} {x1 : Int32} {x3 : Int32} {x4 : Int32}  {H : Heap} {locs : List Loc} {ls : Array Slot} (hf : fX12_cut_247F k7 k247 h x1 x3 x4 = some hz) (hE : CE (EM D aC ad h) (Rg ad) s H locs) (hl : lv_has ls 8 [(0, .ref (ad 116)), (1, .int x1), (3, .int x3), (4, .int x4)]) : W p l e (RM 2 50 0 0) s m args below meth c H locs 0 0 (MQ below (PQ (EM D aC ad hz) (Rg ad) none) args s 0 0 (Rg ad)) (F0 m 247 ls []) := by
  unfold fX12_cut_247F at hf
  refine lv_aload_n b.1 b.2.1 dX12_cut_247 rfl (lv_at hl 0 rfl) ?_
  refine lv_iload_n b.1 b.2.1 dX12_cut_248 rfl (lv_at hl 1 rfl) ?_
  refine lv_iload_n b.1 b.2.1 dX12_cut_249 rfl (lv_at hl 2 rfl) ?_
  refine lv_iadd b.1 b.2.1 dX12_cut_250 ?_
  obtain ⟨r7, hc6, hf⟩ := oB_s hf
  refine k_callV0 (C := RX12) b zs zk hE (CX12_at l D aC ad zk hc6) mc_X12_at (in7 94 rfl rfl) mi_X12_at ms_X12_at ini_RX12 ok_X12_at (m_recv b hE) ⟨Nat.le_of_ble_eq_true rfl, Nat.le_of_ble_eq_true rfl⟩ rfl hl.1 rfl (k_room _ (by exact Nat.le_of_ble_eq_true rfl)) ⟨Nat.le_refl _, Nat.le_refl _⟩ dX12_cut_251 (fun H locs hE => ?_)
  obtain ⟨r9, hc8, hf⟩ := oB_s hf
  refine k_callS0 b zs zk hE (CX12_isDigit l D aC zk hc8) mc_X12_isDigit (in5 202 rfl rfl) mt_X12_isDigit ini_RX12 ok_X12_isDigit ⟨Nat.le_of_ble_eq_true rfl, Nat.le_of_ble_eq_true rfl⟩ rfl hl.1 rfl (k_room _ (by exact Nat.le_of_ble_eq_true rfl)) ⟨Nat.le_refl _, Nat.le_refl _⟩ dX12_cut_254 (fun H locs hE => ?_)
  refine lv_if_eq (tgt := 290) b.1 b.2.1 dX12_cut_257 (by decide) (fun c10 => ?_) (fun c10 => ?_)
  · have hf := oI_t c10 hf
    refine lv_aload_n b.1 b.2.1 dX12_cut_290 rfl (lv_at hl 0 rfl) ?_
    refine lv_iload_n b.1 b.2.1 dX12_cut_291 rfl (lv_at hl 2 rfl) ?_
    refine lv_bipush (v := 6) b.1 b.2.1 dX12_cut_292 (by decide) ?_
    refine lv_icmp_le (tgt := 301) b.1 b.2.1 dX12_cut_294 (by decide) (fun c11 => ?_) (fun c11 => ?_)
    · have hf := oI_t c11 hf
      refine lv_iconst (v := 3) b.1 b.2.1 dX12_cut_301 (by decide) ?_
      exact wfX12_cut_302 b hlk hr zs zk H7 hf hE (lv_sub hl [0, 1, 2, 3] rfl)
    · have hf := oI_f c11 hf
      refine lv_iconst (v := 4) b.1 b.2.1 dX12_cut_297 (by decide) ?_
      refine lv_goto (tgt := 302) b.1 b.2.1 dX12_cut_298 (by decide) ?_
      exact wfX12_cut_302 b hlk hr zs zk H7 hf hE (lv_sub hl [0, 1, 2, 3] rfl)
  · have hf := oI_f c10 hf
    refine lv_iload_n b.1 b.2.1 dX12_cut_260 rfl (lv_at hl 2 rfl) ?_
    refine lv_bipush (v := 6) b.1 b.2.1 dX12_cut_261 (by decide) ?_
    refine lv_icmp_ge (tgt := 284) b.1 b.2.1 dX12_cut_263 (by decide) (fun c12 => ?_) (fun c12 => ?_)
    · have hf := oI_t c12 hf
      exact wfX12_cut_284 b hlk hr zs zk H7 H247 hf hE (lv_sub hl [0, 1, 2, 3] rfl)
    · have hf := oI_f c12 hf
      refine lv_bipush (v := 10) b.1 b.2.1 dX12_cut_266 (by decide) ?_
      refine lv_iload b.1 b.2.1 dX12_cut_268 (lv_at hl 3 rfl) ?_
      refine lv_imul b.1 b.2.1 dX12_cut_270 ?_
      refine lv_aload_n b.1 b.2.1 dX12_cut_271 rfl (lv_at hl 0 rfl) ?_
      refine lv_iload_n b.1 b.2.1 dX12_cut_272 rfl (lv_at hl 1 rfl) ?_
      refine lv_iload_n b.1 b.2.1 dX12_cut_273 rfl (lv_at hl 2 rfl) ?_
      refine lv_iadd b.1 b.2.1 dX12_cut_274 ?_
      obtain ⟨r14, hc13, hf⟩ := oB_s hf
      refine k_callV0 (C := RX12) b zs zk hE (CX12_at l D aC ad zk hc13) mc_X12_at (in7 94 rfl rfl) mi_X12_at ms_X12_at ini_RX12 ok_X12_at (m_recv b hE) ⟨Nat.le_of_ble_eq_true rfl, Nat.le_of_ble_eq_true rfl⟩ rfl hl.1 rfl (k_room _ (by exact Nat.le_of_ble_eq_true rfl)) ⟨Nat.le_refl _, Nat.le_refl _⟩ dX12_cut_275 (fun H locs hE => ?_)
      refine lv_iadd b.1 b.2.1 dX12_cut_278 ?_
      refine lv_bipush (v := 48) b.1 b.2.1 dX12_cut_279 (by decide) ?_
      refine lv_isub b.1 b.2.1 dX12_cut_281 ?_
      obtain ⟨y15, ey15, hf⟩ := oL_s hf
      refine k_nmI ey15 ?_
      refine lv_istore (lv' := [(4, .int y15), (0, .ref (ad 116)), (1, .int x1), (3, .int x3)]) b.1 b.2.1 dX12_cut_282 hl (by decide) rfl (fun ls hl => ?_)
      exact wfX12_cut_284 b hlk hr zs zk H7 H247 hf hE (lv_sub hl [1, 2, 3, 0] rfl)
def fX12_cut_247 (k7 : MS → Int32 → Option (MS)) : Nat → MS → Int32 → Int32 → Int32 → Option (MS)
  | 0 => fun _ _ _ _ => none
  | n + 1 => fX12_cut_247F k7 (fX12_cut_247 k7 n)
set_option maxHeartbeats 4000000 in
theorem wfX12_cut_247 {args : Array Value} (b : Bd p s m c cX12_cut 8 RX12 D aC) (hlk : meth.locks = false) (hr : meth.sig.returnType = none) {Z : State → Prop} (zs : Z s) (zk : ZOK Z (Rg ad)) {hz : MS} {k7 : MS → Int32 → Option (MS)} (H7 : ∀ (h : MS) (x1 : Int32), ∀ (H : Heap) (locs : List Loc) (ls : Array Slot), k7 h x1 = some hz → CE (EM D aC ad h) (Rg ad) s H locs → lv_has ls 8 [(0, .ref (ad 116)), (1, .int x1)] → W p l e (RM 2 50 0 0) s m args below meth c H locs 0 0 (MQ below (PQ (EM D aC ad hz) (Rg ad) none) args s 0 0 (Rg ad)) (F0 m 7 ls [])) : ∀ n : Nat, ∀ (h : MS) (x1 : Int32) (x3 : Int32) (x4 : Int32), ∀ (H : Heap) (locs : List Loc) (ls : Array Slot), fX12_cut_247 k7 n h x1 x3 x4 = some hz → CE (EM D aC ad h) (Rg ad) s H locs → lv_has ls 8 [(0, .ref (ad 116)), (1, .int x1), (3, .int x3), (4, .int x4)] → W p l e (RM 2 50 0 0) s m args below meth c H locs 0 0 (MQ below (PQ (EM D aC ad hz) (Rg ad) none) args s 0 0 (Rg ad)) (F0 m 247 ls []) := by
  intro n
  induction n with
  | zero =>
    intro h x1 x3 x4 H locs ls hf
    have hf : (none : Option (MS)) = some _ := hf
    cases hf
  | succ n ih =>
    intro h x1 x3 x4 H locs ls hf hE hl
    exact wfX12_cut_247F b hlk hr zs zk H7 ih hf hE hl
def fX12_cut_235 (k7 : MS → Int32 → Option (MS)) (h : MS) (x1 : Int32) (x2 : Int32) : Option (MS) :=
  oB (fX12_isDigit x2) (fun r17 => if r17 = 0 then (oB (fX12_at h (x1 + 1)) (fun r20 => oB2 (fX12_sign h x1 x2 r20) (fun h23 r22 => oL (x1 + r22) (fun y24 => k7 h23 y24)))) else (fX12_cut_247 k7 FU h x1 0 0))
set_option maxHeartbeats 4000000 in
theorem wfX12_cut_235 {args : Array Value} (b : Bd p s m c cX12_cut 8 RX12 D aC) (hlk : meth.locks = false) (hr : meth.sig.returnType = none) {Z : State → Prop} (zs : Z s) (zk : ZOK Z (Rg ad)) {hz : MS} {k7 : MS → Int32 → Option (MS)} (H7 : ∀ (h : MS) (x1 : Int32), ∀ (H : Heap) (locs : List Loc) (ls : Array Slot), k7 h x1 = some hz → CE (EM D aC ad h) (Rg ad) s H locs → lv_has ls 8 [(0, .ref (ad 116)), (1, .int x1)] → W p l e (RM 2 50 0 0) s m args below meth c H locs 0 0 (MQ below (PQ (EM D aC ad hz) (Rg ad) none) args s 0 0 (Rg ad)) (F0 m 7 ls [])) {h : MS} {x1 : Int32} {x2 : Int32}  {H : Heap} {locs : List Loc} {ls : Array Slot} (hf : fX12_cut_235 k7 h x1 x2 = some hz) (hE : CE (EM D aC ad h) (Rg ad) s H locs) (hl : lv_has ls 8 [(0, .ref (ad 116)), (1, .int x1), (2, .int x2)]) : W p l e (RM 2 50 0 0) s m args below meth c H locs 0 0 (MQ below (PQ (EM D aC ad hz) (Rg ad) none) args s 0 0 (Rg ad)) (F0 m 235 ls []) := by
  unfold fX12_cut_235 at hf
  refine lv_iload_n b.1 b.2.1 dX12_cut_235 rfl (lv_at hl 2 rfl) ?_
  obtain ⟨r17, hc16, hf⟩ := oB_s hf
  refine k_callS0 b zs zk hE (CX12_isDigit l D aC zk hc16) mc_X12_isDigit (in5 202 rfl rfl) mt_X12_isDigit ini_RX12 ok_X12_isDigit ⟨Nat.le_of_ble_eq_true rfl, Nat.le_of_ble_eq_true rfl⟩ rfl hl.1 rfl (k_room _ (by exact Nat.le_of_ble_eq_true rfl)) ⟨Nat.le_refl _, Nat.le_refl _⟩ dX12_cut_236 (fun H locs hE => ?_)
  refine lv_if_eq (tgt := 316) b.1 b.2.1 dX12_cut_239 (by decide) (fun c18 => ?_) (fun c18 => ?_)
  · have hf := oI_t c18 hf
    refine lv_iload_n b.1 b.2.1 dX12_cut_316 rfl (lv_at hl 1 rfl) ?_
    refine lv_aload_n b.1 b.2.1 dX12_cut_317 rfl (lv_at hl 0 rfl) ?_
    refine lv_iload_n b.1 b.2.1 dX12_cut_318 rfl (lv_at hl 1 rfl) ?_
    refine lv_iload_n b.1 b.2.1 dX12_cut_319 rfl (lv_at hl 2 rfl) ?_
    refine lv_aload_n b.1 b.2.1 dX12_cut_320 rfl (lv_at hl 0 rfl) ?_
    refine lv_iload_n b.1 b.2.1 dX12_cut_321 rfl (lv_at hl 1 rfl) ?_
    refine lv_iconst (v := 1) b.1 b.2.1 dX12_cut_322 (by decide) ?_
    refine lv_iadd b.1 b.2.1 dX12_cut_323 ?_
    obtain ⟨r20, hc19, hf⟩ := oB_s hf
    refine k_callV0 (C := RX12) b zs zk hE (CX12_at l D aC ad zk hc19) mc_X12_at (in7 94 rfl rfl) mi_X12_at ms_X12_at ini_RX12 ok_X12_at (m_recv b hE) ⟨Nat.le_of_ble_eq_true rfl, Nat.le_of_ble_eq_true rfl⟩ rfl hl.1 rfl (k_room _ (by exact Nat.le_of_ble_eq_true rfl)) ⟨Nat.le_refl _, Nat.le_refl _⟩ dX12_cut_324 (fun H locs hE => ?_)
    obtain ⟨h23, r22, hc21, hf⟩ := oB2_s hf
    refine k_callV0 (C := RX12) b zs zk hE (CX12_sign l D aC ad zk hc21) mc_X12_sign (in7 105 rfl rfl) mi_X12_sign ms_X12_sign ini_RX12 ok_X12_sign (m_recv b hE) ⟨Nat.le_of_ble_eq_true rfl, Nat.le_of_ble_eq_true rfl⟩ rfl hl.1 rfl (k_room _ (by exact Nat.le_of_ble_eq_true rfl)) ⟨Nat.le_refl _, Nat.le_refl _⟩ dX12_cut_327 (fun H locs hE => ?_)
    refine lv_iadd b.1 b.2.1 dX12_cut_330 ?_
    obtain ⟨y24, ey24, hf⟩ := oL_s hf
    refine k_nmI ey24 ?_
    refine lv_istore_n (lv' := [(1, .int y24), (0, .ref (ad 116)), (2, .int x2)]) b.1 b.2.1 dX12_cut_331 rfl hl (by decide) rfl (fun ls hl => ?_)
    have hl := lv_sub (l' := [(1, .int y24), (0, .ref (ad 116))]) hl [0, 1] rfl
    refine lv_goto (tgt := 7) b.1 b.2.1 dX12_cut_332 (by decide) ?_
    exact H7 h23 y24 _ _ _ hf hE (lv_sub hl [1, 0] rfl)
  · have hf := oI_f c18 hf
    refine lv_iconst (v := 0) b.1 b.2.1 dX12_cut_242 (by decide) ?_
    refine lv_istore_n (lv' := [(3, .int 0), (0, .ref (ad 116)), (1, .int x1), (2, .int x2)]) b.1 b.2.1 dX12_cut_243 rfl hl (by decide) rfl (fun ls hl => ?_)
    have hl := lv_sub (l' := [(3, .int 0), (0, .ref (ad 116)), (1, .int x1)]) hl [0, 1, 2] rfl
    refine lv_iconst (v := 0) b.1 b.2.1 dX12_cut_244 (by decide) ?_
    refine lv_istore (lv' := [(4, .int 0), (3, .int 0), (0, .ref (ad 116)), (1, .int x1)]) b.1 b.2.1 dX12_cut_245 hl (by decide) rfl (fun ls hl => ?_)
    exact wfX12_cut_247 b hlk hr zs zk H7 FU h x1 0 0 _ _ _ hf hE (lv_sub hl [2, 3, 1, 0] rfl)
def fX12_cut_131 (k7 : MS → Int32 → Option (MS)) (k85 : MS → Int32 → Int32 → Int64 → Option (MS)) (h : MS) (x1 : Int32) (x3 : Int32) (x4 : Int64) : Option (MS) :=
  oL (x3 + 1) (fun y25 => k85 h x1 y25 x4)
set_option maxHeartbeats 4000000 in
theorem wfX12_cut_131 {args : Array Value} (b : Bd p s m c cX12_cut 8 RX12 D aC) (hlk : meth.locks = false) (hr : meth.sig.returnType = none) {Z : State → Prop} (zs : Z s) (zk : ZOK Z (Rg ad)) {hz : MS} {k7 : MS → Int32 → Option (MS)} (H7 : ∀ (h : MS) (x1 : Int32), ∀ (H : Heap) (locs : List Loc) (ls : Array Slot), k7 h x1 = some hz → CE (EM D aC ad h) (Rg ad) s H locs → lv_has ls 8 [(0, .ref (ad 116)), (1, .int x1)] → W p l e (RM 2 50 0 0) s m args below meth c H locs 0 0 (MQ below (PQ (EM D aC ad hz) (Rg ad) none) args s 0 0 (Rg ad)) (F0 m 7 ls [])) {k85 : MS → Int32 → Int32 → Int64 → Option (MS)} (H85 : ∀ (h : MS) (x1 : Int32) (x3 : Int32) (x4 : Int64), ∀ (H : Heap) (locs : List Loc) (ls : Array Slot), k85 h x1 x3 x4 = some hz → CE (EM D aC ad h) (Rg ad) s H locs → lv_has ls 8 [(0, .ref (ad 116)), (1, .int x1), (3, .int x3), (4, .long x4)] → W p l e (RM 2 50 0 0) s m args below meth c H locs 0 0 (MQ below (PQ (EM D aC ad hz) (Rg ad) none) args s 0 0 (Rg ad)) (F0 m 85 ls [])) {h : MS} {x1 : Int32} {x3 : Int32} {x4 : Int64}  {H : Heap} {locs : List Loc} {ls : Array Slot} (hf : fX12_cut_131 k7 k85 h x1 x3 x4 = some hz) (hE : CE (EM D aC ad h) (Rg ad) s H locs) (hl : lv_has ls 8 [(0, .ref (ad 116)), (1, .int x1), (3, .int x3), (4, .long x4)]) : W p l e (RM 2 50 0 0) s m args below meth c H locs 0 0 (MQ below (PQ (EM D aC ad hz) (Rg ad) none) args s 0 0 (Rg ad)) (F0 m 131 ls []) := by
  unfold fX12_cut_131 at hf
  obtain ⟨y25, ey25, hf⟩ := oL_s hf
  refine lv_iinc (v := y25) (lv' := [(3, .int y25), (0, .ref (ad 116)), (1, .int x1), (4, .long x4)]) b.1 b.2.1 dX12_cut_131 hl (k := 2) rfl (by rw [ey25]; rfl) (by decide) rfl (fun ls hl => ?_)
  refine lv_goto (tgt := 85) b.1 b.2.1 dX12_cut_134 (by decide) ?_
  exact H85 h x1 y25 x4 _ _ _ hf hE (lv_sub hl [1, 2, 0, 3] rfl)
def fX12_cut_111 (k7 : MS → Int32 → Option (MS)) (k85 : MS → Int32 → Int32 → Int64 → Option (MS)) (h : MS) (x1 : Int32) (x3 : Int32) (x4 : Int64) : Option (MS) :=
  if 10 ≤ x3 then (fX12_cut_131 k7 k85 h x1 x3 x4) else (oB (fX12_at h (x1 + x3)) (fun r28 => oB (fX12_more x4 r28) (fun r30 => fX12_cut_131 k7 k85 h x1 x3 r30)))
set_option maxHeartbeats 4000000 in
theorem wfX12_cut_111 {args : Array Value} (b : Bd p s m c cX12_cut 8 RX12 D aC) (hlk : meth.locks = false) (hr : meth.sig.returnType = none) {Z : State → Prop} (zs : Z s) (zk : ZOK Z (Rg ad)) {hz : MS} {k7 : MS → Int32 → Option (MS)} (H7 : ∀ (h : MS) (x1 : Int32), ∀ (H : Heap) (locs : List Loc) (ls : Array Slot), k7 h x1 = some hz → CE (EM D aC ad h) (Rg ad) s H locs → lv_has ls 8 [(0, .ref (ad 116)), (1, .int x1)] → W p l e (RM 2 50 0 0) s m args below meth c H locs 0 0 (MQ below (PQ (EM D aC ad hz) (Rg ad) none) args s 0 0 (Rg ad)) (F0 m 7 ls [])) {k85 : MS → Int32 → Int32 → Int64 → Option (MS)} (H85 : ∀ (h : MS) (x1 : Int32) (x3 : Int32) (x4 : Int64), ∀ (H : Heap) (locs : List Loc) (ls : Array Slot), k85 h x1 x3 x4 = some hz → CE (EM D aC ad h) (Rg ad) s H locs → lv_has ls 8 [(0, .ref (ad 116)), (1, .int x1), (3, .int x3), (4, .long x4)] → W p l e (RM 2 50 0 0) s m args below meth c H locs 0 0 (MQ below (PQ (EM D aC ad hz) (Rg ad) none) args s 0 0 (Rg ad)) (F0 m 85 ls [])) {h : MS} {x1 : Int32} {x3 : Int32} {x4 : Int64}  {H : Heap} {locs : List Loc} {ls : Array Slot} (hf : fX12_cut_111 k7 k85 h x1 x3 x4 = some hz) (hE : CE (EM D aC ad h) (Rg ad) s H locs) (hl : lv_has ls 8 [(0, .ref (ad 116)), (1, .int x1), (3, .int x3), (4, .long x4)]) : W p l e (RM 2 50 0 0) s m args below meth c H locs 0 0 (MQ below (PQ (EM D aC ad hz) (Rg ad) none) args s 0 0 (Rg ad)) (F0 m 111 ls []) := by
  unfold fX12_cut_111 at hf
  refine lv_iload_n b.1 b.2.1 dX12_cut_111 rfl (lv_at hl 2 rfl) ?_
  refine lv_bipush (v := 10) b.1 b.2.1 dX12_cut_112 (by decide) ?_
  refine lv_icmp_ge (tgt := 131) b.1 b.2.1 dX12_cut_114 (by decide) (fun c26 => ?_) (fun c26 => ?_)
  · have hf := oI_t c26 hf
    exact wfX12_cut_131 b hlk hr zs zk H7 H85 hf hE (lv_sub hl [0, 1, 2, 3] rfl)
  · have hf := oI_f c26 hf
    refine lv_lload b.1 b.2.1 dX12_cut_117 (lv_at hl 3 rfl) ?_
    refine lv_aload_n b.1 b.2.1 dX12_cut_119 rfl (lv_at hl 0 rfl) ?_
    refine lv_iload_n b.1 b.2.1 dX12_cut_120 rfl (lv_at hl 1 rfl) ?_
    refine lv_iload_n b.1 b.2.1 dX12_cut_121 rfl (lv_at hl 2 rfl) ?_
    refine lv_iadd b.1 b.2.1 dX12_cut_122 ?_
    obtain ⟨r28, hc27, hf⟩ := oB_s hf
    refine k_callV0 (C := RX12) b zs zk hE (CX12_at l D aC ad zk hc27) mc_X12_at (in7 94 rfl rfl) mi_X12_at ms_X12_at ini_RX12 ok_X12_at (m_recv b hE) ⟨Nat.le_of_ble_eq_true rfl, Nat.le_of_ble_eq_true rfl⟩ rfl hl.1 rfl (k_room _ (by exact Nat.le_of_ble_eq_true rfl)) ⟨Nat.le_refl _, Nat.le_refl _⟩ dX12_cut_123 (fun H locs hE => ?_)
    obtain ⟨r30, hc29, hf⟩ := oB_s hf
    refine k_callS0 b zs zk hE (CX12_more l D aC zk hc29) mc_X12_more (in5 198 rfl rfl) mt_X12_more ini_RX12 ok_X12_more ⟨Nat.le_of_ble_eq_true rfl, Nat.le_of_ble_eq_true rfl⟩ rfl hl.1 rfl (k_room _ (by exact Nat.le_of_ble_eq_true rfl)) ⟨Nat.le_refl _, Nat.le_refl _⟩ dX12_cut_126 (fun H locs hE => ?_)
    refine lv_lstore (lv' := [(4, .long r30), (0, .ref (ad 116)), (1, .int x1), (3, .int x3)]) b.1 b.2.1 dX12_cut_129 hl (by decide) rfl (fun ls hl => ?_)
    exact wfX12_cut_131 b hlk hr zs zk H7 H85 hf hE (lv_sub hl [1, 2, 3, 0] rfl)
def fX12_cut_192 (k7 : MS → Int32 → Option (MS)) (h : MS) (x1 : Int32) (x3 : Int32) (x4 : Int64) (x6 : Int32) : Option (MS) :=
  oB (fX12_token h x6 x1 0 x4) (fun h32 => oL (x1 + x3) (fun y33 => k7 h32 y33))
set_option maxHeartbeats 4000000 in
theorem wfX12_cut_192 {args : Array Value} (b : Bd p s m c cX12_cut 8 RX12 D aC) (hlk : meth.locks = false) (hr : meth.sig.returnType = none) {Z : State → Prop} (zs : Z s) (zk : ZOK Z (Rg ad)) {hz : MS} {k7 : MS → Int32 → Option (MS)} (H7 : ∀ (h : MS) (x1 : Int32), ∀ (H : Heap) (locs : List Loc) (ls : Array Slot), k7 h x1 = some hz → CE (EM D aC ad h) (Rg ad) s H locs → lv_has ls 8 [(0, .ref (ad 116)), (1, .int x1)] → W p l e (RM 2 50 0 0) s m args below meth c H locs 0 0 (MQ below (PQ (EM D aC ad hz) (Rg ad) none) args s 0 0 (Rg ad)) (F0 m 7 ls [])) {h : MS} {x1 : Int32} {x3 : Int32} {x4 : Int64} {x6 : Int32}  {H : Heap} {locs : List Loc} {ls : Array Slot} (hf : fX12_cut_192 k7 h x1 x3 x4 x6 = some hz) (hE : CE (EM D aC ad h) (Rg ad) s H locs) (hl : lv_has ls 8 [(0, .ref (ad 116)), (1, .int x1), (3, .int x3), (4, .long x4), (6, .int x6)]) : W p l e (RM 2 50 0 0) s m args below meth c H locs 0 0 (MQ below (PQ (EM D aC ad hz) (Rg ad) none) args s 0 0 (Rg ad)) (F0 m 192 ls []) := by
  unfold fX12_cut_192 at hf
  refine lv_aload_n b.1 b.2.1 dX12_cut_192 rfl (lv_at hl 0 rfl) ?_
  refine lv_iload b.1 b.2.1 dX12_cut_193 (lv_at hl 4 rfl) ?_
  refine lv_iload_n b.1 b.2.1 dX12_cut_195 rfl (lv_at hl 1 rfl) ?_
  refine lv_iconst (v := 0) b.1 b.2.1 dX12_cut_196 (by decide) ?_
  refine lv_lload b.1 b.2.1 dX12_cut_197 (lv_at hl 3 rfl) ?_
  obtain ⟨h32, hc31, hf⟩ := oB_s hf
  refine k_callV0 (C := RX12) b zs zk hE (CX12_token l D aC ad zk hc31) mc_X12_token (in7 98 rfl rfl) mi_X12_token ms_X12_token ini_RX12 ok_X12_token (m_recv b hE) ⟨Nat.le_of_ble_eq_true rfl, Nat.le_of_ble_eq_true rfl⟩ rfl hl.1 rfl (k_room _ (by exact Nat.le_of_ble_eq_true rfl)) ⟨Nat.le_refl _, Nat.le_refl _⟩ dX12_cut_199 (fun H locs hE => ?_)
  refine lv_iload_n b.1 b.2.1 dX12_cut_202 rfl (lv_at hl 1 rfl) ?_
  refine lv_iload_n b.1 b.2.1 dX12_cut_203 rfl (lv_at hl 2 rfl) ?_
  refine lv_iadd b.1 b.2.1 dX12_cut_204 ?_
  obtain ⟨y33, ey33, hf⟩ := oL_s hf
  refine k_nmI ey33 ?_
  refine lv_istore_n (lv' := [(1, .int y33), (0, .ref (ad 116)), (3, .int x3), (4, .long x4), (6, .int x6)]) b.1 b.2.1 dX12_cut_205 rfl hl (by decide) rfl (fun ls hl => ?_)
  have hl := lv_sub (l' := [(1, .int y33), (0, .ref (ad 116))]) hl [0, 1] rfl
  refine lv_goto (tgt := 332) b.1 b.2.1 dX12_cut_206 (by decide) ?_
  refine lv_goto (tgt := 7) b.1 b.2.1 dX12_cut_332 (by decide) ?_
  exact H7 h32 y33 _ _ _ hf hE (lv_sub hl [1, 0] rfl)
def fX12_cut_186 (k7 : MS → Int32 → Option (MS)) (k159 : MS → Int32 → Int32 → Int64 → Int32 → Int32 → Option (MS)) (h : MS) (x1 : Int32) (x3 : Int32) (x4 : Int64) (x6 : Int32) (x7 : Int32) : Option (MS) :=
  oL (x7 + 1) (fun y34 => k159 h x1 x3 x4 x6 y34)
set_option maxHeartbeats 4000000 in
theorem wfX12_cut_186 {args : Array Value} (b : Bd p s m c cX12_cut 8 RX12 D aC) (hlk : meth.locks = false) (hr : meth.sig.returnType = none) {Z : State → Prop} (zs : Z s) (zk : ZOK Z (Rg ad)) {hz : MS} {k7 : MS → Int32 → Option (MS)} (H7 : ∀ (h : MS) (x1 : Int32), ∀ (H : Heap) (locs : List Loc) (ls : Array Slot), k7 h x1 = some hz → CE (EM D aC ad h) (Rg ad) s H locs → lv_has ls 8 [(0, .ref (ad 116)), (1, .int x1)] → W p l e (RM 2 50 0 0) s m args below meth c H locs 0 0 (MQ below (PQ (EM D aC ad hz) (Rg ad) none) args s 0 0 (Rg ad)) (F0 m 7 ls [])) {k159 : MS → Int32 → Int32 → Int64 → Int32 → Int32 → Option (MS)} (H159 : ∀ (h : MS) (x1 : Int32) (x3 : Int32) (x4 : Int64) (x6 : Int32) (x7 : Int32), ∀ (H : Heap) (locs : List Loc) (ls : Array Slot), k159 h x1 x3 x4 x6 x7 = some hz → CE (EM D aC ad h) (Rg ad) s H locs → lv_has ls 8 [(0, .ref (ad 116)), (1, .int x1), (3, .int x3), (4, .long x4), (6, .int x6), (7, .int x7)] → W p l e (RM 2 50 0 0) s m args below meth c H locs 0 0 (MQ below (PQ (EM D aC ad hz) (Rg ad) none) args s 0 0 (Rg ad)) (F0 m 159 ls [])) {h : MS} {x1 : Int32} {x3 : Int32} {x4 : Int64} {x6 : Int32} {x7 : Int32}  {H : Heap} {locs : List Loc} {ls : Array Slot} (hf : fX12_cut_186 k7 k159 h x1 x3 x4 x6 x7 = some hz) (hE : CE (EM D aC ad h) (Rg ad) s H locs) (hl : lv_has ls 8 [(0, .ref (ad 116)), (1, .int x1), (3, .int x3), (4, .long x4), (6, .int x6), (7, .int x7)]) : W p l e (RM 2 50 0 0) s m args below meth c H locs 0 0 (MQ below (PQ (EM D aC ad hz) (Rg ad) none) args s 0 0 (Rg ad)) (F0 m 186 ls []) := by
  unfold fX12_cut_186 at hf
  obtain ⟨y34, ey34, hf⟩ := oL_s hf
  refine lv_iinc (v := y34) (lv' := [(7, .int y34), (0, .ref (ad 116)), (1, .int x1), (3, .int x3), (4, .long x4), (6, .int x6)]) b.1 b.2.1 dX12_cut_186 hl (k := 5) rfl (by rw [ey34]; rfl) (by decide) rfl (fun ls hl => ?_)
  refine lv_goto (tgt := 159) b.1 b.2.1 dX12_cut_189 (by decide) ?_
  exact H159 h x1 x3 x4 x6 y34 _ _ _ hf hE (lv_sub hl [1, 2, 3, 4, 5, 0] rfl)
def fX12_cut_159F (k7 : MS → Int32 → Option (MS)) (k159 : MS → Int32 → Int32 → Int64 → Int32 → Int32 → Option (MS)) (h : MS) (x1 : Int32) (x3 : Int32) (x4 : Int64) (x6 : Int32) (x7 : Int32) : Option (MS) :=
  if 18 ≤ x7 then (fX12_cut_192 k7 h x1 x3 x4 x6) else (oC (ix x7 (mlen 9)) (if (lg_cmp (mB h 9 (Int32.toNatClampNeg x7)) x4) = 0 then (oL (20 + x7) (fun y38 => fX12_cut_186 k7 k159 h x1 x3 x4 y38 x7)) else (fX12_cut_186 k7 k159 h x1 x3 x4 x6 x7)))
set_option maxHeartbeats 4000000 in
theorem wfX12_cut_159F {args : Array Value} (b : Bd p s m c cX12_cut 8 RX12 D aC) (hlk : meth.locks = false) (hr : meth.sig.returnType = none) {Z : State → Prop} (zs : Z s) (zk : ZOK Z (Rg ad)) {hz : MS} {k7 : MS → Int32 → Option (MS)} (H7 : ∀ (h : MS) (x1 : Int32), ∀ (H : Heap) (locs : List Loc) (ls : Array Slot), k7 h x1 = some hz → CE (EM D aC ad h) (Rg ad) s H locs → lv_has ls 8 [(0, .ref (ad 116)), (1, .int x1)] → W p l e (RM 2 50 0 0) s m args below meth c H locs 0 0 (MQ below (PQ (EM D aC ad hz) (Rg ad) none) args s 0 0 (Rg ad)) (F0 m 7 ls [])) {k159 : MS → Int32 → Int32 → Int64 → Int32 → Int32 → Option (MS)} (H159 : ∀ (h : MS) (x1 : Int32) (x3 : Int32) (x4 : Int64) (x6 : Int32) (x7 : Int32), ∀ (H : Heap) (locs : List Loc) (ls : Array Slot), k159 h x1 x3 x4 x6 x7 = some hz → CE (EM D aC ad h) (Rg ad) s H locs → lv_has ls 8 [(0, .ref (ad 116)), (1, .int x1), (3, .int x3), (4, .long x4), (6, .int x6), (7, .int x7)] → W p l e (RM 2 50 0 0) s m args below meth c H locs 0 0 (MQ below (PQ (EM D aC ad hz) (Rg ad) none) args s 0 0 (Rg ad)) (F0 m 159 ls [])) {h : MS} {x1 : Int32} {x3 : Int32} {x4 : Int64} {x6 : Int32} {x7 : Int32}  {H : Heap} {locs : List Loc} {ls : Array Slot} (hf : fX12_cut_159F k7 k159 h x1 x3 x4 x6 x7 = some hz) (hE : CE (EM D aC ad h) (Rg ad) s H locs) (hl : lv_has ls 8 [(0, .ref (ad 116)), (1, .int x1), (3, .int x3), (4, .long x4), (6, .int x6), (7, .int x7)]) : W p l e (RM 2 50 0 0) s m args below meth c H locs 0 0 (MQ below (PQ (EM D aC ad hz) (Rg ad) none) args s 0 0 (Rg ad)) (F0 m 159 ls []) := by
  unfold fX12_cut_159F at hf
  refine lv_iload b.1 b.2.1 dX12_cut_159 (lv_at hl 5 rfl) ?_
  refine lv_bipush (v := 18) b.1 b.2.1 dX12_cut_161 (by decide) ?_
  refine lv_icmp_ge (tgt := 192) b.1 b.2.1 dX12_cut_163 (by decide) (fun c35 => ?_) (fun c35 => ?_)
  · have hf := oI_t c35 hf
    exact wfX12_cut_192 b hlk hr zs zk H7 hf hE (lv_sub hl [0, 1, 2, 3, 4] rfl)
  · have hf := oI_f c35 hf
    refine lv_aload_n b.1 b.2.1 dX12_cut_166 rfl (lv_at hl 0 rfl) ?_
    refine gM_34 b hE dX12_cut_167 ?_
    refine lv_iload b.1 b.2.1 dX12_cut_170 (lv_at hl 5 rfl) ?_
    obtain ⟨g36, hf⟩ := oC_s hf
    refine m_lald b hE rfl rfl g36 dX12_cut_172 ?_
    refine lv_lload b.1 b.2.1 dX12_cut_173 (lv_at hl 3 rfl) ?_
    refine W.lcmp b.1 b.2.1 dX12_cut_175 ?_
    refine lv_if_ne (tgt := 186) b.1 b.2.1 dX12_cut_176 (by decide) (fun c37 => ?_) (fun c37 => ?_)
    · have hf := oI_f c37 hf
      exact wfX12_cut_186 b hlk hr zs zk H7 H159 hf hE (lv_sub hl [0, 1, 2, 3, 4, 5] rfl)
    · have hf := oI_t c37 hf
      refine lv_bipush (v := 20) b.1 b.2.1 dX12_cut_179 (by decide) ?_
      refine lv_iload b.1 b.2.1 dX12_cut_181 (lv_at hl 5 rfl) ?_
      refine lv_iadd b.1 b.2.1 dX12_cut_183 ?_
      obtain ⟨y38, ey38, hf⟩ := oL_s hf
      refine k_nmI ey38 ?_
      refine lv_istore (lv' := [(6, .int y38), (0, .ref (ad 116)), (1, .int x1), (3, .int x3), (4, .long x4), (7, .int x7)]) b.1 b.2.1 dX12_cut_184 hl (by decide) rfl (fun ls hl => ?_)
      exact wfX12_cut_186 b hlk hr zs zk H7 H159 hf hE (lv_sub hl [1, 2, 3, 4, 0, 5] rfl)
def fX12_cut_159 (k7 : MS → Int32 → Option (MS)) : Nat → MS → Int32 → Int32 → Int64 → Int32 → Int32 → Option (MS)
  | 0 => fun _ _ _ _ _ _ => none
  | n + 1 => fX12_cut_159F k7 (fX12_cut_159 k7 n)
set_option maxHeartbeats 4000000 in
theorem wfX12_cut_159 {args : Array Value} (b : Bd p s m c cX12_cut 8 RX12 D aC) (hlk : meth.locks = false) (hr : meth.sig.returnType = none) {Z : State → Prop} (zs : Z s) (zk : ZOK Z (Rg ad)) {hz : MS} {k7 : MS → Int32 → Option (MS)} (H7 : ∀ (h : MS) (x1 : Int32), ∀ (H : Heap) (locs : List Loc) (ls : Array Slot), k7 h x1 = some hz → CE (EM D aC ad h) (Rg ad) s H locs → lv_has ls 8 [(0, .ref (ad 116)), (1, .int x1)] → W p l e (RM 2 50 0 0) s m args below meth c H locs 0 0 (MQ below (PQ (EM D aC ad hz) (Rg ad) none) args s 0 0 (Rg ad)) (F0 m 7 ls [])) : ∀ n : Nat, ∀ (h : MS) (x1 : Int32) (x3 : Int32) (x4 : Int64) (x6 : Int32) (x7 : Int32), ∀ (H : Heap) (locs : List Loc) (ls : Array Slot), fX12_cut_159 k7 n h x1 x3 x4 x6 x7 = some hz → CE (EM D aC ad h) (Rg ad) s H locs → lv_has ls 8 [(0, .ref (ad 116)), (1, .int x1), (3, .int x3), (4, .long x4), (6, .int x6), (7, .int x7)] → W p l e (RM 2 50 0 0) s m args below meth c H locs 0 0 (MQ below (PQ (EM D aC ad hz) (Rg ad) none) args s 0 0 (Rg ad)) (F0 m 159 ls []) := by
  intro n
  induction n with
  | zero =>
    intro h x1 x3 x4 x6 x7 H locs ls hf
    have hf : (none : Option (MS)) = some _ := hf
    cases hf
  | succ n ih =>
    intro h x1 x3 x4 x6 x7 H locs ls hf hE hl
    exact wfX12_cut_159F b hlk hr zs zk H7 ih hf hE hl
def fX12_cut_148 (k7 : MS → Int32 → Option (MS)) (h : MS) (x1 : Int32) (x3 : Int32) (x4 : Int64) (s0 : Int32) : Option (MS) :=
  if 6 < x3 then (fX12_cut_192 k7 h x1 x3 x4 s0) else (fX12_cut_159 k7 FU h x1 x3 x4 s0 0)
set_option maxHeartbeats 4000000 in
theorem wfX12_cut_148 {args : Array Value} (b : Bd p s m c cX12_cut 8 RX12 D aC) (hlk : meth.locks = false) (hr : meth.sig.returnType = none) {Z : State → Prop} (zs : Z s) (zk : ZOK Z (Rg ad)) {hz : MS} {k7 : MS → Int32 → Option (MS)} (H7 : ∀ (h : MS) (x1 : Int32), ∀ (H : Heap) (locs : List Loc) (ls : Array Slot), k7 h x1 = some hz → CE (EM D aC ad h) (Rg ad) s H locs → lv_has ls 8 [(0, .ref (ad 116)), (1, .int x1)] → W p l e (RM 2 50 0 0) s m args below meth c H locs 0 0 (MQ below (PQ (EM D aC ad hz) (Rg ad) none) args s 0 0 (Rg ad)) (F0 m 7 ls [])) {h : MS} {x1 : Int32} {x3 : Int32} {x4 : Int64} {s0 : Int32}  {H : Heap} {locs : List Loc} {ls : Array Slot} (hf : fX12_cut_148 k7 h x1 x3 x4 s0 = some hz) (hE : CE (EM D aC ad h) (Rg ad) s H locs) (hl : lv_has ls 8 [(0, .ref (ad 116)), (1, .int x1), (3, .int x3), (4, .long x4)]) : W p l e (RM 2 50 0 0) s m args below meth c H locs 0 0 (MQ below (PQ (EM D aC ad hz) (Rg ad) none) args s 0 0 (Rg ad)) (F0 m 148 ls [.int s0]) := by
  unfold fX12_cut_148 at hf
  refine lv_istore (lv' := [(6, .int s0), (0, .ref (ad 116)), (1, .int x1), (3, .int x3), (4, .long x4)]) b.1 b.2.1 dX12_cut_148 hl (by decide) rfl (fun ls hl => ?_)
  refine lv_iload_n b.1 b.2.1 dX12_cut_150 rfl (lv_at hl 3 rfl) ?_
  refine lv_bipush (v := 6) b.1 b.2.1 dX12_cut_151 (by decide) ?_
  refine lv_icmp_gt (tgt := 192) b.1 b.2.1 dX12_cut_153 (by decide) (fun c39 => ?_) (fun c39 => ?_)
  · have hf := oI_t c39 hf
    exact wfX12_cut_192 b hlk hr zs zk H7 hf hE (lv_sub hl [1, 2, 3, 4, 0] rfl)
  · have hf := oI_f c39 hf
    refine lv_iconst (v := 0) b.1 b.2.1 dX12_cut_156 (by decide) ?_
    refine lv_istore (lv' := [(7, .int 0), (6, .int s0), (0, .ref (ad 116)), (1, .int x1), (3, .int x3), (4, .long x4)]) b.1 b.2.1 dX12_cut_157 hl (by decide) rfl (fun ls hl => ?_)
    exact wfX12_cut_159 b hlk hr zs zk H7 FU h x1 x3 x4 s0 0 _ _ _ hf hE (lv_sub hl [2, 3, 4, 5, 1, 0] rfl)
def fX12_cut_85F (k7 : MS → Int32 → Option (MS)) (k85 : MS → Int32 → Int32 → Int64 → Option (MS)) (h : MS) (x1 : Int32) (x3 : Int32) (x4 : Int64) : Option (MS) :=
  oB (fX12_at h (x1 + x3)) (fun r41 => oB (fX12_isLetter r41) (fun r43 => if r43 = 0 then (oB (fX12_at h (x1 + x3)) (fun r46 => oB (fX12_isDigit r46) (fun r48 => if r48 = 0 then (if x3 ≤ 10 then (fX12_cut_148 k7 h x1 x3 x4 1) else (fX12_cut_148 k7 h x1 x3 x4 4)) else (fX12_cut_111 k7 k85 h x1 x3 x4)))) else (fX12_cut_111 k7 k85 h x1 x3 x4)))
set_option maxHeartbeats 4000000 in
theorem wfX12_cut_85F {args : Array Value} (b : Bd p s m c cX12_cut 8 RX12 D aC) (hlk : meth.locks = false) (hr : meth.sig.returnType = none) {Z : State → Prop} (zs : Z s) (zk : ZOK Z (Rg ad)) {hz : MS} {k7 : MS → Int32 → Option (MS)} (H7 : ∀ (h : MS) (x1 : Int32), ∀ (H : Heap) (locs : List Loc) (ls : Array Slot), k7 h x1 = some hz → CE (EM D aC ad h) (Rg ad) s H locs → lv_has ls 8 [(0, .ref (ad 116)), (1, .int x1)] → W p l e (RM 2 50 0 0) s m args below meth c H locs 0 0 (MQ below (PQ (EM D aC ad hz) (Rg ad) none) args s 0 0 (Rg ad)) (F0 m 7 ls [])) {k85 : MS → Int32 → Int32 → Int64 → Option (MS)} (H85 : ∀ (h : MS) (x1 : Int32) (x3 : Int32) (x4 : Int64), ∀ (H : Heap) (locs : List Loc) (ls : Array Slot), k85 h x1 x3 x4 = some hz → CE (EM D aC ad h) (Rg ad) s H locs → lv_has ls 8 [(0, .ref (ad 116)), (1, .int x1), (3, .int x3), (4, .long x4)] → W p l e (RM 2 50 0 0) s m args below meth c H locs 0 0 (MQ below (PQ (EM D aC ad hz) (Rg ad) none) args s 0 0 (Rg ad)) (F0 m 85 ls [])) {h : MS} {x1 : Int32} {x3 : Int32} {x4 : Int64}  {H : Heap} {locs : List Loc} {ls : Array Slot} (hf : fX12_cut_85F k7 k85 h x1 x3 x4 = some hz) (hE : CE (EM D aC ad h) (Rg ad) s H locs) (hl : lv_has ls 8 [(0, .ref (ad 116)), (1, .int x1), (3, .int x3), (4, .long x4)]) : W p l e (RM 2 50 0 0) s m args below meth c H locs 0 0 (MQ below (PQ (EM D aC ad hz) (Rg ad) none) args s 0 0 (Rg ad)) (F0 m 85 ls []) := by
  unfold fX12_cut_85F at hf
  refine lv_aload_n b.1 b.2.1 dX12_cut_85 rfl (lv_at hl 0 rfl) ?_
  refine lv_iload_n b.1 b.2.1 dX12_cut_86 rfl (lv_at hl 1 rfl) ?_
  refine lv_iload_n b.1 b.2.1 dX12_cut_87 rfl (lv_at hl 2 rfl) ?_
  refine lv_iadd b.1 b.2.1 dX12_cut_88 ?_
  obtain ⟨r41, hc40, hf⟩ := oB_s hf
  refine k_callV0 (C := RX12) b zs zk hE (CX12_at l D aC ad zk hc40) mc_X12_at (in7 94 rfl rfl) mi_X12_at ms_X12_at ini_RX12 ok_X12_at (m_recv b hE) ⟨Nat.le_of_ble_eq_true rfl, Nat.le_of_ble_eq_true rfl⟩ rfl hl.1 rfl (k_room _ (by exact Nat.le_of_ble_eq_true rfl)) ⟨Nat.le_refl _, Nat.le_refl _⟩ dX12_cut_89 (fun H locs hE => ?_)
  obtain ⟨r43, hc42, hf⟩ := oB_s hf
  refine k_callS0 b zs zk hE (CX12_isLetter l D aC zk hc42) mc_X12_isLetter (in7 102 rfl rfl) mt_X12_isLetter ini_RX12 ok_X12_isLetter ⟨Nat.le_of_ble_eq_true rfl, Nat.le_of_ble_eq_true rfl⟩ rfl hl.1 rfl (k_room _ (by exact Nat.le_of_ble_eq_true rfl)) ⟨Nat.le_refl _, Nat.le_refl _⟩ dX12_cut_92 (fun H locs hE => ?_)
  refine lv_if_ne (tgt := 111) b.1 b.2.1 dX12_cut_95 (by decide) (fun c44 => ?_) (fun c44 => ?_)
  · have hf := oI_f c44 hf
    exact wfX12_cut_111 b hlk hr zs zk H7 H85 hf hE (lv_sub hl [0, 1, 2, 3] rfl)
  · have hf := oI_t c44 hf
    refine lv_aload_n b.1 b.2.1 dX12_cut_98 rfl (lv_at hl 0 rfl) ?_
    refine lv_iload_n b.1 b.2.1 dX12_cut_99 rfl (lv_at hl 1 rfl) ?_
    refine lv_iload_n b.1 b.2.1 dX12_cut_100 rfl (lv_at hl 2 rfl) ?_
    refine lv_iadd b.1 b.2.1 dX12_cut_101 ?_
    obtain ⟨r46, hc45, hf⟩ := oB_s hf
    refine k_callV0 (C := RX12) b zs zk hE (CX12_at l D aC ad zk hc45) mc_X12_at (in7 94 rfl rfl) mi_X12_at ms_X12_at ini_RX12 ok_X12_at (m_recv b hE) ⟨Nat.le_of_ble_eq_true rfl, Nat.le_of_ble_eq_true rfl⟩ rfl hl.1 rfl (k_room _ (by exact Nat.le_of_ble_eq_true rfl)) ⟨Nat.le_refl _, Nat.le_refl _⟩ dX12_cut_102 (fun H locs hE => ?_)
    obtain ⟨r48, hc47, hf⟩ := oB_s hf
    refine k_callS0 b zs zk hE (CX12_isDigit l D aC zk hc47) mc_X12_isDigit (in5 202 rfl rfl) mt_X12_isDigit ini_RX12 ok_X12_isDigit ⟨Nat.le_of_ble_eq_true rfl, Nat.le_of_ble_eq_true rfl⟩ rfl hl.1 rfl (k_room _ (by exact Nat.le_of_ble_eq_true rfl)) ⟨Nat.le_refl _, Nat.le_refl _⟩ dX12_cut_105 (fun H locs hE => ?_)
    refine lv_if_eq (tgt := 137) b.1 b.2.1 dX12_cut_108 (by decide) (fun c49 => ?_) (fun c49 => ?_)
    · have hf := oI_t c49 hf
      refine lv_iload_n b.1 b.2.1 dX12_cut_137 rfl (lv_at hl 2 rfl) ?_
      refine lv_bipush (v := 10) b.1 b.2.1 dX12_cut_138 (by decide) ?_
      refine lv_icmp_le (tgt := 147) b.1 b.2.1 dX12_cut_140 (by decide) (fun c50 => ?_) (fun c50 => ?_)
      · have hf := oI_t c50 hf
        refine lv_iconst (v := 1) b.1 b.2.1 dX12_cut_147 (by decide) ?_
        exact wfX12_cut_148 b hlk hr zs zk H7 hf hE (lv_sub hl [0, 1, 2, 3] rfl)
      · have hf := oI_f c50 hf
        refine lv_iconst (v := 4) b.1 b.2.1 dX12_cut_143 (by decide) ?_
        refine lv_goto (tgt := 148) b.1 b.2.1 dX12_cut_144 (by decide) ?_
        exact wfX12_cut_148 b hlk hr zs zk H7 hf hE (lv_sub hl [0, 1, 2, 3] rfl)
    · have hf := oI_f c49 hf
      exact wfX12_cut_111 b hlk hr zs zk H7 H85 hf hE (lv_sub hl [0, 1, 2, 3] rfl)
def fX12_cut_85 (k7 : MS → Int32 → Option (MS)) : Nat → MS → Int32 → Int32 → Int64 → Option (MS)
  | 0 => fun _ _ _ _ => none
  | n + 1 => fX12_cut_85F k7 (fX12_cut_85 k7 n)
set_option maxHeartbeats 4000000 in
theorem wfX12_cut_85 {args : Array Value} (b : Bd p s m c cX12_cut 8 RX12 D aC) (hlk : meth.locks = false) (hr : meth.sig.returnType = none) {Z : State → Prop} (zs : Z s) (zk : ZOK Z (Rg ad)) {hz : MS} {k7 : MS → Int32 → Option (MS)} (H7 : ∀ (h : MS) (x1 : Int32), ∀ (H : Heap) (locs : List Loc) (ls : Array Slot), k7 h x1 = some hz → CE (EM D aC ad h) (Rg ad) s H locs → lv_has ls 8 [(0, .ref (ad 116)), (1, .int x1)] → W p l e (RM 2 50 0 0) s m args below meth c H locs 0 0 (MQ below (PQ (EM D aC ad hz) (Rg ad) none) args s 0 0 (Rg ad)) (F0 m 7 ls [])) : ∀ n : Nat, ∀ (h : MS) (x1 : Int32) (x3 : Int32) (x4 : Int64), ∀ (H : Heap) (locs : List Loc) (ls : Array Slot), fX12_cut_85 k7 n h x1 x3 x4 = some hz → CE (EM D aC ad h) (Rg ad) s H locs → lv_has ls 8 [(0, .ref (ad 116)), (1, .int x1), (3, .int x3), (4, .long x4)] → W p l e (RM 2 50 0 0) s m args below meth c H locs 0 0 (MQ below (PQ (EM D aC ad hz) (Rg ad) none) args s 0 0 (Rg ad)) (F0 m 85 ls []) := by
  intro n
  induction n with
  | zero =>
    intro h x1 x3 x4 H locs ls hf
    have hf : (none : Option (MS)) = some _ := hf
    cases hf
  | succ n ih =>
    intro h x1 x3 x4 H locs ls hf hE hl
    exact wfX12_cut_85F b hlk hr zs zk H7 ih hf hE hl
def fX12_cut_7F (k7 : MS → Int32 → Option (MS)) (h : MS) (x1 : Int32) : Option (MS) :=
  if 1200 < (mI h 10) then (some (h)) else (oB (fX12_at h x1) (fun r53 => if x1 < (mI h 4) then (if r53 = 9 then (fX12_cut_67 k7 h x1) else (if r53 = 10 then (fX12_cut_67 k7 h x1) else (if r53 = 13 then (fX12_cut_67 k7 h x1) else (if r53 = 32 then (fX12_cut_67 k7 h x1) else (oB (fX12_isLetter r53) (fun r60 => if r60 = 0 then (if r53 < 65 then (fX12_cut_235 k7 h x1 r53) else (if 90 < r53 then (fX12_cut_235 k7 h x1 r53) else (oB (fX12_token h 2 x1 r53 0) (fun h65 => oL (x1 + 1) (fun y66 => k7 h65 y66))))) else (fX12_cut_85 k7 FU h x1 0 0))))))) else (oB (fX12_token h 0 (mI h 4) 0 0) (fun h68 => some (h68)))))
set_option maxHeartbeats 4000000 in
theorem wfX12_cut_7F {args : Array Value} (b : Bd p s m c cX12_cut 8 RX12 D aC) (hlk : meth.locks = false) (hr : meth.sig.returnType = none) {Z : State → Prop} (zs : Z s) (zk : ZOK Z (Rg ad)) {hz : MS} {k7 : MS → Int32 → Option (MS)} (H7 : ∀ (h : MS) (x1 : Int32), ∀ (H : Heap) (locs : List Loc) (ls : Array Slot), k7 h x1 = some hz → CE (EM D aC ad h) (Rg ad) s H locs → lv_has ls 8 [(0, .ref (ad 116)), (1, .int x1)] → W p l e (RM 2 50 0 0) s m args below meth c H locs 0 0 (MQ below (PQ (EM D aC ad hz) (Rg ad) none) args s 0 0 (Rg ad)) (F0 m 7 ls [])) {h : MS} {x1 : Int32}  {H : Heap} {locs : List Loc} {ls : Array Slot} (hf : fX12_cut_7F k7 h x1 = some hz) (hE : CE (EM D aC ad h) (Rg ad) s H locs) (hl : lv_has ls 8 [(0, .ref (ad 116)), (1, .int x1)]) : W p l e (RM 2 50 0 0) s m args below meth c H locs 0 0 (MQ below (PQ (EM D aC ad hz) (Rg ad) none) args s 0 0 (Rg ad)) (F0 m 7 ls []) := by
  unfold fX12_cut_7F at hf
  refine lv_aload_n b.1 b.2.1 dX12_cut_7 rfl (lv_at hl 0 rfl) ?_
  refine gM_276 b hE dX12_cut_8 ?_
  refine lv_sipush (v := 1200) b.1 b.2.1 dX12_cut_11 (by decide) ?_
  refine lv_icmp_gt (tgt := 335) b.1 b.2.1 dX12_cut_14 (by decide) (fun c51 => ?_) (fun c51 => ?_)
  · have hf := oI_t c51 hf
    cases hf
    exact k_vret b hlk hr hE (Nat.le_refl _) (Nat.le_refl _) dX12_cut_335
  · have hf := oI_f c51 hf
    refine lv_aload_n b.1 b.2.1 dX12_cut_17 rfl (lv_at hl 0 rfl) ?_
    refine lv_iload_n b.1 b.2.1 dX12_cut_18 rfl (lv_at hl 1 rfl) ?_
    obtain ⟨r53, hc52, hf⟩ := oB_s hf
    refine k_callV0 (C := RX12) b zs zk hE (CX12_at l D aC ad zk hc52) mc_X12_at (in7 94 rfl rfl) mi_X12_at ms_X12_at ini_RX12 ok_X12_at (m_recv b hE) ⟨Nat.le_of_ble_eq_true rfl, Nat.le_of_ble_eq_true rfl⟩ rfl hl.1 rfl (k_room _ (by exact Nat.le_of_ble_eq_true rfl)) ⟨Nat.le_refl _, Nat.le_refl _⟩ dX12_cut_19 (fun H locs hE => ?_)
    refine lv_istore_n (lv' := [(2, .int r53), (0, .ref (ad 116)), (1, .int x1)]) b.1 b.2.1 dX12_cut_22 rfl hl (by decide) rfl (fun ls hl => ?_)
    refine lv_iload_n b.1 b.2.1 dX12_cut_23 rfl (lv_at hl 2 rfl) ?_
    refine lv_aload_n b.1 b.2.1 dX12_cut_24 rfl (lv_at hl 1 rfl) ?_
    refine gM_263 b hE dX12_cut_25 ?_
    refine lv_icmp_lt (tgt := 43) b.1 b.2.1 dX12_cut_28 (by decide) (fun c54 => ?_) (fun c54 => ?_)
    · have hf := oI_t c54 hf
      refine lv_iload_n b.1 b.2.1 dX12_cut_43 rfl (lv_at hl 0 rfl) ?_
      refine lv_bipush (v := 9) b.1 b.2.1 dX12_cut_44 (by decide) ?_
      refine lv_icmp_eq (tgt := 67) b.1 b.2.1 dX12_cut_46 (by decide) (fun c55 => ?_) (fun c55 => ?_)
      · have hf := oI_t c55 hf
        exact wfX12_cut_67 b hlk hr zs zk H7 hf hE (lv_sub hl [1, 2] rfl)
      · have hf := oI_f c55 hf
        refine lv_iload_n b.1 b.2.1 dX12_cut_49 rfl (lv_at hl 0 rfl) ?_
        refine lv_bipush (v := 10) b.1 b.2.1 dX12_cut_50 (by decide) ?_
        refine lv_icmp_eq (tgt := 67) b.1 b.2.1 dX12_cut_52 (by decide) (fun c56 => ?_) (fun c56 => ?_)
        · have hf := oI_t c56 hf
          exact wfX12_cut_67 b hlk hr zs zk H7 hf hE (lv_sub hl [1, 2] rfl)
        · have hf := oI_f c56 hf
          refine lv_iload_n b.1 b.2.1 dX12_cut_55 rfl (lv_at hl 0 rfl) ?_
          refine lv_bipush (v := 13) b.1 b.2.1 dX12_cut_56 (by decide) ?_
          refine lv_icmp_eq (tgt := 67) b.1 b.2.1 dX12_cut_58 (by decide) (fun c57 => ?_) (fun c57 => ?_)
          · have hf := oI_t c57 hf
            exact wfX12_cut_67 b hlk hr zs zk H7 hf hE (lv_sub hl [1, 2] rfl)
          · have hf := oI_f c57 hf
            refine lv_iload_n b.1 b.2.1 dX12_cut_61 rfl (lv_at hl 0 rfl) ?_
            refine lv_bipush (v := 32) b.1 b.2.1 dX12_cut_62 (by decide) ?_
            refine lv_icmp_ne (tgt := 73) b.1 b.2.1 dX12_cut_64 (by decide) (fun c58 => ?_) (fun c58 => ?_)
            · have hf := oI_f c58 hf
              refine lv_iload_n b.1 b.2.1 dX12_cut_73 rfl (lv_at hl 0 rfl) ?_
              obtain ⟨r60, hc59, hf⟩ := oB_s hf
              refine k_callS0 b zs zk hE (CX12_isLetter l D aC zk hc59) mc_X12_isLetter (in7 102 rfl rfl) mt_X12_isLetter ini_RX12 ok_X12_isLetter ⟨Nat.le_of_ble_eq_true rfl, Nat.le_of_ble_eq_true rfl⟩ rfl hl.1 rfl (k_room _ (by exact Nat.le_of_ble_eq_true rfl)) ⟨Nat.le_refl _, Nat.le_refl _⟩ dX12_cut_74 (fun H locs hE => ?_)
              refine lv_if_eq (tgt := 209) b.1 b.2.1 dX12_cut_77 (by decide) (fun c61 => ?_) (fun c61 => ?_)
              · have hf := oI_t c61 hf
                refine lv_iload_n b.1 b.2.1 dX12_cut_209 rfl (lv_at hl 0 rfl) ?_
                refine lv_bipush (v := 65) b.1 b.2.1 dX12_cut_210 (by decide) ?_
                refine lv_icmp_lt (tgt := 235) b.1 b.2.1 dX12_cut_212 (by decide) (fun c62 => ?_) (fun c62 => ?_)
                · have hf := oI_t c62 hf
                  exact wfX12_cut_235 b hlk hr zs zk H7 hf hE (lv_sub hl [1, 2, 0] rfl)
                · have hf := oI_f c62 hf
                  refine lv_iload_n b.1 b.2.1 dX12_cut_215 rfl (lv_at hl 0 rfl) ?_
                  refine lv_bipush (v := 90) b.1 b.2.1 dX12_cut_216 (by decide) ?_
                  refine lv_icmp_gt (tgt := 235) b.1 b.2.1 dX12_cut_218 (by decide) (fun c63 => ?_) (fun c63 => ?_)
                  · have hf := oI_t c63 hf
                    exact wfX12_cut_235 b hlk hr zs zk H7 hf hE (lv_sub hl [1, 2, 0] rfl)
                  · have hf := oI_f c63 hf
                    refine lv_aload_n b.1 b.2.1 dX12_cut_221 rfl (lv_at hl 1 rfl) ?_
                    refine lv_iconst (v := 2) b.1 b.2.1 dX12_cut_222 (by decide) ?_
                    refine lv_iload_n b.1 b.2.1 dX12_cut_223 rfl (lv_at hl 2 rfl) ?_
                    refine lv_iload_n b.1 b.2.1 dX12_cut_224 rfl (lv_at hl 0 rfl) ?_
                    refine lv_lconst (v := 0) b.1 b.2.1 dX12_cut_225 rfl ?_
                    obtain ⟨h65, hc64, hf⟩ := oB_s hf
                    refine k_callV0 (C := RX12) b zs zk hE (CX12_token l D aC ad zk hc64) mc_X12_token (in7 98 rfl rfl) mi_X12_token ms_X12_token ini_RX12 ok_X12_token (m_recv b hE) ⟨Nat.le_of_ble_eq_true rfl, Nat.le_of_ble_eq_true rfl⟩ rfl hl.1 rfl (k_room _ (by exact Nat.le_of_ble_eq_true rfl)) ⟨Nat.le_refl _, Nat.le_refl _⟩ dX12_cut_226 (fun H locs hE => ?_)
                    obtain ⟨y66, ey66, hf⟩ := oL_s hf
                    refine lv_iinc (v := y66) (lv' := [(1, .int y66), (2, .int r53), (0, .ref (ad 116))]) b.1 b.2.1 dX12_cut_229 hl (k := 2) rfl (by rw [ey66]; rfl) (by decide) rfl (fun ls hl => ?_)
                    refine lv_goto (tgt := 332) b.1 b.2.1 dX12_cut_232 (by decide) ?_
                    refine lv_goto (tgt := 7) b.1 b.2.1 dX12_cut_332 (by decide) ?_
                    exact H7 h65 y66 _ _ _ hf hE (lv_sub hl [2, 0] rfl)
              · have hf := oI_f c61 hf
                refine lv_iconst (v := 0) b.1 b.2.1 dX12_cut_80 (by decide) ?_
                refine lv_istore_n (lv' := [(3, .int 0), (2, .int r53), (0, .ref (ad 116)), (1, .int x1)]) b.1 b.2.1 dX12_cut_81 rfl hl (by decide) rfl (fun ls hl => ?_)
                have hl := lv_sub (l' := [(3, .int 0), (0, .ref (ad 116)), (1, .int x1)]) hl [0, 2, 3] rfl
                refine lv_lconst (v := 0) b.1 b.2.1 dX12_cut_82 rfl ?_
                refine lv_lstore (lv' := [(4, .long 0), (3, .int 0), (0, .ref (ad 116)), (1, .int x1)]) b.1 b.2.1 dX12_cut_83 hl (by decide) rfl (fun ls hl => ?_)
                exact wfX12_cut_85 b hlk hr zs zk H7 FU h x1 0 0 _ _ _ hf hE (lv_sub hl [2, 3, 1, 0] rfl)
            · have hf := oI_t c58 hf
              exact wfX12_cut_67 b hlk hr zs zk H7 hf hE (lv_sub hl [1, 2] rfl)
    · have hf := oI_f c54 hf
      refine lv_aload_n b.1 b.2.1 dX12_cut_31 rfl (lv_at hl 1 rfl) ?_
      refine lv_iconst (v := 0) b.1 b.2.1 dX12_cut_32 (by decide) ?_
      refine lv_aload_n b.1 b.2.1 dX12_cut_33 rfl (lv_at hl 1 rfl) ?_
      refine gM_263 b hE dX12_cut_34 ?_
      refine lv_iconst (v := 0) b.1 b.2.1 dX12_cut_37 (by decide) ?_
      refine lv_lconst (v := 0) b.1 b.2.1 dX12_cut_38 rfl ?_
      obtain ⟨h68, hc67, hf⟩ := oB_s hf
      refine k_callV0 (C := RX12) b zs zk hE (CX12_token l D aC ad zk hc67) mc_X12_token (in7 98 rfl rfl) mi_X12_token ms_X12_token ini_RX12 ok_X12_token (m_recv b hE) ⟨Nat.le_of_ble_eq_true rfl, Nat.le_of_ble_eq_true rfl⟩ rfl hl.1 rfl (k_room _ (by exact Nat.le_of_ble_eq_true rfl)) ⟨Nat.le_refl _, Nat.le_refl _⟩ dX12_cut_39 (fun H locs hE => ?_)
      cases hf
      exact k_vret b hlk hr hE (Nat.le_refl _) (Nat.le_refl _) dX12_cut_42
def fX12_cut_7  : Nat → MS → Int32 → Option (MS)
  | 0 => fun _ _ => none
  | n + 1 => fX12_cut_7F  (fX12_cut_7  n)
set_option maxHeartbeats 4000000 in
theorem wfX12_cut_7 {args : Array Value} (b : Bd p s m c cX12_cut 8 RX12 D aC) (hlk : meth.locks = false) (hr : meth.sig.returnType = none) {Z : State → Prop} (zs : Z s) (zk : ZOK Z (Rg ad)) {hz : MS} : ∀ n : Nat, ∀ (h : MS) (x1 : Int32), ∀ (H : Heap) (locs : List Loc) (ls : Array Slot), fX12_cut_7  n h x1 = some hz → CE (EM D aC ad h) (Rg ad) s H locs → lv_has ls 8 [(0, .ref (ad 116)), (1, .int x1)] → W p l e (RM 2 50 0 0) s m args below meth c H locs 0 0 (MQ below (PQ (EM D aC ad hz) (Rg ad) none) args s 0 0 (Rg ad)) (F0 m 7 ls []) := by
  intro n
  induction n with
  | zero =>
    intro h x1 H locs ls hf
    have hf : (none : Option (MS)) = some _ := hf
    cases hf
  | succ n ih =>
    intro h x1 H locs ls hf hE hl
    exact wfX12_cut_7F b hlk hr zs zk  ih hf hE hl
def fX12_cut_0  (h : MS) : Option (MS) :=
  oL (mSI h 10 0) (fun h69 => fX12_cut_7  FU h69 0)
set_option maxHeartbeats 4000000 in
theorem wfX12_cut_0 {args : Array Value} (b : Bd p s m c cX12_cut 8 RX12 D aC) (hlk : meth.locks = false) (hr : meth.sig.returnType = none) {Z : State → Prop} (zs : Z s) (zk : ZOK Z (Rg ad)) {hz : MS} {h : MS}  {H : Heap} {locs : List Loc} {ls : Array Slot} (hf : fX12_cut_0 h = some hz) (hE : CE (EM D aC ad h) (Rg ad) s H locs) (hl : lv_has ls 8 [(0, .ref (ad 116))]) : W p l e (RM 2 50 0 0) s m args below meth c H locs 0 0 (MQ below (PQ (EM D aC ad hz) (Rg ad) none) args s 0 0 (Rg ad)) (F0 m 0 ls []) := by
  unfold fX12_cut_0 at hf
  refine lv_aload_n b.1 b.2.1 dX12_cut_0 rfl (lv_at hl 0 rfl) ?_
  refine lv_iconst (v := 0) b.1 b.2.1 dX12_cut_1 (by decide) ?_
  obtain ⟨h69, eh69, hf⟩ := oL_s hf
  refine pM_276 b hE eh69 dX12_cut_2 (fun H locs hE => ?_)
  refine lv_iconst (v := 0) b.1 b.2.1 dX12_cut_5 (by decide) ?_
  refine lv_istore_n (lv' := [(1, .int 0), (0, .ref (ad 116))]) b.1 b.2.1 dX12_cut_6 rfl hl (by decide) rfl (fun ls hl => ?_)
  exact wfX12_cut_7 b hlk hr zs zk  FU h69 0 _ _ _ hf hE (lv_sub hl [1, 0] rfl)
def fX12_cut (h : MS) : Option (MS) := fX12_cut_0 h 
set_option maxHeartbeats 4000000 in
theorem CX12_cut (l : Launch) (D : va_G) (aC : Nat → ClassId) (ad : Nat → Nat) {Z : State → Prop} (zk : ZOK Z (Rg ad)) {h : MS} {hz : MS} (hf : fX12_cut h = some hz) : CM l D aC Z yX12_cut cX12_cut 8 (none) 2 50 0 0 (EM D aC ad h) [.ref (ad 116)] (EM D aC ad hz) none (Rg ad) := by
  refine CM.of rfl ?_
  intro p e s m below meth c b hr hlk hin2 zs hE
  refine k_ent (Nat.le_of_ble_eq_true rfl) (fun ls hl => ?_)
  exact wfX12_cut_0 b hlk hr zs zk hf hE (lv_sub hl [0] rfl)
theorem dX12_is_0 : decode cX12_is 0 = .ok (.aload_n 0, 1) := by decide +kernel
theorem dX12_is_1 : decode cX12_is 1 = .ok (.getfield 294, 3) := by decide +kernel
theorem dX12_is_4 : decode cX12_is 4 = .ok (.ifCond .ne 20, 3) := by decide +kernel
theorem dX12_is_7 : decode cX12_is 7 = .ok (.aload_n 0, 1) := by decide +kernel
theorem dX12_is_8 : decode cX12_is 8 = .ok (.getfield 20, 3) := by decide +kernel
theorem dX12_is_11 : decode cX12_is 11 = .ok (.aload_n 0, 1) := by decide +kernel
theorem dX12_is_12 : decode cX12_is 12 = .ok (.getfield 297, 3) := by decide +kernel
theorem dX12_is_15 : decode cX12_is 15 = .ok (.iaload, 1) := by decide +kernel
theorem dX12_is_16 : decode cX12_is 16 = .ok (.iload_n 1, 1) := by decide +kernel
theorem dX12_is_17 : decode cX12_is 17 = .ok (.if_icmp .ne 7, 3) := by decide +kernel
theorem dX12_is_20 : decode cX12_is 20 = .ok (.iconst 1, 1) := by decide +kernel
theorem dX12_is_21 : decode cX12_is 21 = .ok (.goto 4, 3) := by decide +kernel
theorem dX12_is_24 : decode cX12_is 24 = .ok (.iconst 0, 1) := by decide +kernel
theorem dX12_is_25 : decode cX12_is 25 = .ok (.ireturn, 1) := by decide +kernel
def fX12_is_0  (h : MS) (x1 : Int32) : Option (Int32) :=
  if (mI h 13) = 0 then (oC (ix (mI h 11) (mlen 5)) (if (mA h 5 (Int32.toNatClampNeg (mI h 11))) = x1 then (some (1)) else (some (0)))) else (some (0))
set_option maxHeartbeats 4000000 in
theorem wfX12_is_0 {args : Array Value} (b : Bd p s m c cX12_is 2 RX12 D aC) (hlk : meth.locks = false) (hr : meth.sig.returnType = some .boolean) {Z : State → Prop} (zs : Z s) (zk : ZOK Z (Rg ad)) {rz : Int32} {h : MS} {x1 : Int32}  {H : Heap} {locs : List Loc} {ls : Array Slot} (hf : fX12_is_0 h x1 = some rz) (hE : CE (EM D aC ad h) (Rg ad) s H locs) (hl : lv_has ls 2 [(0, .ref (ad 116)), (1, .int x1)]) : W p l e (RM 0 0 0 0) s m args below meth c H locs 0 0 (MQ below (PQ (EM D aC ad h) (Rg ad) (some (.int rz))) args s 0 0 (Rg ad)) (F0 m 0 ls []) := by
  unfold fX12_is_0 at hf
  refine lv_aload_n b.1 b.2.1 dX12_is_0 rfl (lv_at hl 0 rfl) ?_
  refine gM_294 b hE dX12_is_1 ?_
  refine lv_if_ne (tgt := 24) b.1 b.2.1 dX12_is_4 (by decide) (fun c1 => ?_) (fun c1 => ?_)
  · have hf := oI_f c1 hf
    refine lv_iconst (v := 0) b.1 b.2.1 dX12_is_24 (by decide) ?_
    cases hf
    exact k_zret b hlk hr (by decide) hE (Nat.le_refl _) (Nat.le_refl _) dX12_is_25
  · have hf := oI_t c1 hf
    refine lv_aload_n b.1 b.2.1 dX12_is_7 rfl (lv_at hl 0 rfl) ?_
    refine gM_20 b hE dX12_is_8 ?_
    refine lv_aload_n b.1 b.2.1 dX12_is_11 rfl (lv_at hl 0 rfl) ?_
    refine gM_297 b hE dX12_is_12 ?_
    obtain ⟨g2, hf⟩ := oC_s hf
    refine m_iald b hE rfl rfl g2 dX12_is_15 ?_
    refine lv_iload_n b.1 b.2.1 dX12_is_16 rfl (lv_at hl 1 rfl) ?_
    refine lv_icmp_ne (tgt := 24) b.1 b.2.1 dX12_is_17 (by decide) (fun c3 => ?_) (fun c3 => ?_)
    · have hf := oI_f c3 hf
      refine lv_iconst (v := 0) b.1 b.2.1 dX12_is_24 (by decide) ?_
      cases hf
      exact k_zret b hlk hr (by decide) hE (Nat.le_refl _) (Nat.le_refl _) dX12_is_25
    · have hf := oI_t c3 hf
      refine lv_iconst (v := 1) b.1 b.2.1 dX12_is_20 (by decide) ?_
      refine lv_goto (tgt := 25) b.1 b.2.1 dX12_is_21 (by decide) ?_
      cases hf
      exact k_zret b hlk hr (by decide) hE (Nat.le_refl _) (Nat.le_refl _) dX12_is_25
def fX12_is (h : MS) (x1 : Int32) : Option (Int32) := fX12_is_0 h x1
set_option maxHeartbeats 4000000 in
theorem CX12_is (l : Launch) (D : va_G) (aC : Nat → ClassId) (ad : Nat → Nat) {Z : State → Prop} (zk : ZOK Z (Rg ad)) {h : MS} {x1 : Int32} {rz : Int32} (hf : fX12_is h x1 = some rz) : CM l D aC Z yX12_is cX12_is 2 (some .boolean) 0 0 0 0 (EM D aC ad h) [.ref (ad 116), .int x1] (EM D aC ad h) (some (.int rz)) (Rg ad) := by
  refine CM.of rfl ?_
  intro p e s m below meth c b hr hlk hin2 zs hE
  refine k_ent (Nat.le_of_ble_eq_true rfl) (fun ls hl => ?_)
  exact wfX12_is_0 b hlk hr zs zk hf hE (lv_sub hl [0, 1] rfl)
theorem dX12_fail_0 : decode cX12_fail 0 = .ok (.aload_n 0, 1) := by decide +kernel
theorem dX12_fail_1 : decode cX12_fail 1 = .ok (.getfield 294, 3) := by decide +kernel
theorem dX12_fail_4 : decode cX12_fail 4 = .ok (.ifCond .le 4, 3) := by decide +kernel
theorem dX12_fail_7 : decode cX12_fail 7 = .ok (.return_, 1) := by decide +kernel
theorem dX12_fail_8 : decode cX12_fail 8 = .ok (.aload_n 0, 1) := by decide +kernel
theorem dX12_fail_9 : decode cX12_fail 9 = .ok (.iload_n 1, 1) := by decide +kernel
theorem dX12_fail_10 : decode cX12_fail 10 = .ok (.putfield 294, 3) := by decide +kernel
theorem dX12_fail_13 : decode cX12_fail 13 = .ok (.aload_n 0, 1) := by decide +kernel
theorem dX12_fail_14 : decode cX12_fail 14 = .ok (.aload_n 0, 1) := by decide +kernel
theorem dX12_fail_15 : decode cX12_fail 15 = .ok (.getfield 24, 3) := by decide +kernel
theorem dX12_fail_18 : decode cX12_fail 18 = .ok (.aload_n 0, 1) := by decide +kernel
theorem dX12_fail_19 : decode cX12_fail 19 = .ok (.getfield 297, 3) := by decide +kernel
theorem dX12_fail_22 : decode cX12_fail 22 = .ok (.iaload, 1) := by decide +kernel
theorem dX12_fail_23 : decode cX12_fail 23 = .ok (.putfield 300, 3) := by decide +kernel
theorem dX12_fail_26 : decode cX12_fail 26 = .ok (.return_, 1) := by decide +kernel
def fX12_fail_0  (h : MS) (x1 : Int32) : Option (MS) :=
  if (mI h 13) ≤ 0 then (oL (mSI h 13 x1) (fun h2 => oC (ix (mI h2 11) (mlen 6)) (oL (mSI h2 14 (mA h2 6 (Int32.toNatClampNeg (mI h2 11)))) (fun h4 => some (h4))))) else (some (h))
set_option maxHeartbeats 4000000 in
theorem wfX12_fail_0 {args : Array Value} (b : Bd p s m c cX12_fail 2 RX12 D aC) (hlk : meth.locks = false) (hr : meth.sig.returnType = none) {Z : State → Prop} (zs : Z s) (zk : ZOK Z (Rg ad)) {hz : MS} {h : MS} {x1 : Int32}  {H : Heap} {locs : List Loc} {ls : Array Slot} (hf : fX12_fail_0 h x1 = some hz) (hE : CE (EM D aC ad h) (Rg ad) s H locs) (hl : lv_has ls 2 [(0, .ref (ad 116)), (1, .int x1)]) : W p l e (RM 0 0 0 0) s m args below meth c H locs 0 0 (MQ below (PQ (EM D aC ad hz) (Rg ad) none) args s 0 0 (Rg ad)) (F0 m 0 ls []) := by
  unfold fX12_fail_0 at hf
  refine lv_aload_n b.1 b.2.1 dX12_fail_0 rfl (lv_at hl 0 rfl) ?_
  refine gM_294 b hE dX12_fail_1 ?_
  refine lv_if_le (tgt := 8) b.1 b.2.1 dX12_fail_4 (by decide) (fun c1 => ?_) (fun c1 => ?_)
  · have hf := oI_t c1 hf
    refine lv_aload_n b.1 b.2.1 dX12_fail_8 rfl (lv_at hl 0 rfl) ?_
    refine lv_iload_n b.1 b.2.1 dX12_fail_9 rfl (lv_at hl 1 rfl) ?_
    obtain ⟨h2, eh2, hf⟩ := oL_s hf
    refine pM_294 b hE eh2 dX12_fail_10 (fun H locs hE => ?_)
    refine lv_aload_n b.1 b.2.1 dX12_fail_13 rfl (lv_at hl 0 rfl) ?_
    refine lv_aload_n b.1 b.2.1 dX12_fail_14 rfl (lv_at hl 0 rfl) ?_
    refine gM_24 b hE dX12_fail_15 ?_
    refine lv_aload_n b.1 b.2.1 dX12_fail_18 rfl (lv_at hl 0 rfl) ?_
    refine gM_297 b hE dX12_fail_19 ?_
    obtain ⟨g3, hf⟩ := oC_s hf
    refine m_iald b hE rfl rfl g3 dX12_fail_22 ?_
    obtain ⟨h4, eh4, hf⟩ := oL_s hf
    refine pM_300 b hE eh4 dX12_fail_23 (fun H locs hE => ?_)
    cases hf
    exact k_vret b hlk hr hE (Nat.le_refl _) (Nat.le_refl _) dX12_fail_26
  · have hf := oI_f c1 hf
    cases hf
    exact k_vret b hlk hr hE (Nat.le_refl _) (Nat.le_refl _) dX12_fail_7
def fX12_fail (h : MS) (x1 : Int32) : Option (MS) := fX12_fail_0 h x1
set_option maxHeartbeats 4000000 in
theorem CX12_fail (l : Launch) (D : va_G) (aC : Nat → ClassId) (ad : Nat → Nat) {Z : State → Prop} (zk : ZOK Z (Rg ad)) {h : MS} {x1 : Int32} {hz : MS} (hf : fX12_fail h x1 = some hz) : CM l D aC Z yX12_fail cX12_fail 2 (none) 0 0 0 0 (EM D aC ad h) [.ref (ad 116), .int x1] (EM D aC ad hz) none (Rg ad) := by
  refine CM.of rfl ?_
  intro p e s m below meth c b hr hlk hin2 zs hE
  refine k_ent (Nat.le_of_ble_eq_true rfl) (fun ls hl => ?_)
  exact wfX12_fail_0 b hlk hr zs zk hf hE (lv_sub hl [0, 1] rfl)
theorem dX12_wrong_0 : decode cX12_wrong 0 = .ok (.aload_n 0, 1) := by decide +kernel
theorem dX12_wrong_1 : decode cX12_wrong 1 = .ok (.getfield 24, 3) := by decide +kernel
theorem dX12_wrong_4 : decode cX12_wrong 4 = .ok (.iload_n 2, 1) := by decide +kernel
theorem dX12_wrong_5 : decode cX12_wrong 5 = .ok (.iaload, 1) := by decide +kernel
theorem dX12_wrong_6 : decode cX12_wrong 6 = .ok (.istore_n 3, 1) := by decide +kernel
theorem dX12_wrong_7 : decode cX12_wrong 7 = .ok (.aload_n 0, 1) := by decide +kernel
theorem dX12_wrong_8 : decode cX12_wrong 8 = .ok (.getfield 294, 3) := by decide +kernel
theorem dX12_wrong_11 : decode cX12_wrong 11 = .ok (.ifCond .gt 34, 3) := by decide +kernel
theorem dX12_wrong_14 : decode cX12_wrong 14 = .ok (.aload_n 0, 1) := by decide +kernel
theorem dX12_wrong_15 : decode cX12_wrong 15 = .ok (.getfield 303, 3) := by decide +kernel
theorem dX12_wrong_18 : decode cX12_wrong 18 = .ok (.ifCond .eq 28, 3) := by decide +kernel
theorem dX12_wrong_21 : decode cX12_wrong 21 = .ok (.iload_n 3, 1) := by decide +kernel
theorem dX12_wrong_22 : decode cX12_wrong 22 = .ok (.aload_n 0, 1) := by decide +kernel
theorem dX12_wrong_23 : decode cX12_wrong 23 = .ok (.getfield 306, 3) := by decide +kernel
theorem dX12_wrong_26 : decode cX12_wrong 26 = .ok (.if_icmp .gt 19, 3) := by decide +kernel
theorem dX12_wrong_29 : decode cX12_wrong 29 = .ok (.iload_n 3, 1) := by decide +kernel
theorem dX12_wrong_30 : decode cX12_wrong 30 = .ok (.aload_n 0, 1) := by decide +kernel
theorem dX12_wrong_31 : decode cX12_wrong 31 = .ok (.getfield 306, 3) := by decide +kernel
theorem dX12_wrong_34 : decode cX12_wrong 34 = .ok (.if_icmp .ne 12, 3) := by decide +kernel
theorem dX12_wrong_37 : decode cX12_wrong 37 = .ok (.iload_n 1, 1) := by decide +kernel
theorem dX12_wrong_38 : decode cX12_wrong 38 = .ok (.aload_n 0, 1) := by decide +kernel
theorem dX12_wrong_39 : decode cX12_wrong 39 = .ok (.getfield 303, 3) := by decide +kernel
theorem dX12_wrong_42 : decode cX12_wrong 42 = .ok (.if_icmp .lt 4, 3) := by decide +kernel
theorem dX12_wrong_45 : decode cX12_wrong 45 = .ok (.return_, 1) := by decide +kernel
theorem dX12_wrong_46 : decode cX12_wrong 46 = .ok (.aload_n 0, 1) := by decide +kernel
theorem dX12_wrong_47 : decode cX12_wrong 47 = .ok (.iload_n 1, 1) := by decide +kernel
theorem dX12_wrong_48 : decode cX12_wrong 48 = .ok (.putfield 303, 3) := by decide +kernel
theorem dX12_wrong_51 : decode cX12_wrong 51 = .ok (.aload_n 0, 1) := by decide +kernel
theorem dX12_wrong_52 : decode cX12_wrong 52 = .ok (.iload_n 3, 1) := by decide +kernel
theorem dX12_wrong_53 : decode cX12_wrong 53 = .ok (.putfield 306, 3) := by decide +kernel
theorem dX12_wrong_56 : decode cX12_wrong 56 = .ok (.return_, 1) := by decide +kernel
def fX12_wrong_46  (h : MS) (x1 : Int32) (x3 : Int32) : Option (MS) :=
  oL (mSI h 15 x1) (fun h1 => oL (mSI h1 16 x3) (fun h2 => some (h2)))
set_option maxHeartbeats 4000000 in
theorem wfX12_wrong_46 {args : Array Value} (b : Bd p s m c cX12_wrong 4 RX12 D aC) (hlk : meth.locks = false) (hr : meth.sig.returnType = none) {Z : State → Prop} (zs : Z s) (zk : ZOK Z (Rg ad)) {hz : MS} {h : MS} {x1 : Int32} {x3 : Int32}  {H : Heap} {locs : List Loc} {ls : Array Slot} (hf : fX12_wrong_46 h x1 x3 = some hz) (hE : CE (EM D aC ad h) (Rg ad) s H locs) (hl : lv_has ls 4 [(0, .ref (ad 116)), (1, .int x1), (3, .int x3)]) : W p l e (RM 0 0 0 0) s m args below meth c H locs 0 0 (MQ below (PQ (EM D aC ad hz) (Rg ad) none) args s 0 0 (Rg ad)) (F0 m 46 ls []) := by
  unfold fX12_wrong_46 at hf
  refine lv_aload_n b.1 b.2.1 dX12_wrong_46 rfl (lv_at hl 0 rfl) ?_
  refine lv_iload_n b.1 b.2.1 dX12_wrong_47 rfl (lv_at hl 1 rfl) ?_
  obtain ⟨h1, eh1, hf⟩ := oL_s hf
  refine pM_303 b hE eh1 dX12_wrong_48 (fun H locs hE => ?_)
  refine lv_aload_n b.1 b.2.1 dX12_wrong_51 rfl (lv_at hl 0 rfl) ?_
  refine lv_iload_n b.1 b.2.1 dX12_wrong_52 rfl (lv_at hl 2 rfl) ?_
  obtain ⟨h2, eh2, hf⟩ := oL_s hf
  refine pM_306 b hE eh2 dX12_wrong_53 (fun H locs hE => ?_)
  cases hf
  exact k_vret b hlk hr hE (Nat.le_refl _) (Nat.le_refl _) dX12_wrong_56
def fX12_wrong_0  (h : MS) (x1 : Int32) (x2 : Int32) : Option (MS) :=
  oC (ix x2 (mlen 6)) (oL (mA h 6 (Int32.toNatClampNeg x2)) (fun y4 => if 0 < (mI h 13) then (some (h)) else (if (mI h 15) = 0 then (fX12_wrong_46  h x1 y4) else (if (mI h 16) < y4 then (some (h)) else (if y4 = (mI h 16) then (if x1 < (mI h 15) then (fX12_wrong_46  h x1 y4) else (some (h))) else (fX12_wrong_46  h x1 y4))))))
set_option maxHeartbeats 4000000 in
theorem wfX12_wrong_0 {args : Array Value} (b : Bd p s m c cX12_wrong 4 RX12 D aC) (hlk : meth.locks = false) (hr : meth.sig.returnType = none) {Z : State → Prop} (zs : Z s) (zk : ZOK Z (Rg ad)) {hz : MS} {h : MS} {x1 : Int32} {x2 : Int32}  {H : Heap} {locs : List Loc} {ls : Array Slot} (hf : fX12_wrong_0 h x1 x2 = some hz) (hE : CE (EM D aC ad h) (Rg ad) s H locs) (hl : lv_has ls 4 [(0, .ref (ad 116)), (1, .int x1), (2, .int x2)]) : W p l e (RM 0 0 0 0) s m args below meth c H locs 0 0 (MQ below (PQ (EM D aC ad hz) (Rg ad) none) args s 0 0 (Rg ad)) (F0 m 0 ls []) := by
  unfold fX12_wrong_0 at hf
  refine lv_aload_n b.1 b.2.1 dX12_wrong_0 rfl (lv_at hl 0 rfl) ?_
  refine gM_24 b hE dX12_wrong_1 ?_
  refine lv_iload_n b.1 b.2.1 dX12_wrong_4 rfl (lv_at hl 2 rfl) ?_
  obtain ⟨g3, hf⟩ := oC_s hf
  refine m_iald b hE rfl rfl g3 dX12_wrong_5 ?_
  obtain ⟨y4, ey4, hf⟩ := oL_s hf
  refine k_nmI ey4 ?_
  refine lv_istore_n (lv' := [(3, .int y4), (0, .ref (ad 116)), (1, .int x1), (2, .int x2)]) b.1 b.2.1 dX12_wrong_6 rfl hl (by decide) rfl (fun ls hl => ?_)
  have hl := lv_sub (l' := [(3, .int y4), (0, .ref (ad 116)), (1, .int x1)]) hl [0, 1, 2] rfl
  refine lv_aload_n b.1 b.2.1 dX12_wrong_7 rfl (lv_at hl 1 rfl) ?_
  refine gM_294 b hE dX12_wrong_8 ?_
  refine lv_if_gt (tgt := 45) b.1 b.2.1 dX12_wrong_11 (by decide) (fun c5 => ?_) (fun c5 => ?_)
  · have hf := oI_t c5 hf
    cases hf
    exact k_vret b hlk hr hE (Nat.le_refl _) (Nat.le_refl _) dX12_wrong_45
  · have hf := oI_f c5 hf
    refine lv_aload_n b.1 b.2.1 dX12_wrong_14 rfl (lv_at hl 1 rfl) ?_
    refine gM_303 b hE dX12_wrong_15 ?_
    refine lv_if_eq (tgt := 46) b.1 b.2.1 dX12_wrong_18 (by decide) (fun c6 => ?_) (fun c6 => ?_)
    · have hf := oI_t c6 hf
      exact wfX12_wrong_46 b hlk hr zs zk  hf hE (lv_sub hl [1, 2, 0] rfl)
    · have hf := oI_f c6 hf
      refine lv_iload_n b.1 b.2.1 dX12_wrong_21 rfl (lv_at hl 0 rfl) ?_
      refine lv_aload_n b.1 b.2.1 dX12_wrong_22 rfl (lv_at hl 1 rfl) ?_
      refine gM_306 b hE dX12_wrong_23 ?_
      refine lv_icmp_gt (tgt := 45) b.1 b.2.1 dX12_wrong_26 (by decide) (fun c7 => ?_) (fun c7 => ?_)
      · have hf := oI_t c7 hf
        cases hf
        exact k_vret b hlk hr hE (Nat.le_refl _) (Nat.le_refl _) dX12_wrong_45
      · have hf := oI_f c7 hf
        refine lv_iload_n b.1 b.2.1 dX12_wrong_29 rfl (lv_at hl 0 rfl) ?_
        refine lv_aload_n b.1 b.2.1 dX12_wrong_30 rfl (lv_at hl 1 rfl) ?_
        refine gM_306 b hE dX12_wrong_31 ?_
        refine lv_icmp_ne (tgt := 46) b.1 b.2.1 dX12_wrong_34 (by decide) (fun c8 => ?_) (fun c8 => ?_)
        · have hf := oI_f c8 hf
          exact wfX12_wrong_46 b hlk hr zs zk  hf hE (lv_sub hl [1, 2, 0] rfl)
        · have hf := oI_t c8 hf
          refine lv_iload_n b.1 b.2.1 dX12_wrong_37 rfl (lv_at hl 2 rfl) ?_
          refine lv_aload_n b.1 b.2.1 dX12_wrong_38 rfl (lv_at hl 1 rfl) ?_
          refine gM_303 b hE dX12_wrong_39 ?_
          refine lv_icmp_lt (tgt := 46) b.1 b.2.1 dX12_wrong_42 (by decide) (fun c9 => ?_) (fun c9 => ?_)
          · have hf := oI_t c9 hf
            exact wfX12_wrong_46 b hlk hr zs zk  hf hE (lv_sub hl [1, 2, 0] rfl)
          · have hf := oI_f c9 hf
            cases hf
            exact k_vret b hlk hr hE (Nat.le_refl _) (Nat.le_refl _) dX12_wrong_45
def fX12_wrong (h : MS) (x1 : Int32) (x2 : Int32) : Option (MS) := fX12_wrong_0 h x1 x2
set_option maxHeartbeats 4000000 in
theorem CX12_wrong (l : Launch) (D : va_G) (aC : Nat → ClassId) (ad : Nat → Nat) {Z : State → Prop} (zk : ZOK Z (Rg ad)) {h : MS} {x1 : Int32} {x2 : Int32} {hz : MS} (hf : fX12_wrong h x1 x2 = some hz) : CM l D aC Z yX12_wrong cX12_wrong 4 (none) 0 0 0 0 (EM D aC ad h) [.ref (ad 116), .int x1, .int x2] (EM D aC ad hz) none (Rg ad) := by
  refine CM.of rfl ?_
  intro p e s m below meth c b hr hlk hin2 zs hE
  refine k_ent (Nat.le_of_ble_eq_true rfl) (fun ls hl => ?_)
  exact wfX12_wrong_0 b hlk hr zs zk hf hE (lv_sub hl [0, 1, 2] rfl)
theorem dX12_next_0 : decode cX12_next 0 = .ok (.aload_n 0, 1) := by decide +kernel
theorem dX12_next_1 : decode cX12_next 1 = .ok (.getfield 297, 3) := by decide +kernel
theorem dX12_next_4 : decode cX12_next 4 = .ok (.sipush 1200, 3) := by decide +kernel
theorem dX12_next_7 : decode cX12_next 7 = .ok (.if_icmp .ne 11, 3) := by decide +kernel
theorem dX12_next_10 : decode cX12_next 10 = .ok (.aload_n 0, 1) := by decide +kernel
theorem dX12_next_11 : decode cX12_next 11 = .ok (.iconst 2, 1) := by decide +kernel
theorem dX12_next_12 : decode cX12_next 12 = .ok (.invokevirtual 309, 3) := by decide +kernel
theorem dX12_next_15 : decode cX12_next 15 = .ok (.goto 13, 3) := by decide +kernel
theorem dX12_next_18 : decode cX12_next 18 = .ok (.aload_n 0, 1) := by decide +kernel
theorem dX12_next_19 : decode cX12_next 19 = .ok (.dup, 1) := by decide +kernel
theorem dX12_next_20 : decode cX12_next 20 = .ok (.getfield 297, 3) := by decide +kernel
theorem dX12_next_23 : decode cX12_next 23 = .ok (.iconst 1, 1) := by decide +kernel
theorem dX12_next_24 : decode cX12_next 24 = .ok (.iadd, 1) := by decide +kernel
theorem dX12_next_25 : decode cX12_next 25 = .ok (.putfield 297, 3) := by decide +kernel
theorem dX12_next_28 : decode cX12_next 28 = .ok (.return_, 1) := by decide +kernel
def fX12_next_0  (h : MS) : Option (MS) :=
  if (mI h 11) = 1200 then (oB (fX12_fail h 2) (fun h4 => some (h4))) else (oL (mSI h 11 ((mI h 11) + 1)) (fun h2 => some (h2)))
set_option maxHeartbeats 4000000 in
theorem wfX12_next_0 {args : Array Value} (b : Bd p s m c cX12_next 1 RX12 D aC) (hlk : meth.locks = false) (hr : meth.sig.returnType = none) {Z : State → Prop} (zs : Z s) (zk : ZOK Z (Rg ad)) {hz : MS} {h : MS}  {H : Heap} {locs : List Loc} {ls : Array Slot} (hf : fX12_next_0 h = some hz) (hE : CE (EM D aC ad h) (Rg ad) s H locs) (hl : lv_has ls 1 [(0, .ref (ad 116))]) : W p l e (RM 1 21 0 0) s m args below meth c H locs 0 0 (MQ below (PQ (EM D aC ad hz) (Rg ad) none) args s 0 0 (Rg ad)) (F0 m 0 ls []) := by
  unfold fX12_next_0 at hf
  refine lv_aload_n b.1 b.2.1 dX12_next_0 rfl (lv_at hl 0 rfl) ?_
  refine gM_297 b hE dX12_next_1 ?_
  refine lv_sipush (v := 1200) b.1 b.2.1 dX12_next_4 (by decide) ?_
  refine lv_icmp_ne (tgt := 18) b.1 b.2.1 dX12_next_7 (by decide) (fun c1 => ?_) (fun c1 => ?_)
  · have hf := oI_f c1 hf
    refine lv_aload_n b.1 b.2.1 dX12_next_18 rfl (lv_at hl 0 rfl) ?_
    refine lv_dup b.1 b.2.1 dX12_next_19 rfl ?_
    refine gM_297 b hE dX12_next_20 ?_
    refine lv_iconst (v := 1) b.1 b.2.1 dX12_next_23 (by decide) ?_
    refine lv_iadd b.1 b.2.1 dX12_next_24 ?_
    obtain ⟨h2, eh2, hf⟩ := oL_s hf
    refine pM_297 b hE eh2 dX12_next_25 (fun H locs hE => ?_)
    cases hf
    exact k_vret b hlk hr hE (Nat.le_refl _) (Nat.le_refl _) dX12_next_28
  · have hf := oI_t c1 hf
    refine lv_aload_n b.1 b.2.1 dX12_next_10 rfl (lv_at hl 0 rfl) ?_
    refine lv_iconst (v := 2) b.1 b.2.1 dX12_next_11 (by decide) ?_
    obtain ⟨h4, hc3, hf⟩ := oB_s hf
    refine k_callV0 (C := RX12) b zs zk hE (CX12_fail l D aC ad zk hc3) mc_X12_fail (in7 121 rfl rfl) mi_X12_fail ms_X12_fail ini_RX12 ok_X12_fail (m_recv b hE) ⟨Nat.le_of_ble_eq_true rfl, Nat.le_of_ble_eq_true rfl⟩ rfl hl.1 rfl (k_room _ (by exact Nat.le_of_ble_eq_true rfl)) ⟨Nat.le_refl _, Nat.le_refl _⟩ dX12_next_12 (fun H locs hE => ?_)
    refine lv_goto (tgt := 28) b.1 b.2.1 dX12_next_15 (by decide) ?_
    cases hf
    exact k_vret b hlk hr hE (Nat.le_refl _) (Nat.le_refl _) dX12_next_28
def fX12_next (h : MS) : Option (MS) := fX12_next_0 h 
set_option maxHeartbeats 4000000 in
theorem CX12_next (l : Launch) (D : va_G) (aC : Nat → ClassId) (ad : Nat → Nat) {Z : State → Prop} (zk : ZOK Z (Rg ad)) {h : MS} {hz : MS} (hf : fX12_next h = some hz) : CM l D aC Z yX12_next cX12_next 1 (none) 1 21 0 0 (EM D aC ad h) [.ref (ad 116)] (EM D aC ad hz) none (Rg ad) := by
  refine CM.of rfl ?_
  intro p e s m below meth c b hr hlk hin2 zs hE
  refine k_ent (Nat.le_of_ble_eq_true rfl) (fun ls hl => ?_)
  exact wfX12_next_0 b hlk hr zs zk hf hE (lv_sub hl [0] rfl)
theorem dX12_must_0 : decode cX12_must 0 = .ok (.aload_n 0, 1) := by decide +kernel
theorem dX12_must_1 : decode cX12_must 1 = .ok (.iload_n 1, 1) := by decide +kernel
theorem dX12_must_2 : decode cX12_must 2 = .ok (.invokevirtual 312, 3) := by decide +kernel
theorem dX12_must_5 : decode cX12_must 5 = .ok (.ifCond .eq 10, 3) := by decide +kernel
theorem dX12_must_8 : decode cX12_must 8 = .ok (.aload_n 0, 1) := by decide +kernel
theorem dX12_must_9 : decode cX12_must 9 = .ok (.invokevirtual 315, 3) := by decide +kernel
theorem dX12_must_12 : decode cX12_must 12 = .ok (.goto 8, 3) := by decide +kernel
theorem dX12_must_15 : decode cX12_must 15 = .ok (.aload_n 0, 1) := by decide +kernel
theorem dX12_must_16 : decode cX12_must 16 = .ok (.iconst 1, 1) := by decide +kernel
theorem dX12_must_17 : decode cX12_must 17 = .ok (.invokevirtual 309, 3) := by decide +kernel
theorem dX12_must_20 : decode cX12_must 20 = .ok (.return_, 1) := by decide +kernel
def fX12_must_0  (h : MS) (x1 : Int32) : Option (MS) :=
  oB (fX12_is h x1) (fun r2 => if r2 = 0 then (oB (fX12_fail h 1) (fun h5 => some (h5))) else (oB (fX12_next h ) (fun h7 => some (h7))))
set_option maxHeartbeats 4000000 in
theorem wfX12_must_0 {args : Array Value} (b : Bd p s m c cX12_must 2 RX12 D aC) (hlk : meth.locks = false) (hr : meth.sig.returnType = none) {Z : State → Prop} (zs : Z s) (zk : ZOK Z (Rg ad)) {hz : MS} {h : MS} {x1 : Int32}  {H : Heap} {locs : List Loc} {ls : Array Slot} (hf : fX12_must_0 h x1 = some hz) (hE : CE (EM D aC ad h) (Rg ad) s H locs) (hl : lv_has ls 2 [(0, .ref (ad 116)), (1, .int x1)]) : W p l e (RM 2 41 0 0) s m args below meth c H locs 0 0 (MQ below (PQ (EM D aC ad hz) (Rg ad) none) args s 0 0 (Rg ad)) (F0 m 0 ls []) := by
  unfold fX12_must_0 at hf
  refine lv_aload_n b.1 b.2.1 dX12_must_0 rfl (lv_at hl 0 rfl) ?_
  refine lv_iload_n b.1 b.2.1 dX12_must_1 rfl (lv_at hl 1 rfl) ?_
  obtain ⟨r2, hc1, hf⟩ := oB_s hf
  refine k_callV0 (C := RX12) b zs zk hE (CX12_is l D aC ad zk hc1) mc_X12_is (in7 109 rfl rfl) mi_X12_is ms_X12_is ini_RX12 ok_X12_is (m_recv b hE) ⟨Nat.le_of_ble_eq_true rfl, Nat.le_of_ble_eq_true rfl⟩ rfl hl.1 rfl (k_room _ (by exact Nat.le_of_ble_eq_true rfl)) ⟨Nat.le_refl _, Nat.le_refl _⟩ dX12_must_2 (fun H locs hE => ?_)
  refine lv_if_eq (tgt := 15) b.1 b.2.1 dX12_must_5 (by decide) (fun c3 => ?_) (fun c3 => ?_)
  · have hf := oI_t c3 hf
    refine lv_aload_n b.1 b.2.1 dX12_must_15 rfl (lv_at hl 0 rfl) ?_
    refine lv_iconst (v := 1) b.1 b.2.1 dX12_must_16 (by decide) ?_
    obtain ⟨h5, hc4, hf⟩ := oB_s hf
    refine k_callV0 (C := RX12) b zs zk hE (CX12_fail l D aC ad zk hc4) mc_X12_fail (in7 121 rfl rfl) mi_X12_fail ms_X12_fail ini_RX12 ok_X12_fail (m_recv b hE) ⟨Nat.le_of_ble_eq_true rfl, Nat.le_of_ble_eq_true rfl⟩ rfl hl.1 rfl (k_room _ (by exact Nat.le_of_ble_eq_true rfl)) ⟨Nat.le_refl _, Nat.le_refl _⟩ dX12_must_17 (fun H locs hE => ?_)
    cases hf
    exact k_vret b hlk hr hE (Nat.le_refl _) (Nat.le_refl _) dX12_must_20
  · have hf := oI_f c3 hf
    refine lv_aload_n b.1 b.2.1 dX12_must_8 rfl (lv_at hl 0 rfl) ?_
    obtain ⟨h7, hc6, hf⟩ := oB_s hf
    refine k_callV0 (C := RX12) b zs zk hE (CX12_next l D aC ad zk hc6) mc_X12_next (in7 117 rfl rfl) mi_X12_next ms_X12_next ini_RX12 ok_X12_next (m_recv b hE) ⟨Nat.le_of_ble_eq_true rfl, Nat.le_of_ble_eq_true rfl⟩ rfl hl.1 rfl (k_room _ (by exact Nat.le_of_ble_eq_true rfl)) ⟨Nat.le_refl _, Nat.le_refl _⟩ dX12_must_9 (fun H locs hE => ?_)
    refine lv_goto (tgt := 20) b.1 b.2.1 dX12_must_12 (by decide) ?_
    cases hf
    exact k_vret b hlk hr hE (Nat.le_refl _) (Nat.le_refl _) dX12_must_20
def fX12_must (h : MS) (x1 : Int32) : Option (MS) := fX12_must_0 h x1
set_option maxHeartbeats 4000000 in
theorem CX12_must (l : Launch) (D : va_G) (aC : Nat → ClassId) (ad : Nat → Nat) {Z : State → Prop} (zk : ZOK Z (Rg ad)) {h : MS} {x1 : Int32} {hz : MS} (hf : fX12_must h x1 = some hz) : CM l D aC Z yX12_must cX12_must 2 (none) 2 41 0 0 (EM D aC ad h) [.ref (ad 116), .int x1] (EM D aC ad hz) none (Rg ad) := by
  refine CM.of rfl ?_
  intro p e s m below meth c b hr hlk hin2 zs hE
  refine k_ent (Nat.le_of_ble_eq_true rfl) (fun ls hl => ?_)
  exact wfX12_must_0 b hlk hr zs zk hf hE (lv_sub hl [0, 1] rfl)
end
