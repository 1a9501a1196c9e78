section
variable {p : Program} {l : Launch} {e : Env} {s : State} {m : MethodId} {below : List Frame} {meth : Method} {c : Code} {D : va_G} {aC : Nat → ClassId} {ad : Nat → Nat}
theorem dX12_read_0 : decode cX12_read 0 = .ok (.aload_n 0, 1) := by decide +kernel
theorem dX12_read_1 : decode cX12_read 1 = .ok (.aload_n 0, 1) := by decide +kernel
theorem dX12_read_2 : decode cX12_read 2 = .ok (.getfield 256, 3) := by decide +kernel
theorem dX12_read_5 : decode cX12_read 5 = .ok (.putfield 263, 3) := by decide +kernel
theorem dX12_read_8 : decode cX12_read 8 = .ok (.iconst 0, 1) := by decide +kernel
theorem dX12_read_9 : decode cX12_read 9 = .ok (.istore_n 1, 1) := by decide +kernel
theorem dX12_read_10 : decode cX12_read 10 = .ok (.iload_n 1, 1) := by decide +kernel
theorem dX12_read_11 : decode cX12_read 11 = .ok (.aload_n 0, 1) := by decide +kernel
theorem dX12_read_12 : decode cX12_read 12 = .ok (.getfield 263, 3) := by decide +kernel
theorem dX12_read_15 : decode cX12_read 15 = .ok (.if_icmp .ge 21, 3) := by decide +kernel
theorem dX12_read_18 : decode cX12_read 18 = .ok (.aload_n 0, 1) := by decide +kernel
theorem dX12_read_19 : decode cX12_read 19 = .ok (.getfield 17, 3) := by decide +kernel
theorem dX12_read_22 : decode cX12_read 22 = .ok (.iload_n 1, 1) := by decide +kernel
theorem dX12_read_23 : decode cX12_read 23 = .ok (.aload_n 0, 1) := by decide +kernel
theorem dX12_read_24 : decode cX12_read 24 = .ok (.getfield 13, 3) := by decide +kernel
theorem dX12_read_27 : decode cX12_read 27 = .ok (.iload_n 1, 1) := by decide +kernel
theorem dX12_read_28 : decode cX12_read 28 = .ok (.baload, 1) := by decide +kernel
theorem dX12_read_29 : decode cX12_read 29 = .ok (.bastore, 1) := by decide +kernel
theorem dX12_read_30 : decode cX12_read 30 = .ok (.iinc 1 1, 3) := by decide +kernel
theorem dX12_read_33 : decode cX12_read 33 = .ok (.goto (-23), 3) := by decide +kernel
theorem dX12_read_36 : decode cX12_read 36 = .ok (.aload_n 0, 1) := by decide +kernel
theorem dX12_read_37 : decode cX12_read 37 = .ok (.iconst 0, 1) := by decide +kernel
theorem dX12_read_38 : decode cX12_read 38 = .ok (.putfield 256, 3) := by decide +kernel
theorem dX12_read_41 : decode cX12_read 41 = .ok (.aload_n 0, 1) := by decide +kernel
theorem dX12_read_42 : decode cX12_read 42 = .ok (.invokevirtual 329, 3) := by decide +kernel
theorem dX12_read_45 : decode cX12_read 45 = .ok (.aload_n 0, 1) := by decide +kernel
theorem dX12_read_46 : decode cX12_read 46 = .ok (.iconst 0, 1) := by decide +kernel
theorem dX12_read_47 : decode cX12_read 47 = .ok (.putfield 297, 3) := by decide +kernel
theorem dX12_read_50 : decode cX12_read 50 = .ok (.aload_n 0, 1) := by decide +kernel
theorem dX12_read_51 : decode cX12_read 51 = .ok (.iconst 0, 1) := by decide +kernel
theorem dX12_read_52 : decode cX12_read 52 = .ok (.putfield 332, 3) := by decide +kernel
theorem dX12_read_55 : decode cX12_read 55 = .ok (.aload_n 0, 1) := by decide +kernel
theorem dX12_read_56 : decode cX12_read 56 = .ok (.iconst 0, 1) := by decide +kernel
theorem dX12_read_57 : decode cX12_read 57 = .ok (.putfield 294, 3) := by decide +kernel
theorem dX12_read_60 : decode cX12_read 60 = .ok (.aload_n 0, 1) := by decide +kernel
theorem dX12_read_61 : decode cX12_read 61 = .ok (.iconst 0, 1) := by decide +kernel
theorem dX12_read_62 : decode cX12_read 62 = .ok (.putfield 303, 3) := by decide +kernel
theorem dX12_read_65 : decode cX12_read 65 = .ok (.aload_n 0, 1) := by decide +kernel
theorem dX12_read_66 : decode cX12_read 66 = .ok (.iconst 0, 1) := by decide +kernel
theorem dX12_read_67 : decode cX12_read 67 = .ok (.putfield 335, 3) := by decide +kernel
theorem dX12_read_70 : decode cX12_read 70 = .ok (.aload_n 0, 1) := by decide +kernel
theorem dX12_read_71 : decode cX12_read 71 = .ok (.getfield 338, 3) := by decide +kernel
theorem dX12_read_74 : decode cX12_read 74 = .ok (.istore_n 1, 1) := by decide +kernel
theorem dX12_read_75 : decode cX12_read 75 = .ok (.aload_n 0, 1) := by decide +kernel
theorem dX12_read_76 : decode cX12_read 76 = .ok (.getfield 341, 3) := by decide +kernel
theorem dX12_read_79 : decode cX12_read 79 = .ok (.istore_n 2, 1) := by decide +kernel
theorem dX12_read_80 : decode cX12_read 80 = .ok (.aload_n 0, 1) := by decide +kernel
theorem dX12_read_81 : decode cX12_read 81 = .ok (.getfield 344, 3) := by decide +kernel
theorem dX12_read_84 : decode cX12_read 84 = .ok (.istore_n 3, 1) := by decide +kernel
theorem dX12_read_85 : decode cX12_read 85 = .ok (.aload_n 0, 1) := by decide +kernel
theorem dX12_read_86 : decode cX12_read 86 = .ok (.getfield 347, 3) := by decide +kernel
theorem dX12_read_89 : decode cX12_read 89 = .ok (.istore 4, 2) := by decide +kernel
theorem dX12_read_91 : decode cX12_read 91 = .ok (.aload_n 0, 1) := by decide +kernel
theorem dX12_read_92 : decode cX12_read 92 = .ok (.getfield 350, 3) := by decide +kernel
theorem dX12_read_95 : decode cX12_read 95 = .ok (.istore 5, 2) := by decide +kernel
theorem dX12_read_97 : decode cX12_read 97 = .ok (.aload_n 0, 1) := by decide +kernel
theorem dX12_read_98 : decode cX12_read 98 = .ok (.getfield 353, 3) := by decide +kernel
theorem dX12_read_101 : decode cX12_read 101 = .ok (.istore 6, 2) := by decide +kernel
theorem dX12_read_103 : decode cX12_read 103 = .ok (.aload_n 0, 1) := by decide +kernel
theorem dX12_read_104 : decode cX12_read 104 = .ok (.getfield 356, 3) := by decide +kernel
theorem dX12_read_107 : decode cX12_read 107 = .ok (.istore 7, 2) := by decide +kernel
theorem dX12_read_109 : decode cX12_read 109 = .ok (.aload_n 0, 1) := by decide +kernel
theorem dX12_read_110 : decode cX12_read 110 = .ok (.getfield 294, 3) := by decide +kernel
theorem dX12_read_113 : decode cX12_read 113 = .ok (.ifCond .ne 18, 3) := by decide +kernel
theorem dX12_read_116 : decode cX12_read 116 = .ok (.aload_n 0, 1) := by decide +kernel
theorem dX12_read_117 : decode cX12_read 117 = .ok (.iconst 0, 1) := by decide +kernel
theorem dX12_read_118 : decode cX12_read 118 = .ok (.invokevirtual 312, 3) := by decide +kernel
theorem dX12_read_121 : decode cX12_read 121 = .ok (.ifCond .ne 10, 3) := by decide +kernel
theorem dX12_read_124 : decode cX12_read 124 = .ok (.aload_n 0, 1) := by decide +kernel
theorem dX12_read_125 : decode cX12_read 125 = .ok (.invokevirtual 359, 3) := by decide +kernel
theorem dX12_read_128 : decode cX12_read 128 = .ok (.goto (-19), 3) := by decide +kernel
theorem dX12_read_131 : decode cX12_read 131 = .ok (.aload_n 0, 1) := by decide +kernel
theorem dX12_read_132 : decode cX12_read 132 = .ok (.getfield 294, 3) := by decide +kernel
theorem dX12_read_135 : decode cX12_read 135 = .ok (.ifCond .ne 27, 3) := by decide +kernel
theorem dX12_read_138 : decode cX12_read 138 = .ok (.iconst 0, 1) := by decide +kernel
theorem dX12_read_139 : decode cX12_read 139 = .ok (.istore 8, 2) := by decide +kernel
theorem dX12_read_141 : decode cX12_read 141 = .ok (.iload 8, 2) := by decide +kernel
theorem dX12_read_143 : decode cX12_read 143 = .ok (.aload_n 0, 1) := by decide +kernel
theorem dX12_read_144 : decode cX12_read 144 = .ok (.getfield 335, 3) := by decide +kernel
theorem dX12_read_147 : decode cX12_read 147 = .ok (.if_icmp .ge 15, 3) := by decide +kernel
theorem dX12_read_150 : decode cX12_read 150 = .ok (.aload_n 0, 1) := by decide +kernel
theorem dX12_read_151 : decode cX12_read 151 = .ok (.iload 8, 2) := by decide +kernel
theorem dX12_read_153 : decode cX12_read 153 = .ok (.invokevirtual 362, 3) := by decide +kernel
theorem dX12_read_156 : decode cX12_read 156 = .ok (.iinc 8 2, 3) := by decide +kernel
theorem dX12_read_159 : decode cX12_read 159 = .ok (.goto (-18), 3) := by decide +kernel
theorem dX12_read_162 : decode cX12_read 162 = .ok (.aload_n 0, 1) := by decide +kernel
theorem dX12_read_163 : decode cX12_read 163 = .ok (.iconst (-1), 1) := by decide +kernel
theorem dX12_read_164 : decode cX12_read 164 = .ok (.putfield 37, 3) := by decide +kernel
theorem dX12_read_167 : decode cX12_read 167 = .ok (.aload_n 0, 1) := by decide +kernel
theorem dX12_read_168 : decode cX12_read 168 = .ok (.getfield 294, 3) := by decide +kernel
theorem dX12_read_171 : decode cX12_read 171 = .ok (.ifCond .ne 12, 3) := by decide +kernel
theorem dX12_read_174 : decode cX12_read 174 = .ok (.aload_n 0, 1) := by decide +kernel
theorem dX12_read_175 : decode cX12_read 175 = .ok (.getfield 303, 3) := by decide +kernel
theorem dX12_read_178 : decode cX12_read 178 = .ok (.ifCond .ne 5, 3) := by decide +kernel
theorem dX12_read_181 : decode cX12_read 181 = .ok (.iconst 0, 1) := by decide +kernel
theorem dX12_read_182 : decode cX12_read 182 = .ok (.ireturn, 1) := by decide +kernel
theorem dX12_read_183 : decode cX12_read 183 = .ok (.aload_n 0, 1) := by decide +kernel
theorem dX12_read_184 : decode cX12_read 184 = .ok (.iload_n 1, 1) := by decide +kernel
theorem dX12_read_185 : decode cX12_read 185 = .ok (.putfield 338, 3) := by decide +kernel
theorem dX12_read_188 : decode cX12_read 188 = .ok (.aload_n 0, 1) := by decide +kernel
theorem dX12_read_189 : decode cX12_read 189 = .ok (.iload_n 2, 1) := by decide +kernel
theorem dX12_read_190 : decode cX12_read 190 = .ok (.putfield 341, 3) := by decide +kernel
theorem dX12_read_193 : decode cX12_read 193 = .ok (.aload_n 0, 1) := by decide +kernel
theorem dX12_read_194 : decode cX12_read 194 = .ok (.iload_n 3, 1) := by decide +kernel
theorem dX12_read_195 : decode cX12_read 195 = .ok (.putfield 344, 3) := by decide +kernel
theorem dX12_read_198 : decode cX12_read 198 = .ok (.aload_n 0, 1) := by decide +kernel
theorem dX12_read_199 : decode cX12_read 199 = .ok (.iload 4, 2) := by decide +kernel
theorem dX12_read_201 : decode cX12_read 201 = .ok (.putfield 347, 3) := by decide +kernel
theorem dX12_read_204 : decode cX12_read 204 = .ok (.aload_n 0, 1) := by decide +kernel
theorem dX12_read_205 : decode cX12_read 205 = .ok (.iload 5, 2) := by decide +kernel
theorem dX12_read_207 : decode cX12_read 207 = .ok (.putfield 350, 3) := by decide +kernel
theorem dX12_read_210 : decode cX12_read 210 = .ok (.aload_n 0, 1) := by decide +kernel
theorem dX12_read_211 : decode cX12_read 211 = .ok (.iload 6, 2) := by decide +kernel
theorem dX12_read_213 : decode cX12_read 213 = .ok (.putfield 353, 3) := by decide +kernel
theorem dX12_read_216 : decode cX12_read 216 = .ok (.aload_n 0, 1) := by decide +kernel
theorem dX12_read_217 : decode cX12_read 217 = .ok (.iload 7, 2) := by decide +kernel
theorem dX12_read_219 : decode cX12_read 219 = .ok (.putfield 356, 3) := by decide +kernel
theorem dX12_read_222 : decode cX12_read 222 = .ok (.aload_n 0, 1) := by decide +kernel
theorem dX12_read_223 : decode cX12_read 223 = .ok (.aload_n 0, 1) := by decide +kernel
theorem dX12_read_224 : decode cX12_read 224 = .ok (.getfield 294, 3) := by decide +kernel
theorem dX12_read_227 : decode cX12_read 227 = .ok (.ifCond .le 10, 3) := by decide +kernel
theorem dX12_read_230 : decode cX12_read 230 = .ok (.aload_n 0, 1) := by decide +kernel
theorem dX12_read_231 : decode cX12_read 231 = .ok (.getfield 300, 3) := by decide +kernel
theorem dX12_read_234 : decode cX12_read 234 = .ok (.goto 7, 3) := by decide +kernel
theorem dX12_read_237 : decode cX12_read 237 = .ok (.aload_n 0, 1) := by decide +kernel
theorem dX12_read_238 : decode cX12_read 238 = .ok (.getfield 306, 3) := by decide +kernel
theorem dX12_read_241 : decode cX12_read 241 = .ok (.putfield 37, 3) := by decide +kernel
theorem dX12_read_244 : decode cX12_read 244 = .ok (.aload_n 0, 1) := by decide +kernel
theorem dX12_read_245 : decode cX12_read 245 = .ok (.getfield 294, 3) := by decide +kernel
theorem dX12_read_248 : decode cX12_read 248 = .ok (.ifCond .le 10, 3) := by decide +kernel
theorem dX12_read_251 : decode cX12_read 251 = .ok (.aload_n 0, 1) := by decide +kernel
theorem dX12_read_252 : decode cX12_read 252 = .ok (.getfield 294, 3) := by decide +kernel
theorem dX12_read_255 : decode cX12_read 255 = .ok (.goto 7, 3) := by decide +kernel
theorem dX12_read_258 : decode cX12_read 258 = .ok (.aload_n 0, 1) := by decide +kernel
theorem dX12_read_259 : decode cX12_read 259 = .ok (.getfield 303, 3) := by decide +kernel
theorem dX12_read_262 : decode cX12_read 262 = .ok (.ireturn, 1) := by decide +kernel
def fX12_read_241  (h : MS) (s0 : Int32) : Option (MS × Int32) :=
  oL (mSI h 17 s0) (fun h1 => if (mI h1 13) ≤ 0 then (some (h1, (mI h1 15))) else (some (h1, (mI h1 13))))
set_option maxHeartbeats 4000000 in
theorem wfX12_read_241 {args : Array Value} (b : Bd p s m c cX12_read 9 RX12 D aC) (hlk : meth.locks = false) (hr : meth.sig.returnType = some .int) {Z : State → Prop} (zs : Z s) (zk : ZOK Z (Rg ad)) {hz : MS} {rz : Int32} {h : MS} {s0 : Int32}  {H : Heap} {locs : List Loc} {ls : Array Slot} (hf : fX12_read_241 h s0 = some (hz, rz)) (hE : CE (EM D aC ad h) (Rg ad) s H locs) (hl : lv_has ls 9 [(0, .ref (ad 116))]) : W p l e (RM 10 224 0 0) s m args below meth c H locs 0 0 (MQ below (PQ (EM D aC ad hz) (Rg ad) (some (.int rz))) args s 0 0 (Rg ad)) (F0 m 241 ls [.int s0, .ref (ad 116)]) := by
  unfold fX12_read_241 at hf
  obtain ⟨h1, eh1, hf⟩ := oL_s hf
  refine pM_37 b hE eh1 dX12_read_241 (fun H locs hE => ?_)
  refine lv_aload_n b.1 b.2.1 dX12_read_244 rfl (lv_at hl 0 rfl) ?_
  refine gM_294 b hE dX12_read_245 ?_
  refine lv_if_le (tgt := 258) b.1 b.2.1 dX12_read_248 (by decide) (fun c2 => ?_) (fun c2 => ?_)
  · have hf := oI_t c2 hf
    refine lv_aload_n b.1 b.2.1 dX12_read_258 rfl (lv_at hl 0 rfl) ?_
    refine gM_303 b hE dX12_read_259 ?_
    cases hf
    exact k_iret b hlk hr hE (Nat.le_refl _) (Nat.le_refl _) dX12_read_262
  · have hf := oI_f c2 hf
    refine lv_aload_n b.1 b.2.1 dX12_read_251 rfl (lv_at hl 0 rfl) ?_
    refine gM_294 b hE dX12_read_252 ?_
    refine lv_goto (tgt := 262) b.1 b.2.1 dX12_read_255 (by decide) ?_
    cases hf
    exact k_iret b hlk hr hE (Nat.le_refl _) (Nat.le_refl _) dX12_read_262
def fX12_read_183  (h : MS) (x1 : Int32) (x2 : Int32) (x3 : Int32) (x4 : Int32) (x5 : Int32) (x6 : Int32) (x7 : Int32) : Option (MS × Int32) :=
  oL (mSI h 18 x1) (fun h3 => oL (mSI h3 19 x2) (fun h4 => oL (mSI h4 20 x3) (fun h5 => oL (mSI h5 21 x4) (fun h6 => oL (mSI h6 22 x5) (fun h7 => oL (mSI h7 23 x6) (fun h8 => oL (mSI h8 24 x7) (fun h9 => if (mI h9 13) ≤ 0 then (fX12_read_241  h9 (mI h9 16)) else (fX12_read_241  h9 (mI h9 14)))))))))
set_option maxHeartbeats 4000000 in
theorem wfX12_read_183 {args : Array Value} (b : Bd p s m c cX12_read 9 RX12 D aC) (hlk : meth.locks = false) (hr : meth.sig.returnType = some .int) {Z : State → Prop} (zs : Z s) (zk : ZOK Z (Rg ad)) {hz : MS} {rz : Int32} {h : MS} {x1 : Int32} {x2 : Int32} {x3 : Int32} {x4 : Int32} {x5 : Int32} {x6 : Int32} {x7 : Int32}  {H : Heap} {locs : List Loc} {ls : Array Slot} (hf : fX12_read_183 h x1 x2 x3 x4 x5 x6 x7 = some (hz, rz)) (hE : CE (EM D aC ad h) (Rg ad) s H locs) (hl : lv_has ls 9 [(0, .ref (ad 116)), (1, .int x1), (2, .int x2), (3, .int x3), (4, .int x4), (5, .int x5), (6, .int x6), (7, .int x7)]) : W p l e (RM 10 224 0 0) s m args below meth c H locs 0 0 (MQ below (PQ (EM D aC ad hz) (Rg ad) (some (.int rz))) args s 0 0 (Rg ad)) (F0 m 183 ls []) := by
  unfold fX12_read_183 at hf
  refine lv_aload_n b.1 b.2.1 dX12_read_183 rfl (lv_at hl 0 rfl) ?_
  refine lv_iload_n b.1 b.2.1 dX12_read_184 rfl (lv_at hl 1 rfl) ?_
  obtain ⟨h3, eh3, hf⟩ := oL_s hf
  refine pM_338 b hE eh3 dX12_read_185 (fun H locs hE => ?_)
  refine lv_aload_n b.1 b.2.1 dX12_read_188 rfl (lv_at hl 0 rfl) ?_
  refine lv_iload_n b.1 b.2.1 dX12_read_189 rfl (lv_at hl 2 rfl) ?_
  obtain ⟨h4, eh4, hf⟩ := oL_s hf
  refine pM_341 b hE eh4 dX12_read_190 (fun H locs hE => ?_)
  refine lv_aload_n b.1 b.2.1 dX12_read_193 rfl (lv_at hl 0 rfl) ?_
  refine lv_iload_n b.1 b.2.1 dX12_read_194 rfl (lv_at hl 3 rfl) ?_
  obtain ⟨h5, eh5, hf⟩ := oL_s hf
  refine pM_344 b hE eh5 dX12_read_195 (fun H locs hE => ?_)
  refine lv_aload_n b.1 b.2.1 dX12_read_198 rfl (lv_at hl 0 rfl) ?_
  refine lv_iload b.1 b.2.1 dX12_read_199 (lv_at hl 4 rfl) ?_
  obtain ⟨h6, eh6, hf⟩ := oL_s hf
  refine pM_347 b hE eh6 dX12_read_201 (fun H locs hE => ?_)
  refine lv_aload_n b.1 b.2.1 dX12_read_204 rfl (lv_at hl 0 rfl) ?_
  refine lv_iload b.1 b.2.1 dX12_read_205 (lv_at hl 5 rfl) ?_
  obtain ⟨h7, eh7, hf⟩ := oL_s hf
  refine pM_350 b hE eh7 dX12_read_207 (fun H locs hE => ?_)
  refine lv_aload_n b.1 b.2.1 dX12_read_210 rfl (lv_at hl 0 rfl) ?_
  refine lv_iload b.1 b.2.1 dX12_read_211 (lv_at hl 6 rfl) ?_
  obtain ⟨h8, eh8, hf⟩ := oL_s hf
  refine pM_353 b hE eh8 dX12_read_213 (fun H locs hE => ?_)
  refine lv_aload_n b.1 b.2.1 dX12_read_216 rfl (lv_at hl 0 rfl) ?_
  refine lv_iload b.1 b.2.1 dX12_read_217 (lv_at hl 7 rfl) ?_
  obtain ⟨h9, eh9, hf⟩ := oL_s hf
  refine pM_356 b hE eh9 dX12_read_219 (fun H locs hE => ?_)
  refine lv_aload_n b.1 b.2.1 dX12_read_222 rfl (lv_at hl 0 rfl) ?_
  refine lv_aload_n b.1 b.2.1 dX12_read_223 rfl (lv_at hl 0 rfl) ?_
  refine gM_294 b hE dX12_read_224 ?_
  refine lv_if_le (tgt := 237) b.1 b.2.1 dX12_read_227 (by decide) (fun c10 => ?_) (fun c10 => ?_)
  · have hf := oI_t c10 hf
    refine lv_aload_n b.1 b.2.1 dX12_read_237 rfl (lv_at hl 0 rfl) ?_
    refine gM_306 b hE dX12_read_238 ?_
    exact wfX12_read_241 b hlk hr zs zk  hf hE (lv_sub hl [0] rfl)
  · have hf := oI_f c10 hf
    refine lv_aload_n b.1 b.2.1 dX12_read_230 rfl (lv_at hl 0 rfl) ?_
    refine gM_300 b hE dX12_read_231 ?_
    refine lv_goto (tgt := 241) b.1 b.2.1 dX12_read_234 (by decide) ?_
    exact wfX12_read_241 b hlk hr zs zk  hf hE (lv_sub hl [0] rfl)
def fX12_read_162  (h : MS) (x1 : Int32) (x2 : Int32) (x3 : Int32) (x4 : Int32) (x5 : Int32) (x6 : Int32) (x7 : Int32) : Option (MS × Int32) :=
  oL (mSI h 17 (-1)) (fun h11 => if (mI h11 13) = 0 then (if (mI h11 15) = 0 then (some (h11, 0)) else (fX12_read_183  h11 x1 x2 x3 x4 x5 x6 x7)) else (fX12_read_183  h11 x1 x2 x3 x4 x5 x6 x7))
set_option maxHeartbeats 4000000 in
theorem wfX12_read_162 {args : Array Value} (b : Bd p s m c cX12_read 9 RX12 D aC) (hlk : meth.locks = false) (hr : meth.sig.returnType = some .int) {Z : State → Prop} (zs : Z s) (zk : ZOK Z (Rg ad)) {hz : MS} {rz : Int32} {h : MS} {x1 : Int32} {x2 : Int32} {x3 : Int32} {x4 : Int32} {x5 : Int32} {x6 : Int32} {x7 : Int32}  {H : Heap} {locs : List Loc} {ls : Array Slot} (hf : fX12_read_162 h x1 x2 x3 x4 x5 x6 x7 = some (hz, rz)) (hE : CE (EM D aC ad h) (Rg ad) s H locs) (hl : lv_has ls 9 [(0, .ref (ad 116)), (1, .int x1), (2, .int x2), (3, .int x3), (4, .int x4), (5, .int x5), (6, .int x6), (7, .int x7)]) : W p l e (RM 10 224 0 0) s m args below meth c H locs 0 0 (MQ below (PQ (EM D aC ad hz) (Rg ad) (some (.int rz))) args s 0 0 (Rg ad)) (F0 m 162 ls []) := by
  unfold fX12_read_162 at hf
  refine lv_aload_n b.1 b.2.1 dX12_read_162 rfl (lv_at hl 0 rfl) ?_
  refine lv_iconst (v := (-1)) b.1 b.2.1 dX12_read_163 (by decide) ?_
  obtain ⟨h11, eh11, hf⟩ := oL_s hf
  refine pM_37 b hE eh11 dX12_read_164 (fun H locs hE => ?_)
  refine lv_aload_n b.1 b.2.1 dX12_read_167 rfl (lv_at hl 0 rfl) ?_
  refine gM_294 b hE dX12_read_168 ?_
  refine lv_if_ne (tgt := 183) b.1 b.2.1 dX12_read_171 (by decide) (fun c12 => ?_) (fun c12 => ?_)
  · have hf := oI_f c12 hf
    exact wfX12_read_183 b hlk hr zs zk  hf hE (lv_sub hl [0, 1, 2, 3, 4, 5, 6, 7] rfl)
  · have hf := oI_t c12 hf
    refine lv_aload_n b.1 b.2.1 dX12_read_174 rfl (lv_at hl 0 rfl) ?_
    refine gM_303 b hE dX12_read_175 ?_
    refine lv_if_ne (tgt := 183) b.1 b.2.1 dX12_read_178 (by decide) (fun c13 => ?_) (fun c13 => ?_)
    · have hf := oI_f c13 hf
      exact wfX12_read_183 b hlk hr zs zk  hf hE (lv_sub hl [0, 1, 2, 3, 4, 5, 6, 7] rfl)
    · have hf := oI_t c13 hf
      refine lv_iconst (v := 0) b.1 b.2.1 dX12_read_181 (by decide) ?_
      cases hf
      exact k_iret b hlk hr hE (Nat.le_refl _) (Nat.le_refl _) dX12_read_182
def fX12_read_141F (k141 : MS → Int32 → Int32 → Int32 → Int32 → Int32 → Int32 → Int32 → Int32 → Option (MS × Int32)) (h : MS) (x1 : Int32) (x2 : Int32) (x3 : Int32) (x4 : Int32) (x5 : Int32) (x6 : Int32) (x7 : Int32) (x8 : Int32) : Option (MS × Int32) :=
  if (mI h 63) ≤ x8 then (fX12_read_162  h x1 x2 x3 x4 x5 x6 x7) else (oB (fX12_joins h x8) (fun h16 => oL (x8 + 2) (fun y17 => k141 h16 x1 x2 x3 x4 x5 x6 x7 y17)))
set_option maxHeartbeats 4000000 in
theorem wfX12_read_141F {args : Array Value} (b : Bd p s m c cX12_read 9 RX12 D aC) (hlk : meth.locks = false) (hr : meth.sig.returnType = some .int) {Z : State → Prop} (zs : Z s) (zk : ZOK Z (Rg ad)) {hz : MS} {rz : Int32} {k141 : MS → Int32 → Int32 → Int32 → Int32 → Int32 → Int32 → Int32 → Int32 → Option (MS × Int32)} (H141 : ∀ (h : MS) (x1 : Int32) (x2 : Int32) (x3 : Int32) (x4 : Int32) (x5 : Int32) (x6 : Int32) (x7 : Int32) (x8 : Int32), ∀ (H : Heap) (locs : List Loc) (ls : Array Slot), k141 h x1 x2 x3 x4 x5 x6 x7 x8 = some (hz, rz) → CE (EM D aC ad h) (Rg ad) s H locs → lv_has ls 9 [(0, .ref (ad 116)), (1, .int x1), (2, .int x2), (3, .int x3), (4, .int x4), (5, .int x5), (6, .int x6), (7, .int x7), (8, .int x8)] → W p l e (RM 10 224 0 0) s m args below meth c H locs 0 0 (MQ below (PQ (EM D aC ad hz) (Rg ad) (some (.int rz))) args s 0 0 (Rg ad)) (F0 m 141 ls [])) {h : MS} {x1 : Int32} {x2 : Int32} {x3 : Int32} {x4 : Int32} {x5 : Int32} {x6 : Int32} {x7 : Int32} {x8 : Int32}  {H : Heap} {locs : List Loc} {ls : Array Slot} (hf : fX12_read_141F k141 h x1 x2 x3 x4 x5 x6 x7 x8 = some (hz, rz)) (hE : CE (EM D aC ad h) (Rg ad) s H locs) (hl : lv_has ls 9 [(0, .ref (ad 116)), (1, .int x1), (2, .int x2), (3, .int x3), (4, .int x4), (5, .int x5), (6, .int x6), (7, .int x7), (8, .int x8)]) : W p l e (RM 10 224 0 0) s m args below meth c H locs 0 0 (MQ below (PQ (EM D aC ad hz) (Rg ad) (some (.int rz))) args s 0 0 (Rg ad)) (F0 m 141 ls []) := by
  unfold fX12_read_141F at hf
  refine lv_iload b.1 b.2.1 dX12_read_141 (lv_at hl 8 rfl) ?_
  refine lv_aload_n b.1 b.2.1 dX12_read_143 rfl (lv_at hl 0 rfl) ?_
  refine gM_335 b hE dX12_read_144 ?_
  refine lv_icmp_ge (tgt := 162) b.1 b.2.1 dX12_read_147 (by decide) (fun c14 => ?_) (fun c14 => ?_)
  · have hf := oI_t c14 hf
    exact wfX12_read_162 b hlk hr zs zk  hf hE (lv_sub hl [0, 1, 2, 3, 4, 5, 6, 7] rfl)
  · have hf := oI_f c14 hf
    refine lv_aload_n b.1 b.2.1 dX12_read_150 rfl (lv_at hl 0 rfl) ?_
    refine lv_iload b.1 b.2.1 dX12_read_151 (lv_at hl 8 rfl) ?_
    obtain ⟨h16, hc15, hf⟩ := oB_s hf
    refine k_callV0 (C := RX12) b zs zk hE (CX12_joins l D aC ad zk hc15) mc_X12_joins (in7 196 rfl rfl) mi_X12_joins ms_X12_joins ini_RX12 ok_X12_joins (m_recv b hE) ⟨Nat.le_of_ble_eq_true rfl, Nat.le_of_ble_eq_true rfl⟩ rfl hl.1 rfl (k_room _ (by exact Nat.le_of_ble_eq_true rfl)) ⟨Nat.le_refl _, Nat.le_refl _⟩ dX12_read_153 (fun H locs hE => ?_)
    obtain ⟨y17, ey17, hf⟩ := oL_s hf
    refine lv_iinc (v := y17) (lv' := [(8, .int y17), (0, .ref (ad 116)), (1, .int x1), (2, .int x2), (3, .int x3), (4, .int x4), (5, .int x5), (6, .int x6), (7, .int x7)]) b.1 b.2.1 dX12_read_156 hl (k := 8) rfl (by rw [ey17]; rfl) (by decide) rfl (fun ls hl => ?_)
    refine lv_goto (tgt := 141) b.1 b.2.1 dX12_read_159 (by decide) ?_
    exact H141 h16 x1 x2 x3 x4 x5 x6 x7 y17 _ _ _ hf hE (lv_sub hl [1, 2, 3, 4, 5, 6, 7, 8, 0] rfl)
def fX12_read_141  : Nat → MS → Int32 → Int32 → Int32 → Int32 → Int32 → Int32 → Int32 → Int32 → Option (MS × Int32)
  | 0 => fun _ _ _ _ _ _ _ _ _ => none
  | n + 1 => fX12_read_141F  (fX12_read_141  n)
set_option maxHeartbeats 4000000 in
theorem wfX12_read_141 {args : Array Value} (b : Bd p s m c cX12_read 9 RX12 D aC) (hlk : meth.locks = false) (hr : meth.sig.returnType = some .int) {Z : State → Prop} (zs : Z s) (zk : ZOK Z (Rg ad)) {hz : MS} {rz : Int32} : ∀ n : Nat, ∀ (h : MS) (x1 : Int32) (x2 : Int32) (x3 : Int32) (x4 : Int32) (x5 : Int32) (x6 : Int32) (x7 : Int32) (x8 : Int32), ∀ (H : Heap) (locs : List Loc) (ls : Array Slot), fX12_read_141  n h x1 x2 x3 x4 x5 x6 x7 x8 = some (hz, rz) → CE (EM D aC ad h) (Rg ad) s H locs → lv_has ls 9 [(0, .ref (ad 116)), (1, .int x1), (2, .int x2), (3, .int x3), (4, .int x4), (5, .int x5), (6, .int x6), (7, .int x7), (8, .int x8)] → W p l e (RM 10 224 0 0) s m args below meth c H locs 0 0 (MQ below (PQ (EM D aC ad hz) (Rg ad) (some (.int rz))) args s 0 0 (Rg ad)) (F0 m 141 ls []) := by
  intro n
  induction n with
  | zero =>
    intro h x1 x2 x3 x4 x5 x6 x7 x8 H locs ls hf
    have hf : (none : Option (MS × Int32)) = some _ := hf
    cases hf
  | succ n ih =>
    intro h x1 x2 x3 x4 x5 x6 x7 x8 H locs ls hf hE hl
    exact wfX12_read_141F b hlk hr zs zk  ih hf hE hl
def fX12_read_131  (h : MS) (x1 : Int32) (x2 : Int32) (x3 : Int32) (x4 : Int32) (x5 : Int32) (x6 : Int32) (x7 : Int32) : Option (MS × Int32) :=
  if (mI h 13) = 0 then (fX12_read_141  FU h x1 x2 x3 x4 x5 x6 x7 0) else (fX12_read_162  h x1 x2 x3 x4 x5 x6 x7)
set_option maxHeartbeats 4000000 in
theorem wfX12_read_131 {args : Array Value} (b : Bd p s m c cX12_read 9 RX12 D aC) (hlk : meth.locks = false) (hr : meth.sig.returnType = some .int) {Z : State → Prop} (zs : Z s) (zk : ZOK Z (Rg ad)) {hz : MS} {rz : Int32} {h : MS} {x1 : Int32} {x2 : Int32} {x3 : Int32} {x4 : Int32} {x5 : Int32} {x6 : Int32} {x7 : Int32}  {H : Heap} {locs : List Loc} {ls : Array Slot} (hf : fX12_read_131 h x1 x2 x3 x4 x5 x6 x7 = some (hz, rz)) (hE : CE (EM D aC ad h) (Rg ad) s H locs) (hl : lv_has ls 9 [(0, .ref (ad 116)), (1, .int x1), (2, .int x2), (3, .int x3), (4, .int x4), (5, .int x5), (6, .int x6), (7, .int x7)]) : W p l e (RM 10 224 0 0) s m args below meth c H locs 0 0 (MQ below (PQ (EM D aC ad hz) (Rg ad) (some (.int rz))) args s 0 0 (Rg ad)) (F0 m 131 ls []) := by
  unfold fX12_read_131 at hf
  refine lv_aload_n b.1 b.2.1 dX12_read_131 rfl (lv_at hl 0 rfl) ?_
  refine gM_294 b hE dX12_read_132 ?_
  refine lv_if_ne (tgt := 162) b.1 b.2.1 dX12_read_135 (by decide) (fun c18 => ?_) (fun c18 => ?_)
  · have hf := oI_f c18 hf
    exact wfX12_read_162 b hlk hr zs zk  hf hE (lv_sub hl [0, 1, 2, 3, 4, 5, 6, 7] rfl)
  · have hf := oI_t c18 hf
    refine lv_iconst (v := 0) b.1 b.2.1 dX12_read_138 (by decide) ?_
    refine lv_istore (lv' := [(8, .int 0), (0, .ref (ad 116)), (1, .int x1), (2, .int x2), (3, .int x3), (4, .int x4), (5, .int x5), (6, .int x6), (7, .int x7)]) b.1 b.2.1 dX12_read_139 hl (by decide) rfl (fun ls hl => ?_)
    exact wfX12_read_141 b hlk hr zs zk  FU h x1 x2 x3 x4 x5 x6 x7 0 _ _ _ hf hE (lv_sub hl [1, 2, 3, 4, 5, 6, 7, 8, 0] rfl)
def fX12_read_109F (k109 : MS → Int32 → Int32 → Int32 → Int32 → Int32 → Int32 → Int32 → Option (MS × Int32)) (h : MS) (x1 : Int32) (x2 : Int32) (x3 : Int32) (x4 : Int32) (x5 : Int32) (x6 : Int32) (x7 : Int32) : Option (MS × Int32) :=
  if (mI h 13) = 0 then (oB (fX12_is h 0) (fun r21 => if r21 = 0 then (oB (fX12_tell h ) (fun h24 => k109 h24 x1 x2 x3 x4 x5 x6 x7)) else (fX12_read_131  h x1 x2 x3 x4 x5 x6 x7))) else (fX12_read_131  h x1 x2 x3 x4 x5 x6 x7)
set_option maxHeartbeats 4000000 in
theorem wfX12_read_109F {args : Array Value} (b : Bd p s m c cX12_read 9 RX12 D aC) (hlk : meth.locks = false) (hr : meth.sig.returnType = some .int) {Z : State → Prop} (zs : Z s) (zk : ZOK Z (Rg ad)) {hz : MS} {rz : Int32} {k109 : MS → Int32 → Int32 → Int32 → Int32 → Int32 → Int32 → Int32 → Option (MS × Int32)} (H109 : ∀ (h : MS) (x1 : Int32) (x2 : Int32) (x3 : Int32) (x4 : Int32) (x5 : Int32) (x6 : Int32) (x7 : Int32), ∀ (H : Heap) (locs : List Loc) (ls : Array Slot), k109 h x1 x2 x3 x4 x5 x6 x7 = some (hz, rz) → CE (EM D aC ad h) (Rg ad) s H locs → lv_has ls 9 [(0, .ref (ad 116)), (1, .int x1), (2, .int x2), (3, .int x3), (4, .int x4), (5, .int x5), (6, .int x6), (7, .int x7)] → W p l e (RM 10 224 0 0) s m args below meth c H locs 0 0 (MQ below (PQ (EM D aC ad hz) (Rg ad) (some (.int rz))) args s 0 0 (Rg ad)) (F0 m 109 ls [])) {h : MS} {x1 : Int32} {x2 : Int32} {x3 : Int32} {x4 : Int32} {x5 : Int32} {x6 : Int32} {x7 : Int32}  {H : Heap} {locs : List Loc} {ls : Array Slot} (hf : fX12_read_109F k109 h x1 x2 x3 x4 x5 x6 x7 = some (hz, rz)) (hE : CE (EM D aC ad h) (Rg ad) s H locs) (hl : lv_has ls 9 [(0, .ref (ad 116)), (1, .int x1), (2, .int x2), (3, .int x3), (4, .int x4), (5, .int x5), (6, .int x6), (7, .int x7)]) : W p l e (RM 10 224 0 0) s m args below meth c H locs 0 0 (MQ below (PQ (EM D aC ad hz) (Rg ad) (some (.int rz))) args s 0 0 (Rg ad)) (F0 m 109 ls []) := by
  unfold fX12_read_109F at hf
  refine lv_aload_n b.1 b.2.1 dX12_read_109 rfl (lv_at hl 0 rfl) ?_
  refine gM_294 b hE dX12_read_110 ?_
  refine lv_if_ne (tgt := 131) b.1 b.2.1 dX12_read_113 (by decide) (fun c19 => ?_) (fun c19 => ?_)
  · have hf := oI_f c19 hf
    exact wfX12_read_131 b hlk hr zs zk  hf hE (lv_sub hl [0, 1, 2, 3, 4, 5, 6, 7] rfl)
  · have hf := oI_t c19 hf
    refine lv_aload_n b.1 b.2.1 dX12_read_116 rfl (lv_at hl 0 rfl) ?_
    refine lv_iconst (v := 0) b.1 b.2.1 dX12_read_117 (by decide) ?_
    obtain ⟨r21, hc20, hf⟩ := oB_s hf
    refine k_callV0 (C := RX12) b zs zk hE (CX12_is l D aC ad zk hc20) mc_X12_is (in7 109 rfl rfl) mi_X12_is ms_X12_is ini_RX12 ok_X12_is (m_recv b hE) ⟨Nat.le_of_ble_eq_true rfl, Nat.le_of_ble_eq_true rfl⟩ rfl hl.1 rfl (k_room _ (by exact Nat.le_of_ble_eq_true rfl)) ⟨Nat.le_refl _, Nat.le_refl _⟩ dX12_read_118 (fun H locs hE => ?_)
    refine lv_if_ne (tgt := 131) b.1 b.2.1 dX12_read_121 (by decide) (fun c22 => ?_) (fun c22 => ?_)
    · have hf := oI_f c22 hf
      exact wfX12_read_131 b hlk hr zs zk  hf hE (lv_sub hl [0, 1, 2, 3, 4, 5, 6, 7] rfl)
    · have hf := oI_t c22 hf
      refine lv_aload_n b.1 b.2.1 dX12_read_124 rfl (lv_at hl 0 rfl) ?_
      obtain ⟨h24, hc23, hf⟩ := oB_s hf
      refine k_callV0 (C := RX12) b zs zk hE (CX12_tell l D aC ad zk hc23) mc_X12_tell (in7 113 rfl rfl) mi_X12_tell ms_X12_tell ini_RX12 ok_X12_tell (m_recv b hE) ⟨Nat.le_of_ble_eq_true rfl, Nat.le_of_ble_eq_true rfl⟩ rfl hl.1 rfl (k_room _ (by exact Nat.le_of_ble_eq_true rfl)) ⟨Nat.le_refl _, Nat.le_refl _⟩ dX12_read_125 (fun H locs hE => ?_)
      refine lv_goto (tgt := 109) b.1 b.2.1 dX12_read_128 (by decide) ?_
      exact H109 h24 x1 x2 x3 x4 x5 x6 x7 _ _ _ hf hE (lv_sub hl [0, 1, 2, 3, 4, 5, 6, 7] rfl)
def fX12_read_109  : Nat → MS → Int32 → Int32 → Int32 → Int32 → Int32 → Int32 → Int32 → Option (MS × Int32)
  | 0 => fun _ _ _ _ _ _ _ _ => none
  | n + 1 => fX12_read_109F  (fX12_read_109  n)
set_option maxHeartbeats 4000000 in
theorem wfX12_read_109 {args : Array Value} (b : Bd p s m c cX12_read 9 RX12 D aC) (hlk : meth.locks = false) (hr : meth.sig.returnType = some .int) {Z : State → Prop} (zs : Z s) (zk : ZOK Z (Rg ad)) {hz : MS} {rz : Int32} : ∀ n : Nat, ∀ (h : MS) (x1 : Int32) (x2 : Int32) (x3 : Int32) (x4 : Int32) (x5 : Int32) (x6 : Int32) (x7 : Int32), ∀ (H : Heap) (locs : List Loc) (ls : Array Slot), fX12_read_109  n h x1 x2 x3 x4 x5 x6 x7 = some (hz, rz) → CE (EM D aC ad h) (Rg ad) s H locs → lv_has ls 9 [(0, .ref (ad 116)), (1, .int x1), (2, .int x2), (3, .int x3), (4, .int x4), (5, .int x5), (6, .int x6), (7, .int x7)] → W p l e (RM 10 224 0 0) s m args below meth c H locs 0 0 (MQ below (PQ (EM D aC ad hz) (Rg ad) (some (.int rz))) args s 0 0 (Rg ad)) (F0 m 109 ls []) := by
  intro n
  induction n with
  | zero =>
    intro h x1 x2 x3 x4 x5 x6 x7 H locs ls hf
    have hf : (none : Option (MS × Int32)) = some _ := hf
    cases hf
  | succ n ih =>
    intro h x1 x2 x3 x4 x5 x6 x7 H locs ls hf hE hl
    exact wfX12_read_109F b hlk hr zs zk  ih hf hE hl
def fX12_read_10F (k10 : MS → Int32 → Option (MS × Int32)) (h : MS) (x1 : Int32) : Option (MS × Int32) :=
  if (mI h 4) ≤ x1 then (oL (mSI h 2 0) (fun h26 => oB (fX12_cut h26 ) (fun h28 => oL (mSI h28 11 0) (fun h29 => oL (mSI h29 12 0) (fun h30 => oL (mSI h30 13 0) (fun h31 => oL (mSI h31 15 0) (fun h32 => oL (mSI h32 63 0) (fun h33 => oL (mI h33 18) (fun y34 => oL (mI h33 19) (fun y35 => oL (mI h33 20) (fun y36 => oL (mI h33 21) (fun y37 => oL (mI h33 22) (fun y38 => oL (mI h33 23) (fun y39 => oL (mI h33 24) (fun y40 => fX12_read_109  FU h33 y34 y35 y36 y37 y38 y39 y40))))))))))))))) else (oC (ix x1 (mlen 1)) (oC (ix x1 (mlen 3)) (oL (mSA h 3 (Int32.toNatClampNeg x1) (Int8.toInt32 (Int32.toInt8 (mA h 1 (Int32.toNatClampNeg x1))))) (fun h43 => oL (x1 + 1) (fun y44 => k10 h43 y44)))))
set_option maxHeartbeats 4000000 in
theorem wfX12_read_10F {args : Array Value} (b : Bd p s m c cX12_read 9 RX12 D aC) (hlk : meth.locks = false) (hr : meth.sig.returnType = some .int) {Z : State → Prop} (zs : Z s) (zk : ZOK Z (Rg ad)) {hz : MS} {rz : Int32} {k10 : MS → Int32 → Option (MS × Int32)} (H10 : ∀ (h : MS) (x1 : Int32), ∀ (H : Heap) (locs : List Loc) (ls : Array Slot), k10 h x1 = some (hz, rz) → CE (EM D aC ad h) (Rg ad) s H locs → lv_has ls 9 [(0, .ref (ad 116)), (1, .int x1)] → W p l e (RM 10 224 0 0) s m args below meth c H locs 0 0 (MQ below (PQ (EM D aC ad hz) (Rg ad) (some (.int rz))) args s 0 0 (Rg ad)) (F0 m 10 ls [])) {h : MS} {x1 : Int32}  {H : Heap} {locs : List Loc} {ls : Array Slot} (hf : fX12_read_10F k10 h x1 = some (hz, rz)) (hE : CE (EM D aC ad h) (Rg ad) s H locs) (hl : lv_has ls 9 [(0, .ref (ad 116)), (1, .int x1)]) : W p l e (RM 10 224 0 0) s m args below meth c H locs 0 0 (MQ below (PQ (EM D aC ad hz) (Rg ad) (some (.int rz))) args s 0 0 (Rg ad)) (F0 m 10 ls []) := by
  unfold fX12_read_10F at hf
  refine lv_iload_n b.1 b.2.1 dX12_read_10 rfl (lv_at hl 1 rfl) ?_
  refine lv_aload_n b.1 b.2.1 dX12_read_11 rfl (lv_at hl 0 rfl) ?_
  refine gM_263 b hE dX12_read_12 ?_
  refine lv_icmp_ge (tgt := 36) b.1 b.2.1 dX12_read_15 (by decide) (fun c25 => ?_) (fun c25 => ?_)
  · have hf := oI_t c25 hf
    refine lv_aload_n b.1 b.2.1 dX12_read_36 rfl (lv_at hl 0 rfl) ?_
    refine lv_iconst (v := 0) b.1 b.2.1 dX12_read_37 (by decide) ?_
    obtain ⟨h26, eh26, hf⟩ := oL_s hf
    refine pM_256 b hE eh26 dX12_read_38 (fun H locs hE => ?_)
    refine lv_aload_n b.1 b.2.1 dX12_read_41 rfl (lv_at hl 0 rfl) ?_
    obtain ⟨h28, hc27, hf⟩ := oB_s hf
    refine k_callV0 (C := RX12) b zs zk hE (CX12_cut l D aC ad zk hc27) mc_X12_cut (in7 90 rfl rfl) mi_X12_cut ms_X12_cut ini_RX12 ok_X12_cut (m_recv b hE) ⟨Nat.le_of_ble_eq_true rfl, Nat.le_of_ble_eq_true rfl⟩ rfl hl.1 rfl (k_room _ (by exact Nat.le_of_ble_eq_true rfl)) ⟨Nat.le_refl _, Nat.le_refl _⟩ dX12_read_42 (fun H locs hE => ?_)
    refine lv_aload_n b.1 b.2.1 dX12_read_45 rfl (lv_at hl 0 rfl) ?_
    refine lv_iconst (v := 0) b.1 b.2.1 dX12_read_46 (by decide) ?_
    obtain ⟨h29, eh29, hf⟩ := oL_s hf
    refine pM_297 b hE eh29 dX12_read_47 (fun H locs hE => ?_)
    refine lv_aload_n b.1 b.2.1 dX12_read_50 rfl (lv_at hl 0 rfl) ?_
    refine lv_iconst (v := 0) b.1 b.2.1 dX12_read_51 (by decide) ?_
    obtain ⟨h30, eh30, hf⟩ := oL_s hf
    refine pM_332 b hE eh30 dX12_read_52 (fun H locs hE => ?_)
    refine lv_aload_n b.1 b.2.1 dX12_read_55 rfl (lv_at hl 0 rfl) ?_
    refine lv_iconst (v := 0) b.1 b.2.1 dX12_read_56 (by decide) ?_
    obtain ⟨h31, eh31, hf⟩ := oL_s hf
    refine pM_294 b hE eh31 dX12_read_57 (fun H locs hE => ?_)
    refine lv_aload_n b.1 b.2.1 dX12_read_60 rfl (lv_at hl 0 rfl) ?_
    refine lv_iconst (v := 0) b.1 b.2.1 dX12_read_61 (by decide) ?_
    obtain ⟨h32, eh32, hf⟩ := oL_s hf
    refine pM_303 b hE eh32 dX12_read_62 (fun H locs hE => ?_)
    refine lv_aload_n b.1 b.2.1 dX12_read_65 rfl (lv_at hl 0 rfl) ?_
    refine lv_iconst (v := 0) b.1 b.2.1 dX12_read_66 (by decide) ?_
    obtain ⟨h33, eh33, hf⟩ := oL_s hf
    refine pM_335 b hE eh33 dX12_read_67 (fun H locs hE => ?_)
    refine lv_aload_n b.1 b.2.1 dX12_read_70 rfl (lv_at hl 0 rfl) ?_
    refine gM_338 b hE dX12_read_71 ?_
    obtain ⟨y34, ey34, hf⟩ := oL_s hf
    refine k_nmI ey34 ?_
    refine lv_istore_n (lv' := [(1, .int y34), (0, .ref (ad 116))]) b.1 b.2.1 dX12_read_74 rfl hl (by decide) rfl (fun ls hl => ?_)
    refine lv_aload_n b.1 b.2.1 dX12_read_75 rfl (lv_at hl 1 rfl) ?_
    refine gM_341 b hE dX12_read_76 ?_
    obtain ⟨y35, ey35, hf⟩ := oL_s hf
    refine k_nmI ey35 ?_
    refine lv_istore_n (lv' := [(2, .int y35), (1, .int y34), (0, .ref (ad 116))]) b.1 b.2.1 dX12_read_79 rfl hl (by decide) rfl (fun ls hl => ?_)
    refine lv_aload_n b.1 b.2.1 dX12_read_80 rfl (lv_at hl 2 rfl) ?_
    refine gM_344 b hE dX12_read_81 ?_
    obtain ⟨y36, ey36, hf⟩ := oL_s hf
    refine k_nmI ey36 ?_
    refine lv_istore_n (lv' := [(3, .int y36), (2, .int y35), (1, .int y34), (0, .ref (ad 116))]) b.1 b.2.1 dX12_read_84 rfl hl (by decide) rfl (fun ls hl => ?_)
    refine lv_aload_n b.1 b.2.1 dX12_read_85 rfl (lv_at hl 3 rfl) ?_
    refine gM_347 b hE dX12_read_86 ?_
    obtain ⟨y37, ey37, hf⟩ := oL_s hf
    refine k_nmI ey37 ?_
    refine lv_istore (lv' := [(4, .int y37), (3, .int y36), (2, .int y35), (1, .int y34), (0, .ref (ad 116))]) b.1 b.2.1 dX12_read_89 hl (by decide) rfl (fun ls hl => ?_)
    refine lv_aload_n b.1 b.2.1 dX12_read_91 rfl (lv_at hl 4 rfl) ?_
    refine gM_350 b hE dX12_read_92 ?_
    obtain ⟨y38, ey38, hf⟩ := oL_s hf
    refine k_nmI ey38 ?_
    refine lv_istore (lv' := [(5, .int y38), (4, .int y37), (3, .int y36), (2, .int y35), (1, .int y34), (0, .ref (ad 116))]) b.1 b.2.1 dX12_read_95 hl (by decide) rfl (fun ls hl => ?_)
    refine lv_aload_n b.1 b.2.1 dX12_read_97 rfl (lv_at hl 5 rfl) ?_
    refine gM_353 b hE dX12_read_98 ?_
    obtain ⟨y39, ey39, hf⟩ := oL_s hf
    refine k_nmI ey39 ?_
    refine lv_istore (lv' := [(6, .int y39), (5, .int y38), (4, .int y37), (3, .int y36), (2, .int y35), (1, .int y34), (0, .ref (ad 116))]) b.1 b.2.1 dX12_read_101 hl (by decide) rfl (fun ls hl => ?_)
    refine lv_aload_n b.1 b.2.1 dX12_read_103 rfl (lv_at hl 6 rfl) ?_
    refine gM_356 b hE dX12_read_104 ?_
    obtain ⟨y40, ey40, hf⟩ := oL_s hf
    refine k_nmI ey40 ?_
    refine lv_istore (lv' := [(7, .int y40), (6, .int y39), (5, .int y38), (4, .int y37), (3, .int y36), (2, .int y35), (1, .int y34), (0, .ref (ad 116))]) b.1 b.2.1 dX12_read_107 hl (by decide) rfl (fun ls hl => ?_)
    exact wfX12_read_109 b hlk hr zs zk  FU h33 y34 y35 y36 y37 y38 y39 y40 _ _ _ hf hE (lv_sub hl [7, 6, 5, 4, 3, 2, 1, 0] rfl)
  · have hf := oI_f c25 hf
    refine lv_aload_n b.1 b.2.1 dX12_read_18 rfl (lv_at hl 0 rfl) ?_
    refine gM_17 b hE dX12_read_19 ?_
    refine lv_iload_n b.1 b.2.1 dX12_read_22 rfl (lv_at hl 1 rfl) ?_
    refine lv_aload_n b.1 b.2.1 dX12_read_23 rfl (lv_at hl 0 rfl) ?_
    refine gM_13 b hE dX12_read_24 ?_
    refine lv_iload_n b.1 b.2.1 dX12_read_27 rfl (lv_at hl 1 rfl) ?_
    obtain ⟨g41, hf⟩ := oC_s hf
    refine m_bald b hE rfl rfl g41 dX12_read_28 ?_
    obtain ⟨g42, hf⟩ := oC_s hf
    obtain ⟨h43, eh43, hf⟩ := oL_s hf
    refine n_bast b hE rfl rfl g42 eh43 dX12_read_29 (fun H locs hE => ?_)
    obtain ⟨y44, ey44, hf⟩ := oL_s hf
    refine lv_iinc (v := y44) (lv' := [(1, .int y44), (0, .ref (ad 116))]) b.1 b.2.1 dX12_read_30 hl (k := 1) rfl (by rw [ey44]; rfl) (by decide) rfl (fun ls hl => ?_)
    refine lv_goto (tgt := 10) b.1 b.2.1 dX12_read_33 (by decide) ?_
    exact H10 h43 y44 _ _ _ hf hE (lv_sub hl [1, 0] rfl)
def fX12_read_10  : Nat → MS → Int32 → Option (MS × Int32)
  | 0 => fun _ _ => none
  | n + 1 => fX12_read_10F  (fX12_read_10  n)
set_option maxHeartbeats 4000000 in
theorem wfX12_read_10 {args : Array Value} (b : Bd p s m c cX12_read 9 RX12 D aC) (hlk : meth.locks = false) (hr : meth.sig.returnType = some .int) {Z : State → Prop} (zs : Z s) (zk : ZOK Z (Rg ad)) {hz : MS} {rz : Int32} : ∀ n : Nat, ∀ (h : MS) (x1 : Int32), ∀ (H : Heap) (locs : List Loc) (ls : Array Slot), fX12_read_10  n h x1 = some (hz, rz) → CE (EM D aC ad h) (Rg ad) s H locs → lv_has ls 9 [(0, .ref (ad 116)), (1, .int x1)] → W p l e (RM 10 224 0 0) s m args below meth c H locs 0 0 (MQ below (PQ (EM D aC ad hz) (Rg ad) (some (.int rz))) args s 0 0 (Rg ad)) (F0 m 10 ls []) := by
  intro n
  induction n with
  | zero =>
    intro h x1 H locs ls hf
    have hf : (none : Option (MS × Int32)) = some _ := hf
    cases hf
  | succ n ih =>
    intro h x1 H locs ls hf hE hl
    exact wfX12_read_10F b hlk hr zs zk  ih hf hE hl
def fX12_read_0  (h : MS) : Option (MS × Int32) :=
  oL (mSI h 4 (mI h 2)) (fun h45 => fX12_read_10  FU h45 0)
set_option maxHeartbeats 4000000 in
theorem wfX12_read_0 {args : Array Value} (b : Bd p s m c cX12_read 9 RX12 D aC) (hlk : meth.locks = false) (hr : meth.sig.returnType = some .int) {Z : State → Prop} (zs : Z s) (zk : ZOK Z (Rg ad)) {hz : MS} {rz : Int32} {h : MS}  {H : Heap} {locs : List Loc} {ls : Array Slot} (hf : fX12_read_0 h = some (hz, rz)) (hE : CE (EM D aC ad h) (Rg ad) s H locs) (hl : lv_has ls 9 [(0, .ref (ad 116))]) : W p l e (RM 10 224 0 0) s m args below meth c H locs 0 0 (MQ below (PQ (EM D aC ad hz) (Rg ad) (some (.int rz))) args s 0 0 (Rg ad)) (F0 m 0 ls []) := by
  unfold fX12_read_0 at hf
  refine lv_aload_n b.1 b.2.1 dX12_read_0 rfl (lv_at hl 0 rfl) ?_
  refine lv_aload_n b.1 b.2.1 dX12_read_1 rfl (lv_at hl 0 rfl) ?_
  refine gM_256 b hE dX12_read_2 ?_
  obtain ⟨h45, eh45, hf⟩ := oL_s hf
  refine pM_263 b hE eh45 dX12_read_5 (fun H locs hE => ?_)
  refine lv_iconst (v := 0) b.1 b.2.1 dX12_read_8 (by decide) ?_
  refine lv_istore_n (lv' := [(1, .int 0), (0, .ref (ad 116))]) b.1 b.2.1 dX12_read_9 rfl hl (by decide) rfl (fun ls hl => ?_)
  exact wfX12_read_10 b hlk hr zs zk  FU h45 0 _ _ _ hf hE (lv_sub hl [1, 0] rfl)
def fX12_read (h : MS) : Option (MS × Int32) := fX12_read_0 h 
set_option maxHeartbeats 4000000 in
theorem CX12_read (l : Launch) (D : va_G) (aC : Nat → ClassId) (ad : Nat → Nat) {Z : State → Prop} (zk : ZOK Z (Rg ad)) {h : MS} {hz : MS} {rz : Int32} (hf : fX12_read h = some (hz, rz)) : CM l D aC Z yX12_read cX12_read 9 (some .int) 10 224 0 0 (EM D aC ad h) [.ref (ad 116)] (EM D aC ad hz) (some (.int rz)) (Rg ad) := by
  refine CM.of rfl ?_
  intro p e s m below meth c b hr hlk hin2 zs hE
  refine k_ent (Nat.le_of_ble_eq_true rfl) (fun ls hl => ?_)
  exact wfX12_read_0 b hlk hr zs zk hf hE (lv_sub hl [0] rfl)
theorem dX12_place_0 : decode cX12_place 0 = .ok (.aload_n 0, 1) := by decide +kernel
theorem dX12_place_1 : decode cX12_place 1 = .ok (.getfield 37, 3) := by decide +kernel
theorem dX12_place_4 : decode cX12_place 4 = .ok (.ireturn, 1) := by decide +kernel
def fX12_place_0  (h : MS) : Option (Int32) :=
  some ((mI h 17))
set_option maxHeartbeats 4000000 in
theorem wfX12_place_0 {args : Array Value} (b : Bd p s m c cX12_place 1 RX12 D aC) (hlk : meth.locks = false) (hr : meth.sig.returnType = some .int) {Z : State → Prop} (zs : Z s) (zk : ZOK Z (Rg ad)) {rz : Int32} {h : MS}  {H : Heap} {locs : List Loc} {ls : Array Slot} (hf : fX12_place_0 h = some rz) (hE : CE (EM D aC ad h) (Rg ad) s H locs) (hl : lv_has ls 1 [(0, .ref (ad 116))]) : W p l e (RM 0 0 0 0) s m args below meth c H locs 0 0 (MQ below (PQ (EM D aC ad h) (Rg ad) (some (.int rz))) args s 0 0 (Rg ad)) (F0 m 0 ls []) := by
  unfold fX12_place_0 at hf
  refine lv_aload_n b.1 b.2.1 dX12_place_0 rfl (lv_at hl 0 rfl) ?_
  refine gM_37 b hE dX12_place_1 ?_
  cases hf
  exact k_iret b hlk hr hE (Nat.le_refl _) (Nat.le_refl _) dX12_place_4
def fX12_place (h : MS) : Option (Int32) := fX12_place_0 h 
set_option maxHeartbeats 4000000 in
theorem CX12_place (l : Launch) (D : va_G) (aC : Nat → ClassId) (ad : Nat → Nat) {Z : State → Prop} (zk : ZOK Z (Rg ad)) {h : MS} {rz : Int32} (hf : fX12_place h = some rz) : CM l D aC Z yX12_place cX12_place 1 (some .int) 0 0 0 0 (EM D aC ad h) [.ref (ad 116)] (EM D aC ad h) (some (.int rz)) (Rg ad) := by
  refine CM.of rfl ?_
  intro p e s m below meth c b hr hlk hin2 zs hE
  refine k_ent (Nat.le_of_ble_eq_true rfl) (fun ls hl => ?_)
  exact wfX12_place_0 b hlk hr zs zk hf hE (lv_sub hl [0] rfl)
theorem dX12_clock_0 : decode cX12_clock 0 = .ok (.iload_n 1, 1) := by decide +kernel
theorem dX12_clock_1 : decode cX12_clock 1 = .ok (.aload_n 0, 1) := by decide +kernel
theorem dX12_clock_2 : decode cX12_clock 2 = .ok (.getfield 378, 3) := by decide +kernel
theorem dX12_clock_5 : decode cX12_clock 5 = .ok (.if_icmp .lt 10, 3) := by decide +kernel
theorem dX12_clock_8 : decode cX12_clock 8 = .ok (.iload_n 1, 1) := by decide +kernel
theorem dX12_clock_9 : decode cX12_clock 9 = .ok (.ldc_w 377, 3) := by decide +kernel
theorem dX12_clock_12 : decode cX12_clock 12 = .ok (.if_icmp .le 5, 3) := by decide +kernel
theorem dX12_clock_15 : decode cX12_clock 15 = .ok (.iconst 0, 1) := by decide +kernel
theorem dX12_clock_16 : decode cX12_clock 16 = .ok (.ireturn, 1) := by decide +kernel
theorem dX12_clock_17 : decode cX12_clock 17 = .ok (.aload_n 0, 1) := by decide +kernel
theorem dX12_clock_18 : decode cX12_clock 18 = .ok (.iload_n 1, 1) := by decide +kernel
theorem dX12_clock_19 : decode cX12_clock 19 = .ok (.putfield 378, 3) := by decide +kernel
theorem dX12_clock_22 : decode cX12_clock 22 = .ok (.iconst 1, 1) := by decide +kernel
theorem dX12_clock_23 : decode cX12_clock 23 = .ok (.ireturn, 1) := by decide +kernel
def fX12_clock_0  (h : MS) (x1 : Int32) : Option (MS × Int32) :=
  if x1 < (mI h 72) then (some (h, 0)) else (if x1 ≤ 999999 then (oL (mSI h 72 x1) (fun h3 => some (h3, 1))) else (some (h, 0)))
set_option maxHeartbeats 4000000 in
theorem wfX12_clock_0 {args : Array Value} (b : Bd p s m c cX12_clock 2 RX12 D aC) (hlk : meth.locks = false) (hr : meth.sig.returnType = some .boolean) {Z : State → Prop} (zs : Z s) (zk : ZOK Z (Rg ad)) {hz : MS} {rz : Int32} {h : MS} {x1 : Int32}  {H : Heap} {locs : List Loc} {ls : Array Slot} (hf : fX12_clock_0 h x1 = some (hz, rz)) (hE : CE (EM D aC ad h) (Rg ad) s H locs) (hl : lv_has ls 2 [(0, .ref (ad 116)), (1, .int x1)]) : W p l e (RM 0 0 0 0) s m args below meth c H locs 0 0 (MQ below (PQ (EM D aC ad hz) (Rg ad) (some (.int rz))) args s 0 0 (Rg ad)) (F0 m 0 ls []) := by
  unfold fX12_clock_0 at hf
  refine lv_iload_n b.1 b.2.1 dX12_clock_0 rfl (lv_at hl 1 rfl) ?_
  refine lv_aload_n b.1 b.2.1 dX12_clock_1 rfl (lv_at hl 0 rfl) ?_
  refine gM_378 b hE dX12_clock_2 ?_
  refine lv_icmp_lt (tgt := 15) b.1 b.2.1 dX12_clock_5 (by decide) (fun c1 => ?_) (fun c1 => ?_)
  · have hf := oI_t c1 hf
    refine lv_iconst (v := 0) b.1 b.2.1 dX12_clock_15 (by decide) ?_
    cases hf
    exact k_zret b hlk hr (by decide) hE (Nat.le_refl _) (Nat.le_refl _) dX12_clock_16
  · have hf := oI_f c1 hf
    refine lv_iload_n b.1 b.2.1 dX12_clock_8 rfl (lv_at hl 1 rfl) ?_
    refine k_ldcw (v := 999999) b (in7 148 rfl rfl) dX12_clock_9 ?_
    refine lv_icmp_le (tgt := 17) b.1 b.2.1 dX12_clock_12 (by decide) (fun c2 => ?_) (fun c2 => ?_)
    · have hf := oI_t c2 hf
      refine lv_aload_n b.1 b.2.1 dX12_clock_17 rfl (lv_at hl 0 rfl) ?_
      refine lv_iload_n b.1 b.2.1 dX12_clock_18 rfl (lv_at hl 1 rfl) ?_
      obtain ⟨h3, eh3, hf⟩ := oL_s hf
      refine pM_378 b hE eh3 dX12_clock_19 (fun H locs hE => ?_)
      refine lv_iconst (v := 1) b.1 b.2.1 dX12_clock_22 (by decide) ?_
      cases hf
      exact k_zret b hlk hr (by decide) hE (Nat.le_refl _) (Nat.le_refl _) dX12_clock_23
    · have hf := oI_f c2 hf
      refine lv_iconst (v := 0) b.1 b.2.1 dX12_clock_15 (by decide) ?_
      cases hf
      exact k_zret b hlk hr (by decide) hE (Nat.le_refl _) (Nat.le_refl _) dX12_clock_16
def fX12_clock (h : MS) (x1 : Int32) : Option (MS × Int32) := fX12_clock_0 h x1
set_option maxHeartbeats 4000000 in
theorem CX12_clock (l : Launch) (D : va_G) (aC : Nat → ClassId) (ad : Nat → Nat) {Z : State → Prop} (zk : ZOK Z (Rg ad)) {h : MS} {x1 : Int32} {hz : MS} {rz : Int32} (hf : fX12_clock h x1 = some (hz, rz)) : CM l D aC Z yX12_clock cX12_clock 2 (some .boolean) 0 0 0 0 (EM D aC ad h) [.ref (ad 116), .int x1] (EM D aC ad hz) (some (.int rz)) (Rg ad) := by
  refine CM.of rfl ?_
  intro p e s m below meth c b hr hlk hin2 zs hE
  refine k_ent (Nat.le_of_ble_eq_true rfl) (fun ls hl => ?_)
  exact wfX12_clock_0 b hlk hr zs zk hf hE (lv_sub hl [0, 1] rfl)
theorem dX12_isOne_0 : decode cX12_isOne 0 = .ok (.iload_n 0, 1) := by decide +kernel
theorem dX12_isOne_1 : decode cX12_isOne 1 = .ok (.ifCond .lt 12, 3) := by decide +kernel
theorem dX12_isOne_4 : decode cX12_isOne 4 = .ok (.iload_n 0, 1) := by decide +kernel
theorem dX12_isOne_5 : decode cX12_isOne 5 = .ok (.iload_n 1, 1) := by decide +kernel
theorem dX12_isOne_6 : decode cX12_isOne 6 = .ok (.if_icmp .ge 7, 3) := by decide +kernel
theorem dX12_isOne_9 : decode cX12_isOne 9 = .ok (.iconst 1, 1) := by decide +kernel
theorem dX12_isOne_10 : decode cX12_isOne 10 = .ok (.goto 4, 3) := by decide +kernel
theorem dX12_isOne_13 : decode cX12_isOne 13 = .ok (.iconst 0, 1) := by decide +kernel
theorem dX12_isOne_14 : decode cX12_isOne 14 = .ok (.ireturn, 1) := by decide +kernel
def fX12_isOne_0  (x0 : Int32) (x1 : Int32) : Option (Int32) :=
  if x0 < 0 then (some (0)) else (if x1 ≤ x0 then (some (0)) else (some (1)))
set_option maxHeartbeats 4000000 in
theorem wfX12_isOne_0 {E : Heap → Prop} {A : Nat → Prop} {args : Array Value} (b : Bd p s m c cX12_isOne 2 RX12 D aC) (hlk : meth.locks = false) (hr : meth.sig.returnType = some .boolean) {Z : State → Prop} (zs : Z s) (zk : ZOK Z A) {rz : Int32} {x0 : Int32} {x1 : Int32}  {H : Heap} {locs : List Loc} {ls : Array Slot} (hf : fX12_isOne_0 x0 x1 = some rz) (hE : CE E A s H locs) (hl : lv_has ls 2 [(0, .int x0), (1, .int x1)]) : W p l e (RM 0 0 0 0) s m args below meth c H locs 0 0 (MQ below (PQ E A (some (.int rz))) args s 0 0 A) (F0 m 0 ls []) := by
  unfold fX12_isOne_0 at hf
  refine lv_iload_n b.1 b.2.1 dX12_isOne_0 rfl (lv_at hl 0 rfl) ?_
  refine lv_if_lt (tgt := 13) b.1 b.2.1 dX12_isOne_1 (by decide) (fun c1 => ?_) (fun c1 => ?_)
  · have hf := oI_t c1 hf
    refine lv_iconst (v := 0) b.1 b.2.1 dX12_isOne_13 (by decide) ?_
    cases hf
    exact k_zret b hlk hr (by decide) hE (Nat.le_refl _) (Nat.le_refl _) dX12_isOne_14
  · have hf := oI_f c1 hf
    refine lv_iload_n b.1 b.2.1 dX12_isOne_4 rfl (lv_at hl 0 rfl) ?_
    refine lv_iload_n b.1 b.2.1 dX12_isOne_5 rfl (lv_at hl 1 rfl) ?_
    refine lv_icmp_ge (tgt := 13) b.1 b.2.1 dX12_isOne_6 (by decide) (fun c2 => ?_) (fun c2 => ?_)
    · have hf := oI_t c2 hf
      refine lv_iconst (v := 0) b.1 b.2.1 dX12_isOne_13 (by decide) ?_
      cases hf
      exact k_zret b hlk hr (by decide) hE (Nat.le_refl _) (Nat.le_refl _) dX12_isOne_14
    · have hf := oI_f c2 hf
      refine lv_iconst (v := 1) b.1 b.2.1 dX12_isOne_9 (by decide) ?_
      refine lv_goto (tgt := 14) b.1 b.2.1 dX12_isOne_10 (by decide) ?_
      cases hf
      exact k_zret b hlk hr (by decide) hE (Nat.le_refl _) (Nat.le_refl _) dX12_isOne_14
def fX12_isOne (x0 : Int32) (x1 : Int32) : Option (Int32) := fX12_isOne_0 x0 x1
set_option maxHeartbeats 4000000 in
theorem CX12_isOne (l : Launch) (D : va_G) (aC : Nat → ClassId) {E : Heap → Prop} {A : Nat → Prop} {Z : State → Prop} (zk : ZOK Z A) {x0 : Int32} {x1 : Int32} {rz : Int32} (hf : fX12_isOne x0 x1 = some rz) : CM l D aC Z yX12_isOne cX12_isOne 2 (some .boolean) 0 0 0 0 E [.int x0, .int x1] E (some (.int rz)) A := by
  refine CM.of rfl ?_
  intro p e s m below meth c b hr hlk hin2 zs hE
  refine k_ent (Nat.le_of_ble_eq_true rfl) (fun ls hl => ?_)
  exact wfX12_isOne_0 b hlk hr zs zk hf hE (lv_sub hl [0, 1] rfl)
theorem dX12_literalOf_0 : decode cX12_literalOf 0 = .ok (.iload_n 1, 1) := by decide +kernel
theorem dX12_literalOf_1 : decode cX12_literalOf 1 = .ok (.iload 5, 2) := by decide +kernel
theorem dX12_literalOf_3 : decode cX12_literalOf 3 = .ok (.invokestatic 435, 3) := by decide +kernel
theorem dX12_literalOf_6 : decode cX12_literalOf 6 = .ok (.ifCond .ne 5, 3) := by decide +kernel
theorem dX12_literalOf_9 : decode cX12_literalOf 9 = .ok (.iconst (-1), 1) := by decide +kernel
theorem dX12_literalOf_10 : decode cX12_literalOf 10 = .ok (.ireturn, 1) := by decide +kernel
theorem dX12_literalOf_11 : decode cX12_literalOf 11 = .ok (.aload_n 0, 1) := by decide +kernel
theorem dX12_literalOf_12 : decode cX12_literalOf 12 = .ok (.getfield 49, 3) := by decide +kernel
theorem dX12_literalOf_15 : decode cX12_literalOf 15 = .ok (.iload_n 1, 1) := by decide +kernel
theorem dX12_literalOf_16 : decode cX12_literalOf 16 = .ok (.iaload, 1) := by decide +kernel
theorem dX12_literalOf_17 : decode cX12_literalOf 17 = .ok (.ifCond .le 12, 3) := by decide +kernel
theorem dX12_literalOf_20 : decode cX12_literalOf 20 = .ok (.iload_n 3, 1) := by decide +kernel
theorem dX12_literalOf_21 : decode cX12_literalOf 21 = .ok (.iload 6, 2) := by decide +kernel
theorem dX12_literalOf_23 : decode cX12_literalOf 23 = .ok (.invokestatic 435, 3) := by decide +kernel
theorem dX12_literalOf_26 : decode cX12_literalOf 26 = .ok (.ifCond .eq 23, 3) := by decide +kernel
theorem dX12_literalOf_29 : decode cX12_literalOf 29 = .ok (.aload_n 0, 1) := by decide +kernel
theorem dX12_literalOf_30 : decode cX12_literalOf 30 = .ok (.getfield 49, 3) := by decide +kernel
theorem dX12_literalOf_33 : decode cX12_literalOf 33 = .ok (.iload_n 1, 1) := by decide +kernel
theorem dX12_literalOf_34 : decode cX12_literalOf 34 = .ok (.iaload, 1) := by decide +kernel
theorem dX12_literalOf_35 : decode cX12_literalOf 35 = .ok (.iconst 1, 1) := by decide +kernel
theorem dX12_literalOf_36 : decode cX12_literalOf 36 = .ok (.if_icmp .le 15, 3) := by decide +kernel
theorem dX12_literalOf_39 : decode cX12_literalOf 39 = .ok (.iload 4, 2) := by decide +kernel
theorem dX12_literalOf_41 : decode cX12_literalOf 41 = .ok (.iload 6, 2) := by decide +kernel
theorem dX12_literalOf_43 : decode cX12_literalOf 43 = .ok (.invokestatic 435, 3) := by decide +kernel
theorem dX12_literalOf_46 : decode cX12_literalOf 46 = .ok (.ifCond .ne 5, 3) := by decide +kernel
theorem dX12_literalOf_49 : decode cX12_literalOf 49 = .ok (.iconst (-1), 1) := by decide +kernel
theorem dX12_literalOf_50 : decode cX12_literalOf 50 = .ok (.ireturn, 1) := by decide +kernel
theorem dX12_literalOf_51 : decode cX12_literalOf 51 = .ok (.iload_n 1, 1) := by decide +kernel
theorem dX12_literalOf_52 : decode cX12_literalOf 52 = .ok (.iconst 5, 1) := by decide +kernel
theorem dX12_literalOf_53 : decode cX12_literalOf 53 = .ok (.imul, 1) := by decide +kernel
theorem dX12_literalOf_54 : decode cX12_literalOf 54 = .ok (.aload_n 0, 1) := by decide +kernel
theorem dX12_literalOf_55 : decode cX12_literalOf 55 = .ok (.getfield 49, 3) := by decide +kernel
theorem dX12_literalOf_58 : decode cX12_literalOf 58 = .ok (.iload_n 1, 1) := by decide +kernel
theorem dX12_literalOf_59 : decode cX12_literalOf 59 = .ok (.iaload, 1) := by decide +kernel
theorem dX12_literalOf_60 : decode cX12_literalOf 60 = .ok (.ifCond .le 7, 3) := by decide +kernel
theorem dX12_literalOf_63 : decode cX12_literalOf 63 = .ok (.iload_n 3, 1) := by decide +kernel
theorem dX12_literalOf_64 : decode cX12_literalOf 64 = .ok (.goto 4, 3) := by decide +kernel
theorem dX12_literalOf_67 : decode cX12_literalOf 67 = .ok (.iconst 0, 1) := by decide +kernel
theorem dX12_literalOf_68 : decode cX12_literalOf 68 = .ok (.iadd, 1) := by decide +kernel
theorem dX12_literalOf_69 : decode cX12_literalOf 69 = .ok (.iconst 5, 1) := by decide +kernel
theorem dX12_literalOf_70 : decode cX12_literalOf 70 = .ok (.imul, 1) := by decide +kernel
theorem dX12_literalOf_71 : decode cX12_literalOf 71 = .ok (.aload_n 0, 1) := by decide +kernel
theorem dX12_literalOf_72 : decode cX12_literalOf 72 = .ok (.getfield 49, 3) := by decide +kernel
theorem dX12_literalOf_75 : decode cX12_literalOf 75 = .ok (.iload_n 1, 1) := by decide +kernel
theorem dX12_literalOf_76 : decode cX12_literalOf 76 = .ok (.iaload, 1) := by decide +kernel
theorem dX12_literalOf_77 : decode cX12_literalOf 77 = .ok (.iconst 1, 1) := by decide +kernel
theorem dX12_literalOf_78 : decode cX12_literalOf 78 = .ok (.if_icmp .le 8, 3) := by decide +kernel
theorem dX12_literalOf_81 : decode cX12_literalOf 81 = .ok (.iload 4, 2) := by decide +kernel
theorem dX12_literalOf_83 : decode cX12_literalOf 83 = .ok (.goto 4, 3) := by decide +kernel
theorem dX12_literalOf_86 : decode cX12_literalOf 86 = .ok (.iconst 0, 1) := by decide +kernel
theorem dX12_literalOf_87 : decode cX12_literalOf 87 = .ok (.iadd, 1) := by decide +kernel
theorem dX12_literalOf_88 : decode cX12_literalOf 88 = .ok (.iconst 2, 1) := by decide +kernel
theorem dX12_literalOf_89 : decode cX12_literalOf 89 = .ok (.imul, 1) := by decide +kernel
theorem dX12_literalOf_90 : decode cX12_literalOf 90 = .ok (.iload_n 2, 1) := by decide +kernel
theorem dX12_literalOf_91 : decode cX12_literalOf 91 = .ok (.ifCond .eq 7, 3) := by decide +kernel
theorem dX12_literalOf_94 : decode cX12_literalOf 94 = .ok (.iconst 0, 1) := by decide +kernel
theorem dX12_literalOf_95 : decode cX12_literalOf 95 = .ok (.goto 4, 3) := by decide +kernel
theorem dX12_literalOf_98 : decode cX12_literalOf 98 = .ok (.iconst 1, 1) := by decide +kernel
theorem dX12_literalOf_99 : decode cX12_literalOf 99 = .ok (.iadd, 1) := by decide +kernel
theorem dX12_literalOf_100 : decode cX12_literalOf 100 = .ok (.ireturn, 1) := by decide +kernel
def fX12_literalOf_99  (h : MS) (s0 : Int32) (s1 : Int32) : Option (Int32) :=
  some ((s1 + s0))
set_option maxHeartbeats 4000000 in
theorem wfX12_literalOf_99 {args : Array Value} (b : Bd p s m c cX12_literalOf 7 RX12 D aC) (hlk : meth.locks = false) (hr : meth.sig.returnType = some .int) {Z : State → Prop} (zs : Z s) (zk : ZOK Z (Rg ad)) {rz : Int32} {h : MS} {s0 : Int32} {s1 : Int32}  {H : Heap} {locs : List Loc} {ls : Array Slot} (hf : fX12_literalOf_99 h s0 s1 = some rz) (hE : CE (EM D aC ad h) (Rg ad) s H locs) (hl : lv_has ls 7 []) : W p l e (RM 1 21 0 0) s m args below meth c H locs 0 0 (MQ below (PQ (EM D aC ad h) (Rg ad) (some (.int rz))) args s 0 0 (Rg ad)) (F0 m 99 ls [.int s0, .int s1]) := by
  unfold fX12_literalOf_99 at hf
  refine lv_iadd b.1 b.2.1 dX12_literalOf_99 ?_
  cases hf
  exact k_iret b hlk hr hE (Nat.le_refl _) (Nat.le_refl _) dX12_literalOf_100
def fX12_literalOf_87  (h : MS) (x2 : Int32) (s0 : Int32) (s1 : Int32) : Option (Int32) :=
  if x2 = 0 then (fX12_literalOf_99  h 1 ((s1 + s0) * 2)) else (fX12_literalOf_99  h 0 ((s1 + s0) * 2))
set_option maxHeartbeats 4000000 in
theorem wfX12_literalOf_87 {args : Array Value} (b : Bd p s m c cX12_literalOf 7 RX12 D aC) (hlk : meth.locks = false) (hr : meth.sig.returnType = some .int) {Z : State → Prop} (zs : Z s) (zk : ZOK Z (Rg ad)) {rz : Int32} {h : MS} {x2 : Int32} {s0 : Int32} {s1 : Int32}  {H : Heap} {locs : List Loc} {ls : Array Slot} (hf : fX12_literalOf_87 h x2 s0 s1 = some rz) (hE : CE (EM D aC ad h) (Rg ad) s H locs) (hl : lv_has ls 7 [(2, .int x2)]) : W p l e (RM 1 21 0 0) s m args below meth c H locs 0 0 (MQ below (PQ (EM D aC ad h) (Rg ad) (some (.int rz))) args s 0 0 (Rg ad)) (F0 m 87 ls [.int s0, .int s1]) := by
  unfold fX12_literalOf_87 at hf
  refine lv_iadd b.1 b.2.1 dX12_literalOf_87 ?_
  refine lv_iconst (v := 2) b.1 b.2.1 dX12_literalOf_88 (by decide) ?_
  refine lv_imul b.1 b.2.1 dX12_literalOf_89 ?_
  refine lv_iload_n b.1 b.2.1 dX12_literalOf_90 rfl (lv_at hl 0 rfl) ?_
  refine lv_if_eq (tgt := 98) b.1 b.2.1 dX12_literalOf_91 (by decide) (fun c1 => ?_) (fun c1 => ?_)
  · have hf := oI_t c1 hf
    refine lv_iconst (v := 1) b.1 b.2.1 dX12_literalOf_98 (by decide) ?_
    exact wfX12_literalOf_99 b hlk hr zs zk  hf hE (lv_sub hl [] rfl)
  · have hf := oI_f c1 hf
    refine lv_iconst (v := 0) b.1 b.2.1 dX12_literalOf_94 (by decide) ?_
    refine lv_goto (tgt := 99) b.1 b.2.1 dX12_literalOf_95 (by decide) ?_
    exact wfX12_literalOf_99 b hlk hr zs zk  hf hE (lv_sub hl [] rfl)
def fX12_literalOf_68  (h : MS) (x1 : Int32) (x2 : Int32) (x4 : Int32) (s0 : Int32) (s1 : Int32) : Option (Int32) :=
  oC (ix x1 (mlen 28)) (if (mA h 28 (Int32.toNatClampNeg x1)) ≤ 1 then (fX12_literalOf_87  h x2 0 ((s1 + s0) * 5)) else (fX12_literalOf_87  h x2 x4 ((s1 + s0) * 5)))
set_option maxHeartbeats 4000000 in
theorem wfX12_literalOf_68 {args : Array Value} (b : Bd p s m c cX12_literalOf 7 RX12 D aC) (hlk : meth.locks = false) (hr : meth.sig.returnType = some .int) {Z : State → Prop} (zs : Z s) (zk : ZOK Z (Rg ad)) {rz : Int32} {h : MS} {x1 : Int32} {x2 : Int32} {x4 : Int32} {s0 : Int32} {s1 : Int32}  {H : Heap} {locs : List Loc} {ls : Array Slot} (hf : fX12_literalOf_68 h x1 x2 x4 s0 s1 = some rz) (hE : CE (EM D aC ad h) (Rg ad) s H locs) (hl : lv_has ls 7 [(0, .ref (ad 116)), (1, .int x1), (2, .int x2), (4, .int x4)]) : W p l e (RM 1 21 0 0) s m args below meth c H locs 0 0 (MQ below (PQ (EM D aC ad h) (Rg ad) (some (.int rz))) args s 0 0 (Rg ad)) (F0 m 68 ls [.int s0, .int s1]) := by
  unfold fX12_literalOf_68 at hf
  refine lv_iadd b.1 b.2.1 dX12_literalOf_68 ?_
  refine lv_iconst (v := 5) b.1 b.2.1 dX12_literalOf_69 (by decide) ?_
  refine lv_imul b.1 b.2.1 dX12_literalOf_70 ?_
  refine lv_aload_n b.1 b.2.1 dX12_literalOf_71 rfl (lv_at hl 0 rfl) ?_
  refine gM_49 b hE dX12_literalOf_72 ?_
  refine lv_iload_n b.1 b.2.1 dX12_literalOf_75 rfl (lv_at hl 1 rfl) ?_
  obtain ⟨g2, hf⟩ := oC_s hf
  refine m_iald b hE rfl rfl g2 dX12_literalOf_76 ?_
  refine lv_iconst (v := 1) b.1 b.2.1 dX12_literalOf_77 (by decide) ?_
  refine lv_icmp_le (tgt := 86) b.1 b.2.1 dX12_literalOf_78 (by decide) (fun c3 => ?_) (fun c3 => ?_)
  · have hf := oI_t c3 hf
    refine lv_iconst (v := 0) b.1 b.2.1 dX12_literalOf_86 (by decide) ?_
    exact wfX12_literalOf_87 b hlk hr zs zk  hf hE (lv_sub hl [2] rfl)
  · have hf := oI_f c3 hf
    refine lv_iload b.1 b.2.1 dX12_literalOf_81 (lv_at hl 3 rfl) ?_
    refine lv_goto (tgt := 87) b.1 b.2.1 dX12_literalOf_83 (by decide) ?_
    exact wfX12_literalOf_87 b hlk hr zs zk  hf hE (lv_sub hl [2] rfl)
def fX12_literalOf_51  (h : MS) (x1 : Int32) (x2 : Int32) (x3 : Int32) (x4 : Int32) : Option (Int32) :=
  oC (ix x1 (mlen 28)) (if (mA h 28 (Int32.toNatClampNeg x1)) ≤ 0 then (fX12_literalOf_68  h x1 x2 x4 0 (x1 * 5)) else (fX12_literalOf_68  h x1 x2 x4 x3 (x1 * 5)))
set_option maxHeartbeats 4000000 in
theorem wfX12_literalOf_51 {args : Array Value} (b : Bd p s m c cX12_literalOf 7 RX12 D aC) (hlk : meth.locks = false) (hr : meth.sig.returnType = some .int) {Z : State → Prop} (zs : Z s) (zk : ZOK Z (Rg ad)) {rz : Int32} {h : MS} {x1 : Int32} {x2 : Int32} {x3 : Int32} {x4 : Int32}  {H : Heap} {locs : List Loc} {ls : Array Slot} (hf : fX12_literalOf_51 h x1 x2 x3 x4 = some rz) (hE : CE (EM D aC ad h) (Rg ad) s H locs) (hl : lv_has ls 7 [(0, .ref (ad 116)), (1, .int x1), (2, .int x2), (3, .int x3), (4, .int x4)]) : W p l e (RM 1 21 0 0) s m args below meth c H locs 0 0 (MQ below (PQ (EM D aC ad h) (Rg ad) (some (.int rz))) args s 0 0 (Rg ad)) (F0 m 51 ls []) := by
  unfold fX12_literalOf_51 at hf
  refine lv_iload_n b.1 b.2.1 dX12_literalOf_51 rfl (lv_at hl 1 rfl) ?_
  refine lv_iconst (v := 5) b.1 b.2.1 dX12_literalOf_52 (by decide) ?_
  refine lv_imul b.1 b.2.1 dX12_literalOf_53 ?_
  refine lv_aload_n b.1 b.2.1 dX12_literalOf_54 rfl (lv_at hl 0 rfl) ?_
  refine gM_49 b hE dX12_literalOf_55 ?_
  refine lv_iload_n b.1 b.2.1 dX12_literalOf_58 rfl (lv_at hl 1 rfl) ?_
  obtain ⟨g4, hf⟩ := oC_s hf
  refine m_iald b hE rfl rfl g4 dX12_literalOf_59 ?_
  refine lv_if_le (tgt := 67) b.1 b.2.1 dX12_literalOf_60 (by decide) (fun c5 => ?_) (fun c5 => ?_)
  · have hf := oI_t c5 hf
    refine lv_iconst (v := 0) b.1 b.2.1 dX12_literalOf_67 (by decide) ?_
    exact wfX12_literalOf_68 b hlk hr zs zk  hf hE (lv_sub hl [0, 1, 2, 4] rfl)
  · have hf := oI_f c5 hf
    refine lv_iload_n b.1 b.2.1 dX12_literalOf_63 rfl (lv_at hl 3 rfl) ?_
    refine lv_goto (tgt := 68) b.1 b.2.1 dX12_literalOf_64 (by decide) ?_
    exact wfX12_literalOf_68 b hlk hr zs zk  hf hE (lv_sub hl [0, 1, 2, 4] rfl)
def fX12_literalOf_29  (h : MS) (x1 : Int32) (x2 : Int32) (x3 : Int32) (x4 : Int32) (x6 : Int32) : Option (Int32) :=
  oC (ix x1 (mlen 28)) (if (mA h 28 (Int32.toNatClampNeg x1)) ≤ 1 then (fX12_literalOf_51  h x1 x2 x3 x4) else (oB (fX12_isOne x4 x6) (fun r9 => if r9 = 0 then (some ((-1))) else (fX12_literalOf_51  h x1 x2 x3 x4))))
set_option maxHeartbeats 4000000 in
theorem wfX12_literalOf_29 {args : Array Value} (b : Bd p s m c cX12_literalOf 7 RX12 D aC) (hlk : meth.locks = false) (hr : meth.sig.returnType = some .int) {Z : State → Prop} (zs : Z s) (zk : ZOK Z (Rg ad)) {rz : Int32} {h : MS} {x1 : Int32} {x2 : Int32} {x3 : Int32} {x4 : Int32} {x6 : Int32}  {H : Heap} {locs : List Loc} {ls : Array Slot} (hf : fX12_literalOf_29 h x1 x2 x3 x4 x6 = some rz) (hE : CE (EM D aC ad h) (Rg ad) s H locs) (hl : lv_has ls 7 [(0, .ref (ad 116)), (1, .int x1), (2, .int x2), (3, .int x3), (4, .int x4), (6, .int x6)]) : W p l e (RM 1 21 0 0) s m args below meth c H locs 0 0 (MQ below (PQ (EM D aC ad h) (Rg ad) (some (.int rz))) args s 0 0 (Rg ad)) (F0 m 29 ls []) := by
  unfold fX12_literalOf_29 at hf
  refine lv_aload_n b.1 b.2.1 dX12_literalOf_29 rfl (lv_at hl 0 rfl) ?_
  refine gM_49 b hE dX12_literalOf_30 ?_
  refine lv_iload_n b.1 b.2.1 dX12_literalOf_33 rfl (lv_at hl 1 rfl) ?_
  obtain ⟨g6, hf⟩ := oC_s hf
  refine m_iald b hE rfl rfl g6 dX12_literalOf_34 ?_
  refine lv_iconst (v := 1) b.1 b.2.1 dX12_literalOf_35 (by decide) ?_
  refine lv_icmp_le (tgt := 51) b.1 b.2.1 dX12_literalOf_36 (by decide) (fun c7 => ?_) (fun c7 => ?_)
  · have hf := oI_t c7 hf
    exact wfX12_literalOf_51 b hlk hr zs zk  hf hE (lv_sub hl [0, 1, 2, 3, 4] rfl)
  · have hf := oI_f c7 hf
    refine lv_iload b.1 b.2.1 dX12_literalOf_39 (lv_at hl 4 rfl) ?_
    refine lv_iload b.1 b.2.1 dX12_literalOf_41 (lv_at hl 5 rfl) ?_
    obtain ⟨r9, hc8, hf⟩ := oB_s hf
    refine k_callS0 b zs zk hE (CX12_isOne l D aC zk hc8) mc_X12_isOne (in7 216 rfl rfl) mt_X12_isOne ini_RX12 ok_X12_isOne ⟨Nat.le_of_ble_eq_true rfl, Nat.le_of_ble_eq_true rfl⟩ rfl hl.1 rfl (k_room _ (by exact Nat.le_of_ble_eq_true rfl)) ⟨Nat.le_refl _, Nat.le_refl _⟩ dX12_literalOf_43 (fun H locs hE => ?_)
    refine lv_if_ne (tgt := 51) b.1 b.2.1 dX12_literalOf_46 (by decide) (fun c10 => ?_) (fun c10 => ?_)
    · have hf := oI_f c10 hf
      exact wfX12_literalOf_51 b hlk hr zs zk  hf hE (lv_sub hl [0, 1, 2, 3, 4] rfl)
    · have hf := oI_t c10 hf
      refine lv_iconst (v := (-1)) b.1 b.2.1 dX12_literalOf_49 (by decide) ?_
      cases hf
      exact k_iret b hlk hr hE (Nat.le_refl _) (Nat.le_refl _) dX12_literalOf_50
def fX12_literalOf_0  (h : MS) (x1 : Int32) (x2 : Int32) (x3 : Int32) (x4 : Int32) (x5 : Int32) (x6 : Int32) : Option (Int32) :=
  oB (fX12_isOne x1 x5) (fun r12 => if r12 = 0 then (some ((-1))) else (oC (ix x1 (mlen 28)) (if (mA h 28 (Int32.toNatClampNeg x1)) ≤ 0 then (fX12_literalOf_29  h x1 x2 x3 x4 x6) else (oB (fX12_isOne x3 x6) (fun r17 => if r17 = 0 then (some ((-1))) else (fX12_literalOf_29  h x1 x2 x3 x4 x6))))))
set_option maxHeartbeats 4000000 in
theorem wfX12_literalOf_0 {args : Array Value} (b : Bd p s m c cX12_literalOf 7 RX12 D aC) (hlk : meth.locks = false) (hr : meth.sig.returnType = some .int) {Z : State → Prop} (zs : Z s) (zk : ZOK Z (Rg ad)) {rz : Int32} {h : MS} {x1 : Int32} {x2 : Int32} {x3 : Int32} {x4 : Int32} {x5 : Int32} {x6 : Int32}  {H : Heap} {locs : List Loc} {ls : Array Slot} (hf : fX12_literalOf_0 h x1 x2 x3 x4 x5 x6 = some rz) (hE : CE (EM D aC ad h) (Rg ad) s H locs) (hl : lv_has ls 7 [(0, .ref (ad 116)), (1, .int x1), (2, .int x2), (3, .int x3), (4, .int x4), (5, .int x5), (6, .int x6)]) : W p l e (RM 1 21 0 0) s m args below meth c H locs 0 0 (MQ below (PQ (EM D aC ad h) (Rg ad) (some (.int rz))) args s 0 0 (Rg ad)) (F0 m 0 ls []) := by
  unfold fX12_literalOf_0 at hf
  refine lv_iload_n b.1 b.2.1 dX12_literalOf_0 rfl (lv_at hl 1 rfl) ?_
  refine lv_iload b.1 b.2.1 dX12_literalOf_1 (lv_at hl 5 rfl) ?_
  obtain ⟨r12, hc11, hf⟩ := oB_s hf
  refine k_callS0 b zs zk hE (CX12_isOne l D aC zk hc11) mc_X12_isOne (in7 216 rfl rfl) mt_X12_isOne ini_RX12 ok_X12_isOne ⟨Nat.le_of_ble_eq_true rfl, Nat.le_of_ble_eq_true rfl⟩ rfl hl.1 rfl (k_room _ (by exact Nat.le_of_ble_eq_true rfl)) ⟨Nat.le_refl _, Nat.le_refl _⟩ dX12_literalOf_3 (fun H locs hE => ?_)
  refine lv_if_ne (tgt := 11) b.1 b.2.1 dX12_literalOf_6 (by decide) (fun c13 => ?_) (fun c13 => ?_)
  · have hf := oI_f c13 hf
    refine lv_aload_n b.1 b.2.1 dX12_literalOf_11 rfl (lv_at hl 0 rfl) ?_
    refine gM_49 b hE dX12_literalOf_12 ?_
    refine lv_iload_n b.1 b.2.1 dX12_literalOf_15 rfl (lv_at hl 1 rfl) ?_
    obtain ⟨g14, hf⟩ := oC_s hf
    refine m_iald b hE rfl rfl g14 dX12_literalOf_16 ?_
    refine lv_if_le (tgt := 29) b.1 b.2.1 dX12_literalOf_17 (by decide) (fun c15 => ?_) (fun c15 => ?_)
    · have hf := oI_t c15 hf
      exact wfX12_literalOf_29 b hlk hr zs zk  hf hE (lv_sub hl [0, 1, 2, 3, 4, 6] rfl)
    · have hf := oI_f c15 hf
      refine lv_iload_n b.1 b.2.1 dX12_literalOf_20 rfl (lv_at hl 3 rfl) ?_
      refine lv_iload b.1 b.2.1 dX12_literalOf_21 (lv_at hl 6 rfl) ?_
      obtain ⟨r17, hc16, hf⟩ := oB_s hf
      refine k_callS0 b zs zk hE (CX12_isOne l D aC zk hc16) mc_X12_isOne (in7 216 rfl rfl) mt_X12_isOne ini_RX12 ok_X12_isOne ⟨Nat.le_of_ble_eq_true rfl, Nat.le_of_ble_eq_true rfl⟩ rfl hl.1 rfl (k_room _ (by exact Nat.le_of_ble_eq_true rfl)) ⟨Nat.le_refl _, Nat.le_refl _⟩ dX12_literalOf_23 (fun H locs hE => ?_)
      refine lv_if_eq (tgt := 49) b.1 b.2.1 dX12_literalOf_26 (by decide) (fun c18 => ?_) (fun c18 => ?_)
      · have hf := oI_t c18 hf
        refine lv_iconst (v := (-1)) b.1 b.2.1 dX12_literalOf_49 (by decide) ?_
        cases hf
        exact k_iret b hlk hr hE (Nat.le_refl _) (Nat.le_refl _) dX12_literalOf_50
      · have hf := oI_f c18 hf
        exact wfX12_literalOf_29 b hlk hr zs zk  hf hE (lv_sub hl [0, 1, 2, 3, 4, 6] rfl)
  · have hf := oI_t c13 hf
    refine lv_iconst (v := (-1)) b.1 b.2.1 dX12_literalOf_9 (by decide) ?_
    cases hf
    exact k_iret b hlk hr hE (Nat.le_refl _) (Nat.le_refl _) dX12_literalOf_10
def fX12_literalOf (h : MS) (x1 : Int32) (x2 : Int32) (x3 : Int32) (x4 : Int32) (x5 : Int32) (x6 : Int32) : Option (Int32) := fX12_literalOf_0 h x1 x2 x3 x4 x5 x6
set_option maxHeartbeats 4000000 in
theorem CX12_literalOf (l : Launch) (D : va_G) (aC : Nat → ClassId) (ad : Nat → Nat) {Z : State → Prop} (zk : ZOK Z (Rg ad)) {h : MS} {x1 : Int32} {x2 : Int32} {x3 : Int32} {x4 : Int32} {x5 : Int32} {x6 : Int32} {rz : Int32} (hf : fX12_literalOf h x1 x2 x3 x4 x5 x6 = some rz) : CM l D aC Z yX12_literalOf cX12_literalOf 7 (some .int) 1 21 0 0 (EM D aC ad h) [.ref (ad 116), .int x1, .int x2, .int x3, .int x4, .int x5, .int x6] (EM D aC ad h) (some (.int rz)) (Rg ad) := by
  refine CM.of rfl ?_
  intro p e s m below meth c b hr hlk hin2 zs hE
  refine k_ent (Nat.le_of_ble_eq_true rfl) (fun ls hl => ?_)
  exact wfX12_literalOf_0 b hlk hr zs zk hf hE (lv_sub hl [0, 1, 2, 3, 4, 5, 6] rfl)
theorem dX12_testify_0 : decode cX12_testify 0 = .ok (.aload_n 0, 1) := by decide +kernel
theorem dX12_testify_1 : decode cX12_testify 1 = .ok (.iload_n 1, 1) := by decide +kernel
theorem dX12_testify_2 : decode cX12_testify 2 = .ok (.iload_n 2, 1) := by decide +kernel
theorem dX12_testify_3 : decode cX12_testify 3 = .ok (.iload_n 3, 1) := by decide +kernel
theorem dX12_testify_4 : decode cX12_testify 4 = .ok (.iload 4, 2) := by decide +kernel
theorem dX12_testify_6 : decode cX12_testify 6 = .ok (.aload_n 0, 1) := by decide +kernel
theorem dX12_testify_7 : decode cX12_testify 7 = .ok (.getfield 341, 3) := by decide +kernel
theorem dX12_testify_10 : decode cX12_testify 10 = .ok (.aload_n 0, 1) := by decide +kernel
theorem dX12_testify_11 : decode cX12_testify 11 = .ok (.getfield 338, 3) := by decide +kernel
theorem dX12_testify_14 : decode cX12_testify 14 = .ok (.invokevirtual 439, 3) := by decide +kernel
theorem dX12_testify_17 : decode cX12_testify 17 = .ok (.istore 8, 2) := by decide +kernel
theorem dX12_testify_19 : decode cX12_testify 19 = .ok (.aload_n 0, 1) := by decide +kernel
theorem dX12_testify_20 : decode cX12_testify 20 = .ok (.getfield 443, 3) := by decide +kernel
theorem dX12_testify_23 : decode cX12_testify 23 = .ok (.bipush 100, 2) := by decide +kernel
theorem dX12_testify_25 : decode cX12_testify 25 = .ok (.if_icmp .eq 42, 3) := by decide +kernel
theorem dX12_testify_28 : decode cX12_testify 28 = .ok (.iload 8, 2) := by decide +kernel
theorem dX12_testify_30 : decode cX12_testify 30 = .ok (.iconst (-1), 1) := by decide +kernel
theorem dX12_testify_31 : decode cX12_testify 31 = .ok (.if_icmp .eq 36, 3) := by decide +kernel
theorem dX12_testify_34 : decode cX12_testify 34 = .ok (.iload 5, 2) := by decide +kernel
theorem dX12_testify_36 : decode cX12_testify 36 = .ok (.ifCond .lt 31, 3) := by decide +kernel
theorem dX12_testify_39 : decode cX12_testify 39 = .ok (.iload 5, 2) := by decide +kernel
theorem dX12_testify_41 : decode cX12_testify 41 = .ok (.iload 6, 2) := by decide +kernel
theorem dX12_testify_43 : decode cX12_testify 43 = .ok (.if_icmp .ge 24, 3) := by decide +kernel
theorem dX12_testify_46 : decode cX12_testify 46 = .ok (.iload 6, 2) := by decide +kernel
theorem dX12_testify_48 : decode cX12_testify 48 = .ok (.ldc_w 446, 3) := by decide +kernel
theorem dX12_testify_51 : decode cX12_testify 51 = .ok (.if_icmp .gt 16, 3) := by decide +kernel
theorem dX12_testify_54 : decode cX12_testify 54 = .ok (.iload 7, 2) := by decide +kernel
theorem dX12_testify_56 : decode cX12_testify 56 = .ok (.iconst 1, 1) := by decide +kernel
theorem dX12_testify_57 : decode cX12_testify 57 = .ok (.if_icmp .lt 10, 3) := by decide +kernel
theorem dX12_testify_60 : decode cX12_testify 60 = .ok (.iload 7, 2) := by decide +kernel
theorem dX12_testify_62 : decode cX12_testify 62 = .ok (.bipush 9, 2) := by decide +kernel
theorem dX12_testify_64 : decode cX12_testify 64 = .ok (.if_icmp .le 5, 3) := by decide +kernel
theorem dX12_testify_67 : decode cX12_testify 67 = .ok (.iconst (-1), 1) := by decide +kernel
theorem dX12_testify_68 : decode cX12_testify 68 = .ok (.ireturn, 1) := by decide +kernel
theorem dX12_testify_69 : decode cX12_testify 69 = .ok (.aload_n 0, 1) := by decide +kernel
theorem dX12_testify_70 : decode cX12_testify 70 = .ok (.getfield 443, 3) := by decide +kernel
theorem dX12_testify_73 : decode cX12_testify 73 = .ok (.istore 9, 2) := by decide +kernel
theorem dX12_testify_75 : decode cX12_testify 75 = .ok (.aload_n 0, 1) := by decide +kernel
theorem dX12_testify_76 : decode cX12_testify 76 = .ok (.getfield 162, 3) := by decide +kernel
theorem dX12_testify_79 : decode cX12_testify 79 = .ok (.iload 9, 2) := by decide +kernel
theorem dX12_testify_81 : decode cX12_testify 81 = .ok (.aload_n 0, 1) := by decide +kernel
theorem dX12_testify_82 : decode cX12_testify 82 = .ok (.getfield 378, 3) := by decide +kernel
theorem dX12_testify_85 : decode cX12_testify 85 = .ok (.iastore, 1) := by decide +kernel
theorem dX12_testify_86 : decode cX12_testify 86 = .ok (.aload_n 0, 1) := by decide +kernel
theorem dX12_testify_87 : decode cX12_testify 87 = .ok (.getfield 165, 3) := by decide +kernel
theorem dX12_testify_90 : decode cX12_testify 90 = .ok (.iload 9, 2) := by decide +kernel
theorem dX12_testify_92 : decode cX12_testify 92 = .ok (.iload 8, 2) := by decide +kernel
theorem dX12_testify_94 : decode cX12_testify 94 = .ok (.iastore, 1) := by decide +kernel
theorem dX12_testify_95 : decode cX12_testify 95 = .ok (.aload_n 0, 1) := by decide +kernel
theorem dX12_testify_96 : decode cX12_testify 96 = .ok (.getfield 168, 3) := by decide +kernel
theorem dX12_testify_99 : decode cX12_testify 99 = .ok (.iload 9, 2) := by decide +kernel
theorem dX12_testify_101 : decode cX12_testify 101 = .ok (.iload 5, 2) := by decide +kernel
theorem dX12_testify_103 : decode cX12_testify 103 = .ok (.iastore, 1) := by decide +kernel
theorem dX12_testify_104 : decode cX12_testify 104 = .ok (.aload_n 0, 1) := by decide +kernel
theorem dX12_testify_105 : decode cX12_testify 105 = .ok (.getfield 171, 3) := by decide +kernel
theorem dX12_testify_108 : decode cX12_testify 108 = .ok (.iload 9, 2) := by decide +kernel
theorem dX12_testify_110 : decode cX12_testify 110 = .ok (.iload 6, 2) := by decide +kernel
theorem dX12_testify_112 : decode cX12_testify 112 = .ok (.iastore, 1) := by decide +kernel
theorem dX12_testify_113 : decode cX12_testify 113 = .ok (.aload_n 0, 1) := by decide +kernel
theorem dX12_testify_114 : decode cX12_testify 114 = .ok (.getfield 174, 3) := by decide +kernel
theorem dX12_testify_117 : decode cX12_testify 117 = .ok (.iload 9, 2) := by decide +kernel
theorem dX12_testify_119 : decode cX12_testify 119 = .ok (.iload 7, 2) := by decide +kernel
theorem dX12_testify_121 : decode cX12_testify 121 = .ok (.iastore, 1) := by decide +kernel
theorem dX12_testify_122 : decode cX12_testify 122 = .ok (.aload_n 0, 1) := by decide +kernel
theorem dX12_testify_123 : decode cX12_testify 123 = .ok (.dup, 1) := by decide +kernel
theorem dX12_testify_124 : decode cX12_testify 124 = .ok (.getfield 443, 3) := by decide +kernel
theorem dX12_testify_127 : decode cX12_testify 127 = .ok (.iconst 1, 1) := by decide +kernel
theorem dX12_testify_128 : decode cX12_testify 128 = .ok (.iadd, 1) := by decide +kernel
theorem dX12_testify_129 : decode cX12_testify 129 = .ok (.putfield 443, 3) := by decide +kernel
theorem dX12_testify_132 : decode cX12_testify 132 = .ok (.iload 9, 2) := by decide +kernel
theorem dX12_testify_134 : decode cX12_testify 134 = .ok (.ireturn, 1) := by decide +kernel
def fX12_testify_0  (h : MS) (x1 : Int32) (x2 : Int32) (x3 : Int32) (x4 : Int32) (x5 : Int32) (x6 : Int32) (x7 : Int32) : Option (MS × Int32) :=
  oB (fX12_literalOf h x1 x2 x3 x4 (mI h 19) (mI h 18)) (fun r2 => if (mI h 73) = 100 then (some (h, (-1))) else (if r2 = (-1) then (some (h, (-1))) else (if x5 < 0 then (some (h, (-1))) else (if x6 ≤ x5 then (some (h, (-1))) else (if 1000000 < x6 then (some (h, (-1))) else (if x7 < 1 then (some (h, (-1))) else (if x7 ≤ 9 then (oL (mI h 73) (fun y10 => oC (ix y10 (mlen 74)) (oL (mSA h 74 (Int32.toNatClampNeg y10) (mI h 72)) (fun h12 => oC (ix y10 (mlen 75)) (oL (mSA h12 75 (Int32.toNatClampNeg y10) r2) (fun h14 => oC (ix y10 (mlen 76)) (oL (mSA h14 76 (Int32.toNatClampNeg y10) x5) (fun h16 => oC (ix y10 (mlen 77)) (oL (mSA h16 77 (Int32.toNatClampNeg y10) x6) (fun h18 => oC (ix y10 (mlen 78)) (oL (mSA h18 78 (Int32.toNatClampNeg y10) x7) (fun h20 => oL (mSI h20 73 ((mI h20 73) + 1)) (fun h21 => some (h21, y10)))))))))))))) else (some (h, (-1))))))))))
set_option maxHeartbeats 4000000 in
theorem wfX12_testify_0 {args : Array Value} (b : Bd p s m c cX12_testify 10 RX12 D aC) (hlk : meth.locks = false) (hr : meth.sig.returnType = some .int) {Z : State → Prop} (zs : Z s) (zk : ZOK Z (Rg ad)) {hz : MS} {rz : Int32} {h : MS} {x1 : Int32} {x2 : Int32} {x3 : Int32} {x4 : Int32} {x5 : Int32} {x6 : Int32} {x7 : Int32}  {H : Heap} {locs : List Loc} {ls : Array Slot} (hf : fX12_testify_0 h x1 x2 x3 x4 x5 x6 x7 = some (hz, rz)) (hE : CE (EM D aC ad h) (Rg ad) s H locs) (hl : lv_has ls 10 [(0, .ref (ad 116)), (1, .int x1), (2, .int x2), (3, .int x3), (4, .int x4), (5, .int x5), (6, .int x6), (7, .int x7)]) : W p l e (RM 2 47 0 0) s m args below meth c H locs 0 0 (MQ below (PQ (EM D aC ad hz) (Rg ad) (some (.int rz))) args s 0 0 (Rg ad)) (F0 m 0 ls []) := by
  unfold fX12_testify_0 at hf
  refine lv_aload_n b.1 b.2.1 dX12_testify_0 rfl (lv_at hl 0 rfl) ?_
  refine lv_iload_n b.1 b.2.1 dX12_testify_1 rfl (lv_at hl 1 rfl) ?_
  refine lv_iload_n b.1 b.2.1 dX12_testify_2 rfl (lv_at hl 2 rfl) ?_
  refine lv_iload_n b.1 b.2.1 dX12_testify_3 rfl (lv_at hl 3 rfl) ?_
  refine lv_iload b.1 b.2.1 dX12_testify_4 (lv_at hl 4 rfl) ?_
  refine lv_aload_n b.1 b.2.1 dX12_testify_6 rfl (lv_at hl 0 rfl) ?_
  refine gM_341 b hE dX12_testify_7 ?_
  refine lv_aload_n b.1 b.2.1 dX12_testify_10 rfl (lv_at hl 0 rfl) ?_
  refine gM_338 b hE dX12_testify_11 ?_
  obtain ⟨r2, hc1, hf⟩ := oB_s hf
  refine k_callV0 (C := RX12) b zs zk hE (CX12_literalOf l D aC ad zk hc1) mc_X12_literalOf (in7 212 rfl rfl) mi_X12_literalOf ms_X12_literalOf ini_RX12 ok_X12_literalOf (m_recv b hE) ⟨Nat.le_of_ble_eq_true rfl, Nat.le_of_ble_eq_true rfl⟩ rfl hl.1 rfl (k_room _ (by exact Nat.le_of_ble_eq_true rfl)) ⟨Nat.le_refl _, Nat.le_refl _⟩ dX12_testify_14 (fun H locs hE => ?_)
  refine lv_istore (lv' := [(8, .int r2), (0, .ref (ad 116)), (1, .int x1), (2, .int x2), (3, .int x3), (4, .int x4), (5, .int x5), (6, .int x6), (7, .int x7)]) b.1 b.2.1 dX12_testify_17 hl (by decide) rfl (fun ls hl => ?_)
  have hl := lv_sub (l' := [(8, .int r2), (0, .ref (ad 116)), (5, .int x5), (6, .int x6), (7, .int x7)]) hl [0, 1, 6, 7, 8] rfl
  refine lv_aload_n b.1 b.2.1 dX12_testify_19 rfl (lv_at hl 1 rfl) ?_
  refine gM_443 b hE dX12_testify_20 ?_
  refine lv_bipush (v := 100) b.1 b.2.1 dX12_testify_23 (by decide) ?_
  refine lv_icmp_eq (tgt := 67) b.1 b.2.1 dX12_testify_25 (by decide) (fun c3 => ?_) (fun c3 => ?_)
  · have hf := oI_t c3 hf
    refine lv_iconst (v := (-1)) b.1 b.2.1 dX12_testify_67 (by decide) ?_
    cases hf
    exact k_iret b hlk hr hE (Nat.le_refl _) (Nat.le_refl _) dX12_testify_68
  · have hf := oI_f c3 hf
    refine lv_iload b.1 b.2.1 dX12_testify_28 (lv_at hl 0 rfl) ?_
    refine lv_iconst (v := (-1)) b.1 b.2.1 dX12_testify_30 (by decide) ?_
    refine lv_icmp_eq (tgt := 67) b.1 b.2.1 dX12_testify_31 (by decide) (fun c4 => ?_) (fun c4 => ?_)
    · have hf := oI_t c4 hf
      refine lv_iconst (v := (-1)) b.1 b.2.1 dX12_testify_67 (by decide) ?_
      cases hf
      exact k_iret b hlk hr hE (Nat.le_refl _) (Nat.le_refl _) dX12_testify_68
    · have hf := oI_f c4 hf
      refine lv_iload b.1 b.2.1 dX12_testify_34 (lv_at hl 2 rfl) ?_
      refine lv_if_lt (tgt := 67) b.1 b.2.1 dX12_testify_36 (by decide) (fun c5 => ?_) (fun c5 => ?_)
      · have hf := oI_t c5 hf
        refine lv_iconst (v := (-1)) b.1 b.2.1 dX12_testify_67 (by decide) ?_
        cases hf
        exact k_iret b hlk hr hE (Nat.le_refl _) (Nat.le_refl _) dX12_testify_68
      · have hf := oI_f c5 hf
        refine lv_iload b.1 b.2.1 dX12_testify_39 (lv_at hl 2 rfl) ?_
        refine lv_iload b.1 b.2.1 dX12_testify_41 (lv_at hl 3 rfl) ?_
        refine lv_icmp_ge (tgt := 67) b.1 b.2.1 dX12_testify_43 (by decide) (fun c6 => ?_) (fun c6 => ?_)
        · have hf := oI_t c6 hf
          refine lv_iconst (v := (-1)) b.1 b.2.1 dX12_testify_67 (by decide) ?_
          cases hf
          exact k_iret b hlk hr hE (Nat.le_refl _) (Nat.le_refl _) dX12_testify_68
        · have hf := oI_f c6 hf
          refine lv_iload b.1 b.2.1 dX12_testify_46 (lv_at hl 3 rfl) ?_
          refine k_ldcw (v := 1000000) b (in7 219 rfl rfl) dX12_testify_48 ?_
          refine lv_icmp_gt (tgt := 67) b.1 b.2.1 dX12_testify_51 (by decide) (fun c7 => ?_) (fun c7 => ?_)
          · have hf := oI_t c7 hf
            refine lv_iconst (v := (-1)) b.1 b.2.1 dX12_testify_67 (by decide) ?_
            cases hf
            exact k_iret b hlk hr hE (Nat.le_refl _) (Nat.le_refl _) dX12_testify_68
          · have hf := oI_f c7 hf
            refine lv_iload b.1 b.2.1 dX12_testify_54 (lv_at hl 4 rfl) ?_
            refine lv_iconst (v := 1) b.1 b.2.1 dX12_testify_56 (by decide) ?_
            refine lv_icmp_lt (tgt := 67) b.1 b.2.1 dX12_testify_57 (by decide) (fun c8 => ?_) (fun c8 => ?_)
            · have hf := oI_t c8 hf
              refine lv_iconst (v := (-1)) b.1 b.2.1 dX12_testify_67 (by decide) ?_
              cases hf
              exact k_iret b hlk hr hE (Nat.le_refl _) (Nat.le_refl _) dX12_testify_68
            · have hf := oI_f c8 hf
              refine lv_iload b.1 b.2.1 dX12_testify_60 (lv_at hl 4 rfl) ?_
              refine lv_bipush (v := 9) b.1 b.2.1 dX12_testify_62 (by decide) ?_
              refine lv_icmp_le (tgt := 69) b.1 b.2.1 dX12_testify_64 (by decide) (fun c9 => ?_) (fun c9 => ?_)
              · have hf := oI_t c9 hf
                refine lv_aload_n b.1 b.2.1 dX12_testify_69 rfl (lv_at hl 1 rfl) ?_
                refine gM_443 b hE dX12_testify_70 ?_
                obtain ⟨y10, ey10, hf⟩ := oL_s hf
                refine k_nmI ey10 ?_
                refine lv_istore (lv' := [(9, .int y10), (8, .int r2), (0, .ref (ad 116)), (5, .int x5), (6, .int x6), (7, .int x7)]) b.1 b.2.1 dX12_testify_73 hl (by decide) rfl (fun ls hl => ?_)
                refine lv_aload_n b.1 b.2.1 dX12_testify_75 rfl (lv_at hl 2 rfl) ?_
                refine gM_162 b hE dX12_testify_76 ?_
                refine lv_iload b.1 b.2.1 dX12_testify_79 (lv_at hl 0 rfl) ?_
                refine lv_aload_n b.1 b.2.1 dX12_testify_81 rfl (lv_at hl 2 rfl) ?_
                refine gM_378 b hE dX12_testify_82 ?_
                obtain ⟨g11, hf⟩ := oC_s hf
                obtain ⟨h12, eh12, hf⟩ := oL_s hf
                refine n_iast b hE rfl rfl g11 eh12 dX12_testify_85 (fun H locs hE => ?_)
                refine lv_aload_n b.1 b.2.1 dX12_testify_86 rfl (lv_at hl 2 rfl) ?_
                refine gM_165 b hE dX12_testify_87 ?_
                refine lv_iload b.1 b.2.1 dX12_testify_90 (lv_at hl 0 rfl) ?_
                refine lv_iload b.1 b.2.1 dX12_testify_92 (lv_at hl 1 rfl) ?_
                obtain ⟨g13, hf⟩ := oC_s hf
                obtain ⟨h14, eh14, hf⟩ := oL_s hf
                refine n_iast b hE rfl rfl g13 eh14 dX12_testify_94 (fun H locs hE => ?_)
                refine lv_aload_n b.1 b.2.1 dX12_testify_95 rfl (lv_at hl 2 rfl) ?_
                refine gM_168 b hE dX12_testify_96 ?_
                refine lv_iload b.1 b.2.1 dX12_testify_99 (lv_at hl 0 rfl) ?_
                refine lv_iload b.1 b.2.1 dX12_testify_101 (lv_at hl 3 rfl) ?_
                obtain ⟨g15, hf⟩ := oC_s hf
                obtain ⟨h16, eh16, hf⟩ := oL_s hf
                refine n_iast b hE rfl rfl g15 eh16 dX12_testify_103 (fun H locs hE => ?_)
                refine lv_aload_n b.1 b.2.1 dX12_testify_104 rfl (lv_at hl 2 rfl) ?_
                refine gM_171 b hE dX12_testify_105 ?_
                refine lv_iload b.1 b.2.1 dX12_testify_108 (lv_at hl 0 rfl) ?_
                refine lv_iload b.1 b.2.1 dX12_testify_110 (lv_at hl 4 rfl) ?_
                obtain ⟨g17, hf⟩ := oC_s hf
                obtain ⟨h18, eh18, hf⟩ := oL_s hf
                refine n_iast b hE rfl rfl g17 eh18 dX12_testify_112 (fun H locs hE => ?_)
                refine lv_aload_n b.1 b.2.1 dX12_testify_113 rfl (lv_at hl 2 rfl) ?_
                refine gM_174 b hE dX12_testify_114 ?_
                refine lv_iload b.1 b.2.1 dX12_testify_117 (lv_at hl 0 rfl) ?_
                refine lv_iload b.1 b.2.1 dX12_testify_119 (lv_at hl 5 rfl) ?_
                obtain ⟨g19, hf⟩ := oC_s hf
                obtain ⟨h20, eh20, hf⟩ := oL_s hf
                refine n_iast b hE rfl rfl g19 eh20 dX12_testify_121 (fun H locs hE => ?_)
                refine lv_aload_n b.1 b.2.1 dX12_testify_122 rfl (lv_at hl 2 rfl) ?_
                refine lv_dup b.1 b.2.1 dX12_testify_123 rfl ?_
                refine gM_443 b hE dX12_testify_124 ?_
                refine lv_iconst (v := 1) b.1 b.2.1 dX12_testify_127 (by decide) ?_
                refine lv_iadd b.1 b.2.1 dX12_testify_128 ?_
                obtain ⟨h21, eh21, hf⟩ := oL_s hf
                refine pM_443 b hE eh21 dX12_testify_129 (fun H locs hE => ?_)
                refine lv_iload b.1 b.2.1 dX12_testify_132 (lv_at hl 0 rfl) ?_
                cases hf
                exact k_iret b hlk hr hE (Nat.le_refl _) (Nat.le_refl _) dX12_testify_134
              · have hf := oI_f c9 hf
                refine lv_iconst (v := (-1)) b.1 b.2.1 dX12_testify_67 (by decide) ?_
                cases hf
                exact k_iret b hlk hr hE (Nat.le_refl _) (Nat.le_refl _) dX12_testify_68
def fX12_testify (h : MS) (x1 : Int32) (x2 : Int32) (x3 : Int32) (x4 : Int32) (x5 : Int32) (x6 : Int32) (x7 : Int32) : Option (MS × Int32) := fX12_testify_0 h x1 x2 x3 x4 x5 x6 x7
set_option maxHeartbeats 4000000 in
theorem CX12_testify (l : Launch) (D : va_G) (aC : Nat → ClassId) (ad : Nat → Nat) {Z : State → Prop} (zk : ZOK Z (Rg ad)) {h : MS} {x1 : Int32} {x2 : Int32} {x3 : Int32} {x4 : Int32} {x5 : Int32} {x6 : Int32} {x7 : Int32} {hz : MS} {rz : Int32} (hf : fX12_testify h x1 x2 x3 x4 x5 x6 x7 = some (hz, rz)) : CM l D aC Z yX12_testify cX12_testify 10 (some .int) 2 47 0 0 (EM D aC ad h) [.ref (ad 116), .int x1, .int x2, .int x3, .int x4, .int x5, .int x6, .int x7] (EM D aC ad hz) (some (.int rz)) (Rg ad) := by
  refine CM.of rfl ?_
  intro p e s m below meth c b hr hlk hin2 zs hE
  refine k_ent (Nat.le_of_ble_eq_true rfl) (fun ls hl => ?_)
  exact wfX12_testify_0 b hlk hr zs zk hf hE (lv_sub hl [0, 1, 2, 3, 4, 5, 6, 7] rfl)
theorem dX12_number_0 : decode cX12_number 0 = .ok (.iload_n 1, 1) := by decide +kernel
theorem dX12_number_1 : decode cX12_number 1 = .ok (.aload_n 0, 1) := by decide +kernel
theorem dX12_number_2 : decode cX12_number 2 = .ok (.getfield 338, 3) := by decide +kernel
theorem dX12_number_5 : decode cX12_number 5 = .ok (.invokestatic 435, 3) := by decide +kernel
theorem dX12_number_8 : decode cX12_number 8 = .ok (.ifCond .eq 26, 3) := by decide +kernel
theorem dX12_number_11 : decode cX12_number 11 = .ok (.iload_n 2, 1) := by decide +kernel
theorem dX12_number_12 : decode cX12_number 12 = .ok (.ifCond .lt 22, 3) := by decide +kernel
theorem dX12_number_15 : decode cX12_number 15 = .ok (.iload_n 2, 1) := by decide +kernel
theorem dX12_number_16 : decode cX12_number 16 = .ok (.iconst 3, 1) := by decide +kernel
theorem dX12_number_17 : decode cX12_number 17 = .ok (.if_icmp .gt 17, 3) := by decide +kernel
theorem dX12_number_20 : decode cX12_number 20 = .ok (.iload_n 3, 1) := by decide +kernel
theorem dX12_number_21 : decode cX12_number 21 = .ok (.ldc_w 447, 3) := by decide +kernel
theorem dX12_number_24 : decode cX12_number 24 = .ok (.if_icmp .lt 10, 3) := by decide +kernel
theorem dX12_number_27 : decode cX12_number 27 = .ok (.iload_n 3, 1) := by decide +kernel
theorem dX12_number_28 : decode cX12_number 28 = .ok (.ldc_w 377, 3) := by decide +kernel
theorem dX12_number_31 : decode cX12_number 31 = .ok (.if_icmp .le 5, 3) := by decide +kernel
theorem dX12_number_34 : decode cX12_number 34 = .ok (.iconst 0, 1) := by decide +kernel
theorem dX12_number_35 : decode cX12_number 35 = .ok (.ireturn, 1) := by decide +kernel
theorem dX12_number_36 : decode cX12_number 36 = .ok (.aload_n 0, 1) := by decide +kernel
theorem dX12_number_37 : decode cX12_number 37 = .ok (.getfield 43, 3) := by decide +kernel
theorem dX12_number_40 : decode cX12_number 40 = .ok (.iconst 4, 1) := by decide +kernel
theorem dX12_number_41 : decode cX12_number 41 = .ok (.iload_n 1, 1) := by decide +kernel
theorem dX12_number_42 : decode cX12_number 42 = .ok (.imul, 1) := by decide +kernel
theorem dX12_number_43 : decode cX12_number 43 = .ok (.iload_n 2, 1) := by decide +kernel
theorem dX12_number_44 : decode cX12_number 44 = .ok (.iadd, 1) := by decide +kernel
theorem dX12_number_45 : decode cX12_number 45 = .ok (.iload_n 3, 1) := by decide +kernel
theorem dX12_number_46 : decode cX12_number 46 = .ok (.iastore, 1) := by decide +kernel
theorem dX12_number_47 : decode cX12_number 47 = .ok (.iconst 1, 1) := by decide +kernel
theorem dX12_number_48 : decode cX12_number 48 = .ok (.ireturn, 1) := by decide +kernel
def fX12_number_0  (h : MS) (x1 : Int32) (x2 : Int32) (x3 : Int32) : Option (MS × Int32) :=
  oB (fX12_isOne x1 (mI h 18)) (fun r2 => if r2 = 0 then (some (h, 0)) else (if x2 < 0 then (some (h, 0)) else (if 3 < x2 then (some (h, 0)) else (if x3 < (-999999) then (some (h, 0)) else (if x3 ≤ 999999 then (oC (ix ((4 * x1) + x2) (mlen 26)) (oL (mSA h 26 (Int32.toNatClampNeg ((4 * x1) + x2)) x3) (fun h9 => some (h9, 1)))) else (some (h, 0)))))))
set_option maxHeartbeats 4000000 in
theorem wfX12_number_0 {args : Array Value} (b : Bd p s m c cX12_number 4 RX12 D aC) (hlk : meth.locks = false) (hr : meth.sig.returnType = some .boolean) {Z : State → Prop} (zs : Z s) (zk : ZOK Z (Rg ad)) {hz : MS} {rz : Int32} {h : MS} {x1 : Int32} {x2 : Int32} {x3 : Int32}  {H : Heap} {locs : List Loc} {ls : Array Slot} (hf : fX12_number_0 h x1 x2 x3 = some (hz, rz)) (hE : CE (EM D aC ad h) (Rg ad) s H locs) (hl : lv_has ls 4 [(0, .ref (ad 116)), (1, .int x1), (2, .int x2), (3, .int x3)]) : W p l e (RM 1 21 0 0) s m args below meth c H locs 0 0 (MQ below (PQ (EM D aC ad hz) (Rg ad) (some (.int rz))) args s 0 0 (Rg ad)) (F0 m 0 ls []) := by
  unfold fX12_number_0 at hf
  refine lv_iload_n b.1 b.2.1 dX12_number_0 rfl (lv_at hl 1 rfl) ?_
  refine lv_aload_n b.1 b.2.1 dX12_number_1 rfl (lv_at hl 0 rfl) ?_
  refine gM_338 b hE dX12_number_2 ?_
  obtain ⟨r2, hc1, hf⟩ := oB_s hf
  refine k_callS0 b zs zk hE (CX12_isOne l D aC zk hc1) mc_X12_isOne (in7 216 rfl rfl) mt_X12_isOne ini_RX12 ok_X12_isOne ⟨Nat.le_of_ble_eq_true rfl, Nat.le_of_ble_eq_true rfl⟩ rfl hl.1 rfl (k_room _ (by exact Nat.le_of_ble_eq_true rfl)) ⟨Nat.le_refl _, Nat.le_refl _⟩ dX12_number_5 (fun H locs hE => ?_)
  refine lv_if_eq (tgt := 34) b.1 b.2.1 dX12_number_8 (by decide) (fun c3 => ?_) (fun c3 => ?_)
  · have hf := oI_t c3 hf
    refine lv_iconst (v := 0) b.1 b.2.1 dX12_number_34 (by decide) ?_
    cases hf
    exact k_zret b hlk hr (by decide) hE (Nat.le_refl _) (Nat.le_refl _) dX12_number_35
  · have hf := oI_f c3 hf
    refine lv_iload_n b.1 b.2.1 dX12_number_11 rfl (lv_at hl 2 rfl) ?_
    refine lv_if_lt (tgt := 34) b.1 b.2.1 dX12_number_12 (by decide) (fun c4 => ?_) (fun c4 => ?_)
    · have hf := oI_t c4 hf
      refine lv_iconst (v := 0) b.1 b.2.1 dX12_number_34 (by decide) ?_
      cases hf
      exact k_zret b hlk hr (by decide) hE (Nat.le_refl _) (Nat.le_refl _) dX12_number_35
    · have hf := oI_f c4 hf
      refine lv_iload_n b.1 b.2.1 dX12_number_15 rfl (lv_at hl 2 rfl) ?_
      refine lv_iconst (v := 3) b.1 b.2.1 dX12_number_16 (by decide) ?_
      refine lv_icmp_gt (tgt := 34) b.1 b.2.1 dX12_number_17 (by decide) (fun c5 => ?_) (fun c5 => ?_)
      · have hf := oI_t c5 hf
        refine lv_iconst (v := 0) b.1 b.2.1 dX12_number_34 (by decide) ?_
        cases hf
        exact k_zret b hlk hr (by decide) hE (Nat.le_refl _) (Nat.le_refl _) dX12_number_35
      · have hf := oI_f c5 hf
        refine lv_iload_n b.1 b.2.1 dX12_number_20 rfl (lv_at hl 3 rfl) ?_
        refine k_ldcw (v := (-999999)) b (in7 224 rfl rfl) dX12_number_21 ?_
        refine lv_icmp_lt (tgt := 34) b.1 b.2.1 dX12_number_24 (by decide) (fun c6 => ?_) (fun c6 => ?_)
        · have hf := oI_t c6 hf
          refine lv_iconst (v := 0) b.1 b.2.1 dX12_number_34 (by decide) ?_
          cases hf
          exact k_zret b hlk hr (by decide) hE (Nat.le_refl _) (Nat.le_refl _) dX12_number_35
        · have hf := oI_f c6 hf
          refine lv_iload_n b.1 b.2.1 dX12_number_27 rfl (lv_at hl 3 rfl) ?_
          refine k_ldcw (v := 999999) b (in7 148 rfl rfl) dX12_number_28 ?_
          refine lv_icmp_le (tgt := 36) b.1 b.2.1 dX12_number_31 (by decide) (fun c7 => ?_) (fun c7 => ?_)
          · have hf := oI_t c7 hf
            refine lv_aload_n b.1 b.2.1 dX12_number_36 rfl (lv_at hl 0 rfl) ?_
            refine gM_43 b hE dX12_number_37 ?_
            refine lv_iconst (v := 4) b.1 b.2.1 dX12_number_40 (by decide) ?_
            refine lv_iload_n b.1 b.2.1 dX12_number_41 rfl (lv_at hl 1 rfl) ?_
            refine lv_imul b.1 b.2.1 dX12_number_42 ?_
            refine lv_iload_n b.1 b.2.1 dX12_number_43 rfl (lv_at hl 2 rfl) ?_
            refine lv_iadd b.1 b.2.1 dX12_number_44 ?_
            refine lv_iload_n b.1 b.2.1 dX12_number_45 rfl (lv_at hl 3 rfl) ?_
            obtain ⟨g8, hf⟩ := oC_s hf
            obtain ⟨h9, eh9, hf⟩ := oL_s hf
            refine n_iast b hE rfl rfl g8 eh9 dX12_number_46 (fun H locs hE => ?_)
            refine lv_iconst (v := 1) b.1 b.2.1 dX12_number_47 (by decide) ?_
            cases hf
            exact k_zret b hlk hr (by decide) hE (Nat.le_refl _) (Nat.le_refl _) dX12_number_48
          · have hf := oI_f c7 hf
            refine lv_iconst (v := 0) b.1 b.2.1 dX12_number_34 (by decide) ?_
            cases hf
            exact k_zret b hlk hr (by decide) hE (Nat.le_refl _) (Nat.le_refl _) dX12_number_35
def fX12_number (h : MS) (x1 : Int32) (x2 : Int32) (x3 : Int32) : Option (MS × Int32) := fX12_number_0 h x1 x2 x3
set_option maxHeartbeats 4000000 in
theorem CX12_number (l : Launch) (D : va_G) (aC : Nat → ClassId) (ad : Nat → Nat) {Z : State → Prop} (zk : ZOK Z (Rg ad)) {h : MS} {x1 : Int32} {x2 : Int32} {x3 : Int32} {hz : MS} {rz : Int32} (hf : fX12_number h x1 x2 x3 = some (hz, rz)) : CM l D aC Z yX12_number cX12_number 4 (some .boolean) 1 21 0 0 (EM D aC ad h) [.ref (ad 116), .int x1, .int x2, .int x3] (EM D aC ad hz) (some (.int rz)) (Rg ad) := by
  refine CM.of rfl ?_
  intro p e s m below meth c b hr hlk hin2 zs hE
  refine k_ent (Nat.le_of_ble_eq_true rfl) (fun ls hl => ?_)
  exact wfX12_number_0 b hlk hr zs zk hf hE (lv_sub hl [0, 1, 2, 3] rfl)
end
