section
variable {p : Program} {l : Launch} {e : Env} {s : State} {m : MethodId} {below : List Frame} {meth : Method} {c : Code} {D : va_G} {aC : Nat → ClassId} {ad : Nat → Nat}
theorem dX12_because_0 : decode cX12_because 0 = .ok (.aload_n 0, 1) := by decide +kernel
theorem dX12_because_1 : decode cX12_because 1 = .ok (.getfield 225, 3) := by decide +kernel
theorem dX12_because_4 : decode cX12_because 4 = .ok (.iload_n 1, 1) := by decide +kernel
theorem dX12_because_5 : decode cX12_because 5 = .ok (.iconst (-1), 1) := by decide +kernel
theorem dX12_because_6 : decode cX12_because 6 = .ok (.iastore, 1) := by decide +kernel
theorem dX12_because_7 : decode cX12_because 7 = .ok (.iconst 0, 1) := by decide +kernel
theorem dX12_because_8 : decode cX12_because 8 = .ok (.istore_n 2, 1) := by decide +kernel
theorem dX12_because_9 : decode cX12_because 9 = .ok (.iload_n 2, 1) := by decide +kernel
theorem dX12_because_10 : decode cX12_because 10 = .ok (.iconst 3, 1) := by decide +kernel
theorem dX12_because_11 : decode cX12_because 11 = .ok (.if_icmp .ge 20, 3) := by decide +kernel
theorem dX12_because_14 : decode cX12_because 14 = .ok (.aload_n 0, 1) := by decide +kernel
theorem dX12_because_15 : decode cX12_because 15 = .ok (.getfield 228, 3) := by decide +kernel
theorem dX12_because_18 : decode cX12_because 18 = .ok (.iconst 3, 1) := by decide +kernel
theorem dX12_because_19 : decode cX12_because 19 = .ok (.iload_n 1, 1) := by decide +kernel
theorem dX12_because_20 : decode cX12_because 20 = .ok (.imul, 1) := by decide +kernel
theorem dX12_because_21 : decode cX12_because 21 = .ok (.iload_n 2, 1) := by decide +kernel
theorem dX12_because_22 : decode cX12_because 22 = .ok (.iadd, 1) := by decide +kernel
theorem dX12_because_23 : decode cX12_because 23 = .ok (.iconst (-1), 1) := by decide +kernel
theorem dX12_because_24 : decode cX12_because 24 = .ok (.iastore, 1) := by decide +kernel
theorem dX12_because_25 : decode cX12_because 25 = .ok (.iinc 2 1, 3) := by decide +kernel
theorem dX12_because_28 : decode cX12_because 28 = .ok (.goto (-19), 3) := by decide +kernel
theorem dX12_because_31 : decode cX12_because 31 = .ok (.aload_n 0, 1) := by decide +kernel
theorem dX12_because_32 : decode cX12_because 32 = .ok (.getfield 222, 3) := by decide +kernel
theorem dX12_because_35 : decode cX12_because 35 = .ok (.iload_n 1, 1) := by decide +kernel
theorem dX12_because_36 : decode cX12_because 36 = .ok (.iconst 3, 1) := by decide +kernel
theorem dX12_because_37 : decode cX12_because 37 = .ok (.iastore, 1) := by decide +kernel
theorem dX12_because_38 : decode cX12_because 38 = .ok (.iconst (-1), 1) := by decide +kernel
theorem dX12_because_39 : decode cX12_because 39 = .ok (.istore_n 2, 1) := by decide +kernel
theorem dX12_because_40 : decode cX12_because 40 = .ok (.aload_n 0, 1) := by decide +kernel
theorem dX12_because_41 : decode cX12_because 41 = .ok (.getfield 207, 3) := by decide +kernel
theorem dX12_because_44 : decode cX12_because 44 = .ok (.iload_n 1, 1) := by decide +kernel
theorem dX12_because_45 : decode cX12_because 45 = .ok (.baload, 1) := by decide +kernel
theorem dX12_because_46 : decode cX12_because 46 = .ok (.ifCond .eq 73, 3) := by decide +kernel
theorem dX12_because_49 : decode cX12_because 49 = .ok (.aload_n 0, 1) := by decide +kernel
theorem dX12_because_50 : decode cX12_because 50 = .ok (.getfield 222, 3) := by decide +kernel
theorem dX12_because_53 : decode cX12_because 53 = .ok (.iload_n 1, 1) := by decide +kernel
theorem dX12_because_54 : decode cX12_because 54 = .ok (.iconst 0, 1) := by decide +kernel
theorem dX12_because_55 : decode cX12_because 55 = .ok (.iastore, 1) := by decide +kernel
theorem dX12_because_56 : decode cX12_because 56 = .ok (.aload_n 0, 1) := by decide +kernel
theorem dX12_because_57 : decode cX12_because 57 = .ok (.getfield 204, 3) := by decide +kernel
theorem dX12_because_60 : decode cX12_because 60 = .ok (.iload_n 1, 1) := by decide +kernel
theorem dX12_because_61 : decode cX12_because 61 = .ok (.baload, 1) := by decide +kernel
theorem dX12_because_62 : decode cX12_because 62 = .ok (.ifCond .eq 4, 3) := by decide +kernel
theorem dX12_because_65 : decode cX12_because 65 = .ok (.return_, 1) := by decide +kernel
theorem dX12_because_66 : decode cX12_because 66 = .ok (.aload_n 0, 1) := by decide +kernel
theorem dX12_because_67 : decode cX12_because 67 = .ok (.getfield 192, 3) := by decide +kernel
theorem dX12_because_70 : decode cX12_because 70 = .ok (.iload_n 1, 1) := by decide +kernel
theorem dX12_because_71 : decode cX12_because 71 = .ok (.iaload, 1) := by decide +kernel
theorem dX12_because_72 : decode cX12_because 72 = .ok (.istore_n 3, 1) := by decide +kernel
theorem dX12_because_73 : decode cX12_because 73 = .ok (.iload_n 3, 1) := by decide +kernel
theorem dX12_because_74 : decode cX12_because 74 = .ok (.iconst (-1), 1) := by decide +kernel
theorem dX12_because_75 : decode cX12_because 75 = .ok (.if_icmp .eq 41, 3) := by decide +kernel
theorem dX12_because_78 : decode cX12_because 78 = .ok (.iload_n 2, 1) := by decide +kernel
theorem dX12_because_79 : decode cX12_because 79 = .ok (.iconst (-1), 1) := by decide +kernel
theorem dX12_because_80 : decode cX12_because 80 = .ok (.if_icmp .ne 36, 3) := by decide +kernel
theorem dX12_because_83 : decode cX12_because 83 = .ok (.aload_n 0, 1) := by decide +kernel
theorem dX12_because_84 : decode cX12_because 84 = .ok (.getfield 85, 3) := by decide +kernel
theorem dX12_because_87 : decode cX12_because 87 = .ok (.iload_n 3, 1) := by decide +kernel
theorem dX12_because_88 : decode cX12_because 88 = .ok (.bipush 125, 2) := by decide +kernel
theorem dX12_because_90 : decode cX12_because 90 = .ok (.idiv, 1) := by decide +kernel
theorem dX12_because_91 : decode cX12_because 91 = .ok (.iaload, 1) := by decide +kernel
theorem dX12_because_92 : decode cX12_because 92 = .ok (.ifCond .ne 14, 3) := by decide +kernel
theorem dX12_because_95 : decode cX12_because 95 = .ok (.aload_n 0, 1) := by decide +kernel
theorem dX12_because_96 : decode cX12_because 96 = .ok (.getfield 198, 3) := by decide +kernel
theorem dX12_because_99 : decode cX12_because 99 = .ok (.iload_n 3, 1) := by decide +kernel
theorem dX12_because_100 : decode cX12_because 100 = .ok (.baload, 1) := by decide +kernel
theorem dX12_because_101 : decode cX12_because 101 = .ok (.ifCond .eq 5, 3) := by decide +kernel
theorem dX12_because_104 : decode cX12_because 104 = .ok (.iload_n 3, 1) := by decide +kernel
theorem dX12_because_105 : decode cX12_because 105 = .ok (.istore_n 2, 1) := by decide +kernel
theorem dX12_because_106 : decode cX12_because 106 = .ok (.aload_n 0, 1) := by decide +kernel
theorem dX12_because_107 : decode cX12_because 107 = .ok (.getfield 189, 3) := by decide +kernel
theorem dX12_because_110 : decode cX12_because 110 = .ok (.iload_n 3, 1) := by decide +kernel
theorem dX12_because_111 : decode cX12_because 111 = .ok (.iaload, 1) := by decide +kernel
theorem dX12_because_112 : decode cX12_because 112 = .ok (.istore_n 3, 1) := by decide +kernel
theorem dX12_because_113 : decode cX12_because 113 = .ok (.goto (-40), 3) := by decide +kernel
theorem dX12_because_116 : decode cX12_because 116 = .ok (.goto 78, 3) := by decide +kernel
theorem dX12_because_119 : decode cX12_because 119 = .ok (.aload_n 0, 1) := by decide +kernel
theorem dX12_because_120 : decode cX12_because 120 = .ok (.getfield 210, 3) := by decide +kernel
theorem dX12_because_123 : decode cX12_because 123 = .ok (.iload_n 1, 1) := by decide +kernel
theorem dX12_because_124 : decode cX12_because 124 = .ok (.baload, 1) := by decide +kernel
theorem dX12_because_125 : decode cX12_because 125 = .ok (.ifCond .eq 69, 3) := by decide +kernel
theorem dX12_because_128 : decode cX12_because 128 = .ok (.aload_n 0, 1) := by decide +kernel
theorem dX12_because_129 : decode cX12_because 129 = .ok (.getfield 222, 3) := by decide +kernel
theorem dX12_because_132 : decode cX12_because 132 = .ok (.iload_n 1, 1) := by decide +kernel
theorem dX12_because_133 : decode cX12_because 133 = .ok (.iconst 0, 1) := by decide +kernel
theorem dX12_because_134 : decode cX12_because 134 = .ok (.iastore, 1) := by decide +kernel
theorem dX12_because_135 : decode cX12_because 135 = .ok (.aload_n 0, 1) := by decide +kernel
theorem dX12_because_136 : decode cX12_because 136 = .ok (.getfield 204, 3) := by decide +kernel
theorem dX12_because_139 : decode cX12_because 139 = .ok (.iload_n 1, 1) := by decide +kernel
theorem dX12_because_140 : decode cX12_because 140 = .ok (.iconst 1, 1) := by decide +kernel
theorem dX12_because_141 : decode cX12_because 141 = .ok (.ixor, 1) := by decide +kernel
theorem dX12_because_142 : decode cX12_because 142 = .ok (.baload, 1) := by decide +kernel
theorem dX12_because_143 : decode cX12_because 143 = .ok (.ifCond .eq 4, 3) := by decide +kernel
theorem dX12_because_146 : decode cX12_because 146 = .ok (.return_, 1) := by decide +kernel
theorem dX12_because_147 : decode cX12_because 147 = .ok (.aload_n 0, 1) := by decide +kernel
theorem dX12_because_148 : decode cX12_because 148 = .ok (.getfield 222, 3) := by decide +kernel
theorem dX12_because_151 : decode cX12_because 151 = .ok (.iload_n 1, 1) := by decide +kernel
theorem dX12_because_152 : decode cX12_because 152 = .ok (.iconst 2, 1) := by decide +kernel
theorem dX12_because_153 : decode cX12_because 153 = .ok (.iastore, 1) := by decide +kernel
theorem dX12_because_154 : decode cX12_because 154 = .ok (.aload_n 0, 1) := by decide +kernel
theorem dX12_because_155 : decode cX12_because 155 = .ok (.getfield 192, 3) := by decide +kernel
theorem dX12_because_158 : decode cX12_because 158 = .ok (.iload_n 1, 1) := by decide +kernel
theorem dX12_because_159 : decode cX12_because 159 = .ok (.iconst 1, 1) := by decide +kernel
theorem dX12_because_160 : decode cX12_because 160 = .ok (.ixor, 1) := by decide +kernel
theorem dX12_because_161 : decode cX12_because 161 = .ok (.iaload, 1) := by decide +kernel
theorem dX12_because_162 : decode cX12_because 162 = .ok (.istore_n 3, 1) := by decide +kernel
theorem dX12_because_163 : decode cX12_because 163 = .ok (.iload_n 3, 1) := by decide +kernel
theorem dX12_because_164 : decode cX12_because 164 = .ok (.iconst (-1), 1) := by decide +kernel
theorem dX12_because_165 : decode cX12_because 165 = .ok (.if_icmp .eq 29, 3) := by decide +kernel
theorem dX12_because_168 : decode cX12_because 168 = .ok (.iload_n 2, 1) := by decide +kernel
theorem dX12_because_169 : decode cX12_because 169 = .ok (.iconst (-1), 1) := by decide +kernel
theorem dX12_because_170 : decode cX12_because 170 = .ok (.if_icmp .ne 24, 3) := by decide +kernel
theorem dX12_because_173 : decode cX12_because 173 = .ok (.aload_n 0, 1) := by decide +kernel
theorem dX12_because_174 : decode cX12_because 174 = .ok (.iload_n 3, 1) := by decide +kernel
theorem dX12_because_175 : decode cX12_because 175 = .ok (.iload_n 1, 1) := by decide +kernel
theorem dX12_because_176 : decode cX12_because 176 = .ok (.invokevirtual 562, 3) := by decide +kernel
theorem dX12_because_179 : decode cX12_because 179 = .ok (.ifCond .eq 5, 3) := by decide +kernel
theorem dX12_because_182 : decode cX12_because 182 = .ok (.iload_n 3, 1) := by decide +kernel
theorem dX12_because_183 : decode cX12_because 183 = .ok (.istore_n 2, 1) := by decide +kernel
theorem dX12_because_184 : decode cX12_because 184 = .ok (.aload_n 0, 1) := by decide +kernel
theorem dX12_because_185 : decode cX12_because 185 = .ok (.getfield 189, 3) := by decide +kernel
theorem dX12_because_188 : decode cX12_because 188 = .ok (.iload_n 3, 1) := by decide +kernel
theorem dX12_because_189 : decode cX12_because 189 = .ok (.iaload, 1) := by decide +kernel
theorem dX12_because_190 : decode cX12_because 190 = .ok (.istore_n 3, 1) := by decide +kernel
theorem dX12_because_191 : decode cX12_because 191 = .ok (.goto (-28), 3) := by decide +kernel
theorem dX12_because_194 : decode cX12_because 194 = .ok (.iload_n 2, 1) := by decide +kernel
theorem dX12_because_195 : decode cX12_because 195 = .ok (.iconst (-1), 1) := by decide +kernel
theorem dX12_because_196 : decode cX12_because 196 = .ok (.if_icmp .ne 4, 3) := by decide +kernel
theorem dX12_because_199 : decode cX12_because 199 = .ok (.return_, 1) := by decide +kernel
theorem dX12_because_200 : decode cX12_because 200 = .ok (.aload_n 0, 1) := by decide +kernel
theorem dX12_because_201 : decode cX12_because 201 = .ok (.getfield 222, 3) := by decide +kernel
theorem dX12_because_204 : decode cX12_because 204 = .ok (.iload_n 1, 1) := by decide +kernel
theorem dX12_because_205 : decode cX12_because 205 = .ok (.iconst 1, 1) := by decide +kernel
theorem dX12_because_206 : decode cX12_because 206 = .ok (.iastore, 1) := by decide +kernel
theorem dX12_because_207 : decode cX12_because 207 = .ok (.aload_n 0, 1) := by decide +kernel
theorem dX12_because_208 : decode cX12_because 208 = .ok (.getfield 225, 3) := by decide +kernel
theorem dX12_because_211 : decode cX12_because 211 = .ok (.iload_n 1, 1) := by decide +kernel
theorem dX12_because_212 : decode cX12_because 212 = .ok (.iload_n 2, 1) := by decide +kernel
theorem dX12_because_213 : decode cX12_because 213 = .ok (.bipush 125, 2) := by decide +kernel
theorem dX12_because_215 : decode cX12_because 215 = .ok (.idiv, 1) := by decide +kernel
theorem dX12_because_216 : decode cX12_because 216 = .ok (.iastore, 1) := by decide +kernel
theorem dX12_because_217 : decode cX12_because 217 = .ok (.aload_n 0, 1) := by decide +kernel
theorem dX12_because_218 : decode cX12_because 218 = .ok (.iload_n 2, 1) := by decide +kernel
theorem dX12_because_219 : decode cX12_because 219 = .ok (.bipush 125, 2) := by decide +kernel
theorem dX12_because_221 : decode cX12_because 221 = .ok (.idiv, 1) := by decide +kernel
theorem dX12_because_222 : decode cX12_because 222 = .ok (.iload_n 2, 1) := by decide +kernel
theorem dX12_because_223 : decode cX12_because 223 = .ok (.bipush 125, 2) := by decide +kernel
theorem dX12_because_225 : decode cX12_because 225 = .ok (.irem, 1) := by decide +kernel
theorem dX12_because_226 : decode cX12_because 226 = .ok (.invokevirtual 546, 3) := by decide +kernel
theorem dX12_because_229 : decode cX12_because 229 = .ok (.iconst 0, 1) := by decide +kernel
theorem dX12_because_230 : decode cX12_because 230 = .ok (.istore_n 3, 1) := by decide +kernel
theorem dX12_because_231 : decode cX12_because 231 = .ok (.iload_n 3, 1) := by decide +kernel
theorem dX12_because_232 : decode cX12_because 232 = .ok (.iconst 3, 1) := by decide +kernel
theorem dX12_because_233 : decode cX12_because 233 = .ok (.if_icmp .ge 25, 3) := by decide +kernel
theorem dX12_because_236 : decode cX12_because 236 = .ok (.aload_n 0, 1) := by decide +kernel
theorem dX12_because_237 : decode cX12_because 237 = .ok (.getfield 228, 3) := by decide +kernel
theorem dX12_because_240 : decode cX12_because 240 = .ok (.iconst 3, 1) := by decide +kernel
theorem dX12_because_241 : decode cX12_because 241 = .ok (.iload_n 1, 1) := by decide +kernel
theorem dX12_because_242 : decode cX12_because 242 = .ok (.imul, 1) := by decide +kernel
theorem dX12_because_243 : decode cX12_because 243 = .ok (.iload_n 3, 1) := by decide +kernel
theorem dX12_because_244 : decode cX12_because 244 = .ok (.iadd, 1) := by decide +kernel
theorem dX12_because_245 : decode cX12_because 245 = .ok (.aload_n 0, 1) := by decide +kernel
theorem dX12_because_246 : decode cX12_because 246 = .ok (.getfield 216, 3) := by decide +kernel
theorem dX12_because_249 : decode cX12_because 249 = .ok (.iload_n 3, 1) := by decide +kernel
theorem dX12_because_250 : decode cX12_because 250 = .ok (.iaload, 1) := by decide +kernel
theorem dX12_because_251 : decode cX12_because 251 = .ok (.iastore, 1) := by decide +kernel
theorem dX12_because_252 : decode cX12_because 252 = .ok (.iinc 3 1, 3) := by decide +kernel
theorem dX12_because_255 : decode cX12_because 255 = .ok (.goto (-24), 3) := by decide +kernel
theorem dX12_because_258 : decode cX12_because 258 = .ok (.return_, 1) := by decide +kernel
def fX12_because_231F (k231 : MS → Int32 → Int32 → Option (MS)) (h : MS) (x1 : Int32) (x3 : Int32) : Option (MS) :=
  if 3 ≤ x3 then (some (h)) else (oC (ix x3 (mlen 95)) (oC (ix ((3 * x1) + x3) (mlen 107)) (oL (mSA h 107 (Int32.toNatClampNeg ((3 * x1) + x3)) (mA h 95 (Int32.toNatClampNeg x3))) (fun h4 => oL (x3 + 1) (fun y5 => k231 h4 x1 y5)))))
set_option maxHeartbeats 4000000 in
theorem wfX12_because_231F {args : Array Value} (b : Bd p s m c cX12_because 4 RX12 D aC) (hlk : meth.locks = false) (hr : meth.sig.returnType = none) {Z : State → Prop} (zs : Z s) (zk : ZOK Z (Rg ad)) {hz : MS} {k231 : MS → Int32 → Int32 → Option (MS)} (H231 : ∀ (h : MS) (x1 : Int32) (x3 : Int32), ∀ (H : Heap) (locs : List Loc) (ls : Array Slot), k231 h x1 x3 = some hz → CE (EM D aC ad h) (Rg ad) s H locs → lv_has ls 4 [(0, .ref (ad 116)), (1, .int x1), (3, .int x3)] → W p l e (RM 1 24 0 0) s m args below meth c H locs 0 0 (MQ below (PQ (EM D aC ad hz) (Rg ad) none) args s 0 0 (Rg ad)) (F0 m 231 ls [])) {h : MS} {x1 : Int32} {x3 : Int32}  {H : Heap} {locs : List Loc} {ls : Array Slot} (hf : fX12_because_231F k231 h x1 x3 = some hz) (hE : CE (EM D aC ad h) (Rg ad) s H locs) (hl : lv_has ls 4 [(0, .ref (ad 116)), (1, .int x1), (3, .int x3)]) : W p l e (RM 1 24 0 0) s m args below meth c H locs 0 0 (MQ below (PQ (EM D aC ad hz) (Rg ad) none) args s 0 0 (Rg ad)) (F0 m 231 ls []) := by
  unfold fX12_because_231F at hf
  refine lv_iload_n b.1 b.2.1 dX12_because_231 rfl (lv_at hl 2 rfl) ?_
  refine lv_iconst (v := 3) b.1 b.2.1 dX12_because_232 (by decide) ?_
  refine lv_icmp_ge (tgt := 258) b.1 b.2.1 dX12_because_233 (by decide) (fun c1 => ?_) (fun c1 => ?_)
  · have hf := oI_t c1 hf
    cases hf
    exact k_vret b hlk hr hE (Nat.le_refl _) (Nat.le_refl _) dX12_because_258
  · have hf := oI_f c1 hf
    refine lv_aload_n b.1 b.2.1 dX12_because_236 rfl (lv_at hl 0 rfl) ?_
    refine gM_228 b hE dX12_because_237 ?_
    refine lv_iconst (v := 3) b.1 b.2.1 dX12_because_240 (by decide) ?_
    refine lv_iload_n b.1 b.2.1 dX12_because_241 rfl (lv_at hl 1 rfl) ?_
    refine lv_imul b.1 b.2.1 dX12_because_242 ?_
    refine lv_iload_n b.1 b.2.1 dX12_because_243 rfl (lv_at hl 2 rfl) ?_
    refine lv_iadd b.1 b.2.1 dX12_because_244 ?_
    refine lv_aload_n b.1 b.2.1 dX12_because_245 rfl (lv_at hl 0 rfl) ?_
    refine gM_216 b hE dX12_because_246 ?_
    refine lv_iload_n b.1 b.2.1 dX12_because_249 rfl (lv_at hl 2 rfl) ?_
    obtain ⟨g2, hf⟩ := oC_s hf
    refine m_iald b hE rfl rfl g2 dX12_because_250 ?_
    obtain ⟨g3, hf⟩ := oC_s hf
    obtain ⟨h4, eh4, hf⟩ := oL_s hf
    refine n_iast b hE rfl rfl g3 eh4 dX12_because_251 (fun H locs hE => ?_)
    obtain ⟨y5, ey5, hf⟩ := oL_s hf
    refine lv_iinc (v := y5) (lv' := [(3, .int y5), (0, .ref (ad 116)), (1, .int x1)]) b.1 b.2.1 dX12_because_252 hl (k := 2) rfl (by rw [ey5]; rfl) (by decide) rfl (fun ls hl => ?_)
    refine lv_goto (tgt := 231) b.1 b.2.1 dX12_because_255 (by decide) ?_
    exact H231 h4 x1 y5 _ _ _ hf hE (lv_sub hl [1, 2, 0] rfl)
def fX12_because_231  : Nat → MS → Int32 → Int32 → Option (MS)
  | 0 => fun _ _ _ => none
  | n + 1 => fX12_because_231F  (fX12_because_231  n)
set_option maxHeartbeats 4000000 in
theorem wfX12_because_231 {args : Array Value} (b : Bd p s m c cX12_because 4 RX12 D aC) (hlk : meth.locks = false) (hr : meth.sig.returnType = none) {Z : State → Prop} (zs : Z s) (zk : ZOK Z (Rg ad)) {hz : MS} : ∀ n : Nat, ∀ (h : MS) (x1 : Int32) (x3 : Int32), ∀ (H : Heap) (locs : List Loc) (ls : Array Slot), fX12_because_231  n h x1 x3 = some hz → CE (EM D aC ad h) (Rg ad) s H locs → lv_has ls 4 [(0, .ref (ad 116)), (1, .int x1), (3, .int x3)] → W p l e (RM 1 24 0 0) s m args below meth c H locs 0 0 (MQ below (PQ (EM D aC ad hz) (Rg ad) none) args s 0 0 (Rg ad)) (F0 m 231 ls []) := by
  intro n
  induction n with
  | zero =>
    intro h x1 x3 H locs ls hf
    have hf : (none : Option (MS)) = some _ := hf
    cases hf
  | succ n ih =>
    intro h x1 x3 H locs ls hf hE hl
    exact wfX12_because_231F b hlk hr zs zk  ih hf hE hl
def fX12_because_194  (h : MS) (x1 : Int32) (x2 : Int32) : Option (MS) :=
  if x2 = (-1) then (some (h)) else (oC (ix x1 (mlen 105)) (oL (mSA h 105 (Int32.toNatClampNeg x1) 1) (fun h8 => oC (ix x1 (mlen 106)) (oL (mSA h8 106 (Int32.toNatClampNeg x1) (x2 / 125)) (fun h10 => oB (fX12_gives h10 (x2 / 125) (x2 - x2 / 125 * 125)) (fun h12 => fX12_because_231  FU h12 x1 0))))))
set_option maxHeartbeats 4000000 in
theorem wfX12_because_194 {args : Array Value} (b : Bd p s m c cX12_because 4 RX12 D aC) (hlk : meth.locks = false) (hr : meth.sig.returnType = none) {Z : State → Prop} (zs : Z s) (zk : ZOK Z (Rg ad)) {hz : MS} {h : MS} {x1 : Int32} {x2 : Int32}  {H : Heap} {locs : List Loc} {ls : Array Slot} (hf : fX12_because_194 h x1 x2 = some hz) (hE : CE (EM D aC ad h) (Rg ad) s H locs) (hl : lv_has ls 4 [(0, .ref (ad 116)), (1, .int x1), (2, .int x2)]) : W p l e (RM 1 24 0 0) s m args below meth c H locs 0 0 (MQ below (PQ (EM D aC ad hz) (Rg ad) none) args s 0 0 (Rg ad)) (F0 m 194 ls []) := by
  unfold fX12_because_194 at hf
  refine lv_iload_n b.1 b.2.1 dX12_because_194 rfl (lv_at hl 2 rfl) ?_
  refine lv_iconst (v := (-1)) b.1 b.2.1 dX12_because_195 (by decide) ?_
  refine lv_icmp_ne (tgt := 200) b.1 b.2.1 dX12_because_196 (by decide) (fun c6 => ?_) (fun c6 => ?_)
  · have hf := oI_f c6 hf
    refine lv_aload_n b.1 b.2.1 dX12_because_200 rfl (lv_at hl 0 rfl) ?_
    refine gM_222 b hE dX12_because_201 ?_
    refine lv_iload_n b.1 b.2.1 dX12_because_204 rfl (lv_at hl 1 rfl) ?_
    refine lv_iconst (v := 1) b.1 b.2.1 dX12_because_205 (by decide) ?_
    obtain ⟨g7, hf⟩ := oC_s hf
    obtain ⟨h8, eh8, hf⟩ := oL_s hf
    refine n_iast b hE rfl rfl g7 eh8 dX12_because_206 (fun H locs hE => ?_)
    refine lv_aload_n b.1 b.2.1 dX12_because_207 rfl (lv_at hl 0 rfl) ?_
    refine gM_225 b hE dX12_because_208 ?_
    refine lv_iload_n b.1 b.2.1 dX12_because_211 rfl (lv_at hl 1 rfl) ?_
    refine lv_iload_n b.1 b.2.1 dX12_because_212 rfl (lv_at hl 2 rfl) ?_
    refine lv_bipush (v := 125) b.1 b.2.1 dX12_because_213 (by decide) ?_
    refine lv_idiv b.1 b.2.1 dX12_because_215 (by decide) ?_
    obtain ⟨g9, hf⟩ := oC_s hf
    obtain ⟨h10, eh10, hf⟩ := oL_s hf
    refine n_iast b hE rfl rfl g9 eh10 dX12_because_216 (fun H locs hE => ?_)
    refine lv_aload_n b.1 b.2.1 dX12_because_217 rfl (lv_at hl 0 rfl) ?_
    refine lv_iload_n b.1 b.2.1 dX12_because_218 rfl (lv_at hl 2 rfl) ?_
    refine lv_bipush (v := 125) b.1 b.2.1 dX12_because_219 (by decide) ?_
    refine lv_idiv b.1 b.2.1 dX12_because_221 (by decide) ?_
    refine lv_iload_n b.1 b.2.1 dX12_because_222 rfl (lv_at hl 2 rfl) ?_
    refine lv_bipush (v := 125) b.1 b.2.1 dX12_because_223 (by decide) ?_
    refine lv_irem b.1 b.2.1 dX12_because_225 (by decide) ?_
    obtain ⟨h12, hc11, hf⟩ := oB_s hf
    refine k_callV0 (C := RX12) b zs zk hE (CX12_gives l D aC ad zk hc11) mc_X12_gives (in8 13 rfl rfl) mi_X12_gives ms_X12_gives ini_RX12 ok_X12_gives (m_recv b hE) ⟨Nat.le_of_ble_eq_true rfl, Nat.le_of_ble_eq_true rfl⟩ rfl hl.1 rfl (k_room _ (by exact Nat.le_of_ble_eq_true rfl)) ⟨Nat.le_refl _, Nat.le_refl _⟩ dX12_because_226 (fun H locs hE => ?_)
    refine lv_iconst (v := 0) b.1 b.2.1 dX12_because_229 (by decide) ?_
    refine lv_istore_n (lv' := [(3, .int 0), (0, .ref (ad 116)), (1, .int x1), (2, .int x2)]) b.1 b.2.1 dX12_because_230 rfl hl (by decide) rfl (fun ls hl => ?_)
    have hl := lv_sub (l' := [(3, .int 0), (0, .ref (ad 116)), (1, .int x1)]) hl [0, 1, 2] rfl
    exact wfX12_because_231 b hlk hr zs zk  FU h12 x1 0 _ _ _ hf hE (lv_sub hl [1, 2, 0] rfl)
  · have hf := oI_t c6 hf
    cases hf
    exact k_vret b hlk hr hE (Nat.le_refl _) (Nat.le_refl _) dX12_because_199
def fX12_because_184 (k163 : MS → Int32 → Int32 → Int32 → Option (MS)) (h : MS) (x1 : Int32) (x2 : Int32) (x3 : Int32) : Option (MS) :=
  oC (ix x3 (mlen 86)) (oL (mA h 86 (Int32.toNatClampNeg x3)) (fun y14 => k163 h x1 x2 y14))
set_option maxHeartbeats 4000000 in
theorem wfX12_because_184 {args : Array Value} (b : Bd p s m c cX12_because 4 RX12 D aC) (hlk : meth.locks = false) (hr : meth.sig.returnType = none) {Z : State → Prop} (zs : Z s) (zk : ZOK Z (Rg ad)) {hz : MS} {k163 : MS → Int32 → Int32 → Int32 → Option (MS)} (H163 : ∀ (h : MS) (x1 : Int32) (x2 : Int32) (x3 : Int32), ∀ (H : Heap) (locs : List Loc) (ls : Array Slot), k163 h x1 x2 x3 = some hz → CE (EM D aC ad h) (Rg ad) s H locs → lv_has ls 4 [(0, .ref (ad 116)), (1, .int x1), (2, .int x2), (3, .int x3)] → W p l e (RM 1 24 0 0) s m args below meth c H locs 0 0 (MQ below (PQ (EM D aC ad hz) (Rg ad) none) args s 0 0 (Rg ad)) (F0 m 163 ls [])) {h : MS} {x1 : Int32} {x2 : Int32} {x3 : Int32}  {H : Heap} {locs : List Loc} {ls : Array Slot} (hf : fX12_because_184 k163 h x1 x2 x3 = some hz) (hE : CE (EM D aC ad h) (Rg ad) s H locs) (hl : lv_has ls 4 [(0, .ref (ad 116)), (1, .int x1), (2, .int x2), (3, .int x3)]) : W p l e (RM 1 24 0 0) s m args below meth c H locs 0 0 (MQ below (PQ (EM D aC ad hz) (Rg ad) none) args s 0 0 (Rg ad)) (F0 m 184 ls []) := by
  unfold fX12_because_184 at hf
  refine lv_aload_n b.1 b.2.1 dX12_because_184 rfl (lv_at hl 0 rfl) ?_
  refine gM_189 b hE dX12_because_185 ?_
  refine lv_iload_n b.1 b.2.1 dX12_because_188 rfl (lv_at hl 3 rfl) ?_
  obtain ⟨g13, hf⟩ := oC_s hf
  refine m_iald b hE rfl rfl g13 dX12_because_189 ?_
  obtain ⟨y14, ey14, hf⟩ := oL_s hf
  refine k_nmI ey14 ?_
  refine lv_istore_n (lv' := [(3, .int y14), (0, .ref (ad 116)), (1, .int x1), (2, .int x2)]) b.1 b.2.1 dX12_because_190 rfl hl (by decide) rfl (fun ls hl => ?_)
  refine lv_goto (tgt := 163) b.1 b.2.1 dX12_because_191 (by decide) ?_
  exact H163 h x1 x2 y14 _ _ _ hf hE (lv_sub hl [1, 2, 3, 0] rfl)
def fX12_because_163F (k163 : MS → Int32 → Int32 → Int32 → Option (MS)) (h : MS) (x1 : Int32) (x2 : Int32) (x3 : Int32) : Option (MS) :=
  if x3 = (-1) then (fX12_because_194  h x1 x2) else (if x2 = (-1) then (oB (fX12_isAgainst h x3 x1) (fun r18 => if r18 = 0 then (fX12_because_184 k163 h x1 x2 x3) else (fX12_because_184 k163 h x1 x3 x3))) else (fX12_because_194  h x1 x2))
set_option maxHeartbeats 4000000 in
theorem wfX12_because_163F {args : Array Value} (b : Bd p s m c cX12_because 4 RX12 D aC) (hlk : meth.locks = false) (hr : meth.sig.returnType = none) {Z : State → Prop} (zs : Z s) (zk : ZOK Z (Rg ad)) {hz : MS} {k163 : MS → Int32 → Int32 → Int32 → Option (MS)} (H163 : ∀ (h : MS) (x1 : Int32) (x2 : Int32) (x3 : Int32), ∀ (H : Heap) (locs : List Loc) (ls : Array Slot), k163 h x1 x2 x3 = some hz → CE (EM D aC ad h) (Rg ad) s H locs → lv_has ls 4 [(0, .ref (ad 116)), (1, .int x1), (2, .int x2), (3, .int x3)] → W p l e (RM 1 24 0 0) s m args below meth c H locs 0 0 (MQ below (PQ (EM D aC ad hz) (Rg ad) none) args s 0 0 (Rg ad)) (F0 m 163 ls [])) {h : MS} {x1 : Int32} {x2 : Int32} {x3 : Int32}  {H : Heap} {locs : List Loc} {ls : Array Slot} (hf : fX12_because_163F k163 h x1 x2 x3 = some hz) (hE : CE (EM D aC ad h) (Rg ad) s H locs) (hl : lv_has ls 4 [(0, .ref (ad 116)), (1, .int x1), (2, .int x2), (3, .int x3)]) : W p l e (RM 1 24 0 0) s m args below meth c H locs 0 0 (MQ below (PQ (EM D aC ad hz) (Rg ad) none) args s 0 0 (Rg ad)) (F0 m 163 ls []) := by
  unfold fX12_because_163F at hf
  refine lv_iload_n b.1 b.2.1 dX12_because_163 rfl (lv_at hl 3 rfl) ?_
  refine lv_iconst (v := (-1)) b.1 b.2.1 dX12_because_164 (by decide) ?_
  refine lv_icmp_eq (tgt := 194) b.1 b.2.1 dX12_because_165 (by decide) (fun c15 => ?_) (fun c15 => ?_)
  · have hf := oI_t c15 hf
    exact wfX12_because_194 b hlk hr zs zk  hf hE (lv_sub hl [0, 1, 2] rfl)
  · have hf := oI_f c15 hf
    refine lv_iload_n b.1 b.2.1 dX12_because_168 rfl (lv_at hl 2 rfl) ?_
    refine lv_iconst (v := (-1)) b.1 b.2.1 dX12_because_169 (by decide) ?_
    refine lv_icmp_ne (tgt := 194) b.1 b.2.1 dX12_because_170 (by decide) (fun c16 => ?_) (fun c16 => ?_)
    · have hf := oI_f c16 hf
      exact wfX12_because_194 b hlk hr zs zk  hf hE (lv_sub hl [0, 1, 2] rfl)
    · have hf := oI_t c16 hf
      refine lv_aload_n b.1 b.2.1 dX12_because_173 rfl (lv_at hl 0 rfl) ?_
      refine lv_iload_n b.1 b.2.1 dX12_because_174 rfl (lv_at hl 3 rfl) ?_
      refine lv_iload_n b.1 b.2.1 dX12_because_175 rfl (lv_at hl 1 rfl) ?_
      obtain ⟨r18, hc17, hf⟩ := oB_s hf
      refine k_callV0 (C := RX12) b zs zk hE (CX12_isAgainst l D aC ad zk hc17) mc_X12_isAgainst (in8 72 rfl rfl) mi_X12_isAgainst ms_X12_isAgainst ini_RX12 ok_X12_isAgainst (m_recv b hE) ⟨Nat.le_of_ble_eq_true rfl, Nat.le_of_ble_eq_true rfl⟩ rfl hl.1 rfl (k_room _ (by exact Nat.le_of_ble_eq_true rfl)) ⟨Nat.le_refl _, Nat.le_refl _⟩ dX12_because_176 (fun H locs hE => ?_)
      refine lv_if_eq (tgt := 184) b.1 b.2.1 dX12_because_179 (by decide) (fun c19 => ?_) (fun c19 => ?_)
      · have hf := oI_t c19 hf
        exact wfX12_because_184 b hlk hr zs zk H163 hf hE (lv_sub hl [0, 1, 2, 3] rfl)
      · have hf := oI_f c19 hf
        refine lv_iload_n b.1 b.2.1 dX12_because_182 rfl (lv_at hl 3 rfl) ?_
        refine lv_istore_n (lv' := [(2, .int x3), (0, .ref (ad 116)), (1, .int x1), (3, .int x3)]) b.1 b.2.1 dX12_because_183 rfl hl (by decide) rfl (fun ls hl => ?_)
        exact wfX12_because_184 b hlk hr zs zk H163 hf hE (lv_sub hl [1, 2, 0, 3] rfl)
def fX12_because_163  : Nat → MS → Int32 → Int32 → Int32 → Option (MS)
  | 0 => fun _ _ _ _ => none
  | n + 1 => fX12_because_163F  (fX12_because_163  n)
set_option maxHeartbeats 4000000 in
theorem wfX12_because_163 {args : Array Value} (b : Bd p s m c cX12_because 4 RX12 D aC) (hlk : meth.locks = false) (hr : meth.sig.returnType = none) {Z : State → Prop} (zs : Z s) (zk : ZOK Z (Rg ad)) {hz : MS} : ∀ n : Nat, ∀ (h : MS) (x1 : Int32) (x2 : Int32) (x3 : Int32), ∀ (H : Heap) (locs : List Loc) (ls : Array Slot), fX12_because_163  n h x1 x2 x3 = some hz → CE (EM D aC ad h) (Rg ad) s H locs → lv_has ls 4 [(0, .ref (ad 116)), (1, .int x1), (2, .int x2), (3, .int x3)] → W p l e (RM 1 24 0 0) s m args below meth c H locs 0 0 (MQ below (PQ (EM D aC ad hz) (Rg ad) none) args s 0 0 (Rg ad)) (F0 m 163 ls []) := by
  intro n
  induction n with
  | zero =>
    intro h x1 x2 x3 H locs ls hf
    have hf : (none : Option (MS)) = some _ := hf
    cases hf
  | succ n ih =>
    intro h x1 x2 x3 H locs ls hf hE hl
    exact wfX12_because_163F b hlk hr zs zk  ih hf hE hl
def fX12_because_106 (k73 : MS → Int32 → Int32 → Int32 → Option (MS)) (h : MS) (x1 : Int32) (x2 : Int32) (x3 : Int32) : Option (MS) :=
  oC (ix x3 (mlen 86)) (oL (mA h 86 (Int32.toNatClampNeg x3)) (fun y21 => k73 h x1 x2 y21))
set_option maxHeartbeats 4000000 in
theorem wfX12_because_106 {args : Array Value} (b : Bd p s m c cX12_because 4 RX12 D aC) (hlk : meth.locks = false) (hr : meth.sig.returnType = none) {Z : State → Prop} (zs : Z s) (zk : ZOK Z (Rg ad)) {hz : MS} {k73 : MS → Int32 → Int32 → Int32 → Option (MS)} (H73 : ∀ (h : MS) (x1 : Int32) (x2 : Int32) (x3 : Int32), ∀ (H : Heap) (locs : List Loc) (ls : Array Slot), k73 h x1 x2 x3 = some hz → CE (EM D aC ad h) (Rg ad) s H locs → lv_has ls 4 [(0, .ref (ad 116)), (1, .int x1), (2, .int x2), (3, .int x3)] → W p l e (RM 1 24 0 0) s m args below meth c H locs 0 0 (MQ below (PQ (EM D aC ad hz) (Rg ad) none) args s 0 0 (Rg ad)) (F0 m 73 ls [])) {h : MS} {x1 : Int32} {x2 : Int32} {x3 : Int32}  {H : Heap} {locs : List Loc} {ls : Array Slot} (hf : fX12_because_106 k73 h x1 x2 x3 = some hz) (hE : CE (EM D aC ad h) (Rg ad) s H locs) (hl : lv_has ls 4 [(0, .ref (ad 116)), (1, .int x1), (2, .int x2), (3, .int x3)]) : W p l e (RM 1 24 0 0) s m args below meth c H locs 0 0 (MQ below (PQ (EM D aC ad hz) (Rg ad) none) args s 0 0 (Rg ad)) (F0 m 106 ls []) := by
  unfold fX12_because_106 at hf
  refine lv_aload_n b.1 b.2.1 dX12_because_106 rfl (lv_at hl 0 rfl) ?_
  refine gM_189 b hE dX12_because_107 ?_
  refine lv_iload_n b.1 b.2.1 dX12_because_110 rfl (lv_at hl 3 rfl) ?_
  obtain ⟨g20, hf⟩ := oC_s hf
  refine m_iald b hE rfl rfl g20 dX12_because_111 ?_
  obtain ⟨y21, ey21, hf⟩ := oL_s hf
  refine k_nmI ey21 ?_
  refine lv_istore_n (lv' := [(3, .int y21), (0, .ref (ad 116)), (1, .int x1), (2, .int x2)]) b.1 b.2.1 dX12_because_112 rfl hl (by decide) rfl (fun ls hl => ?_)
  refine lv_goto (tgt := 73) b.1 b.2.1 dX12_because_113 (by decide) ?_
  exact H73 h x1 x2 y21 _ _ _ hf hE (lv_sub hl [1, 2, 3, 0] rfl)
def fX12_because_73F (k73 : MS → Int32 → Int32 → Int32 → Option (MS)) (h : MS) (x1 : Int32) (x2 : Int32) (x3 : Int32) : Option (MS) :=
  if x3 = (-1) then (fX12_because_194  h x1 x2) else (if x2 = (-1) then (oC (ix (x3 / 125) (mlen 40)) (if (mA h 40 (Int32.toNatClampNeg (x3 / 125))) = 0 then (oC (ix x3 (mlen 89)) (if (mA h 89 (Int32.toNatClampNeg x3)) = 0 then (fX12_because_106 k73 h x1 x2 x3) else (fX12_because_106 k73 h x1 x3 x3))) else (fX12_because_106 k73 h x1 x2 x3))) else (fX12_because_194  h x1 x2))
set_option maxHeartbeats 4000000 in
theorem wfX12_because_73F {args : Array Value} (b : Bd p s m c cX12_because 4 RX12 D aC) (hlk : meth.locks = false) (hr : meth.sig.returnType = none) {Z : State → Prop} (zs : Z s) (zk : ZOK Z (Rg ad)) {hz : MS} {k73 : MS → Int32 → Int32 → Int32 → Option (MS)} (H73 : ∀ (h : MS) (x1 : Int32) (x2 : Int32) (x3 : Int32), ∀ (H : Heap) (locs : List Loc) (ls : Array Slot), k73 h x1 x2 x3 = some hz → CE (EM D aC ad h) (Rg ad) s H locs → lv_has ls 4 [(0, .ref (ad 116)), (1, .int x1), (2, .int x2), (3, .int x3)] → W p l e (RM 1 24 0 0) s m args below meth c H locs 0 0 (MQ below (PQ (EM D aC ad hz) (Rg ad) none) args s 0 0 (Rg ad)) (F0 m 73 ls [])) {h : MS} {x1 : Int32} {x2 : Int32} {x3 : Int32}  {H : Heap} {locs : List Loc} {ls : Array Slot} (hf : fX12_because_73F k73 h x1 x2 x3 = some hz) (hE : CE (EM D aC ad h) (Rg ad) s H locs) (hl : lv_has ls 4 [(0, .ref (ad 116)), (1, .int x1), (2, .int x2), (3, .int x3)]) : W p l e (RM 1 24 0 0) s m args below meth c H locs 0 0 (MQ below (PQ (EM D aC ad hz) (Rg ad) none) args s 0 0 (Rg ad)) (F0 m 73 ls []) := by
  unfold fX12_because_73F at hf
  refine lv_iload_n b.1 b.2.1 dX12_because_73 rfl (lv_at hl 3 rfl) ?_
  refine lv_iconst (v := (-1)) b.1 b.2.1 dX12_because_74 (by decide) ?_
  refine lv_icmp_eq (tgt := 116) b.1 b.2.1 dX12_because_75 (by decide) (fun c22 => ?_) (fun c22 => ?_)
  · have hf := oI_t c22 hf
    refine lv_goto (tgt := 194) b.1 b.2.1 dX12_because_116 (by decide) ?_
    exact wfX12_because_194 b hlk hr zs zk  hf hE (lv_sub hl [0, 1, 2] rfl)
  · have hf := oI_f c22 hf
    refine lv_iload_n b.1 b.2.1 dX12_because_78 rfl (lv_at hl 2 rfl) ?_
    refine lv_iconst (v := (-1)) b.1 b.2.1 dX12_because_79 (by decide) ?_
    refine lv_icmp_ne (tgt := 116) b.1 b.2.1 dX12_because_80 (by decide) (fun c23 => ?_) (fun c23 => ?_)
    · have hf := oI_f c23 hf
      refine lv_goto (tgt := 194) b.1 b.2.1 dX12_because_116 (by decide) ?_
      exact wfX12_because_194 b hlk hr zs zk  hf hE (lv_sub hl [0, 1, 2] rfl)
    · have hf := oI_t c23 hf
      refine lv_aload_n b.1 b.2.1 dX12_because_83 rfl (lv_at hl 0 rfl) ?_
      refine gM_85 b hE dX12_because_84 ?_
      refine lv_iload_n b.1 b.2.1 dX12_because_87 rfl (lv_at hl 3 rfl) ?_
      refine lv_bipush (v := 125) b.1 b.2.1 dX12_because_88 (by decide) ?_
      refine lv_idiv b.1 b.2.1 dX12_because_90 (by decide) ?_
      obtain ⟨g24, hf⟩ := oC_s hf
      refine m_iald b hE rfl rfl g24 dX12_because_91 ?_
      refine lv_if_ne (tgt := 106) b.1 b.2.1 dX12_because_92 (by decide) (fun c25 => ?_) (fun c25 => ?_)
      · have hf := oI_f c25 hf
        exact wfX12_because_106 b hlk hr zs zk H73 hf hE (lv_sub hl [0, 1, 2, 3] rfl)
      · have hf := oI_t c25 hf
        refine lv_aload_n b.1 b.2.1 dX12_because_95 rfl (lv_at hl 0 rfl) ?_
        refine gM_198 b hE dX12_because_96 ?_
        refine lv_iload_n b.1 b.2.1 dX12_because_99 rfl (lv_at hl 3 rfl) ?_
        obtain ⟨g26, hf⟩ := oC_s hf
        refine m_zald b hE rfl rfl g26 dX12_because_100 ?_
        refine lv_if_eq (tgt := 106) b.1 b.2.1 dX12_because_101 (by decide) (fun c27 => ?_) (fun c27 => ?_)
        · have hf := oI_t c27 hf
          exact wfX12_because_106 b hlk hr zs zk H73 hf hE (lv_sub hl [0, 1, 2, 3] rfl)
        · have hf := oI_f c27 hf
          refine lv_iload_n b.1 b.2.1 dX12_because_104 rfl (lv_at hl 3 rfl) ?_
          refine lv_istore_n (lv' := [(2, .int x3), (0, .ref (ad 116)), (1, .int x1), (3, .int x3)]) b.1 b.2.1 dX12_because_105 rfl hl (by decide) rfl (fun ls hl => ?_)
          exact wfX12_because_106 b hlk hr zs zk H73 hf hE (lv_sub hl [1, 2, 0, 3] rfl)
def fX12_because_73  : Nat → MS → Int32 → Int32 → Int32 → Option (MS)
  | 0 => fun _ _ _ _ => none
  | n + 1 => fX12_because_73F  (fX12_because_73  n)
set_option maxHeartbeats 4000000 in
theorem wfX12_because_73 {args : Array Value} (b : Bd p s m c cX12_because 4 RX12 D aC) (hlk : meth.locks = false) (hr : meth.sig.returnType = none) {Z : State → Prop} (zs : Z s) (zk : ZOK Z (Rg ad)) {hz : MS} : ∀ n : Nat, ∀ (h : MS) (x1 : Int32) (x2 : Int32) (x3 : Int32), ∀ (H : Heap) (locs : List Loc) (ls : Array Slot), fX12_because_73  n h x1 x2 x3 = some hz → CE (EM D aC ad h) (Rg ad) s H locs → lv_has ls 4 [(0, .ref (ad 116)), (1, .int x1), (2, .int x2), (3, .int x3)] → W p l e (RM 1 24 0 0) s m args below meth c H locs 0 0 (MQ below (PQ (EM D aC ad hz) (Rg ad) none) args s 0 0 (Rg ad)) (F0 m 73 ls []) := by
  intro n
  induction n with
  | zero =>
    intro h x1 x2 x3 H locs ls hf
    have hf : (none : Option (MS)) = some _ := hf
    cases hf
  | succ n ih =>
    intro h x1 x2 x3 H locs ls hf hE hl
    exact wfX12_because_73F b hlk hr zs zk  ih hf hE hl
def fX12_because_9F (k9 : MS → Int32 → Int32 → Option (MS)) (h : MS) (x1 : Int32) (x2 : Int32) : Option (MS) :=
  if 3 ≤ x2 then (oC (ix x1 (mlen 105)) (oL (mSA h 105 (Int32.toNatClampNeg x1) 3) (fun h30 => oC (ix x1 (mlen 92)) (if (mA h30 92 (Int32.toNatClampNeg x1)) = 0 then (oC (ix x1 (mlen 93)) (if (mA h30 93 (Int32.toNatClampNeg x1)) = 0 then (fX12_because_194  h30 x1 (-1)) else (oC (ix x1 (mlen 105)) (oL (mSA h30 105 (Int32.toNatClampNeg x1) 0) (fun h36 => oC (ix (x1 ^^^ 1) (mlen 91)) (if (mA h36 91 (Int32.toNatClampNeg (x1 ^^^ 1))) = 0 then (oC (ix x1 (mlen 105)) (oL (mSA h36 105 (Int32.toNatClampNeg x1) 2) (fun h40 => oC (ix (x1 ^^^ 1) (mlen 87)) (oL (mA h40 87 (Int32.toNatClampNeg (x1 ^^^ 1))) (fun y42 => fX12_because_163  FU h40 x1 (-1) y42))))) else (some (h36)))))))) else (oC (ix x1 (mlen 105)) (oL (mSA h30 105 (Int32.toNatClampNeg x1) 0) (fun h44 => oC (ix x1 (mlen 91)) (if (mA h44 91 (Int32.toNatClampNeg x1)) = 0 then (oC (ix x1 (mlen 87)) (oL (mA h44 87 (Int32.toNatClampNeg x1)) (fun y48 => fX12_because_73  FU h44 x1 (-1) y48))) else (some (h44)))))))))) else (oC (ix ((3 * x1) + x2) (mlen 107)) (oL (mSA h 107 (Int32.toNatClampNeg ((3 * x1) + x2)) (-1)) (fun h50 => oL (x2 + 1) (fun y51 => k9 h50 x1 y51))))
set_option maxHeartbeats 4000000 in
theorem wfX12_because_9F {args : Array Value} (b : Bd p s m c cX12_because 4 RX12 D aC) (hlk : meth.locks = false) (hr : meth.sig.returnType = none) {Z : State → Prop} (zs : Z s) (zk : ZOK Z (Rg ad)) {hz : MS} {k9 : MS → Int32 → Int32 → Option (MS)} (H9 : ∀ (h : MS) (x1 : Int32) (x2 : Int32), ∀ (H : Heap) (locs : List Loc) (ls : Array Slot), k9 h x1 x2 = some hz → CE (EM D aC ad h) (Rg ad) s H locs → lv_has ls 4 [(0, .ref (ad 116)), (1, .int x1), (2, .int x2)] → W p l e (RM 1 24 0 0) s m args below meth c H locs 0 0 (MQ below (PQ (EM D aC ad hz) (Rg ad) none) args s 0 0 (Rg ad)) (F0 m 9 ls [])) {h : MS} {x1 : Int32} {x2 : Int32}  {H : Heap} {locs : List Loc} {ls : Array Slot} (hf : fX12_because_9F k9 h x1 x2 = some hz) (hE : CE (EM D aC ad h) (Rg ad) s H locs) (hl : lv_has ls 4 [(0, .ref (ad 116)), (1, .int x1), (2, .int x2)]) : W p l e (RM 1 24 0 0) s m args below meth c H locs 0 0 (MQ below (PQ (EM D aC ad hz) (Rg ad) none) args s 0 0 (Rg ad)) (F0 m 9 ls []) := by
  unfold fX12_because_9F at hf
  refine lv_iload_n b.1 b.2.1 dX12_because_9 rfl (lv_at hl 2 rfl) ?_
  refine lv_iconst (v := 3) b.1 b.2.1 dX12_because_10 (by decide) ?_
  refine lv_icmp_ge (tgt := 31) b.1 b.2.1 dX12_because_11 (by decide) (fun c28 => ?_) (fun c28 => ?_)
  · have hf := oI_t c28 hf
    refine lv_aload_n b.1 b.2.1 dX12_because_31 rfl (lv_at hl 0 rfl) ?_
    refine gM_222 b hE dX12_because_32 ?_
    refine lv_iload_n b.1 b.2.1 dX12_because_35 rfl (lv_at hl 1 rfl) ?_
    refine lv_iconst (v := 3) b.1 b.2.1 dX12_because_36 (by decide) ?_
    obtain ⟨g29, hf⟩ := oC_s hf
    obtain ⟨h30, eh30, hf⟩ := oL_s hf
    refine n_iast b hE rfl rfl g29 eh30 dX12_because_37 (fun H locs hE => ?_)
    refine lv_iconst (v := (-1)) b.1 b.2.1 dX12_because_38 (by decide) ?_
    refine lv_istore_n (lv' := [(2, .int (-1)), (0, .ref (ad 116)), (1, .int x1)]) b.1 b.2.1 dX12_because_39 rfl hl (by decide) rfl (fun ls hl => ?_)
    refine lv_aload_n b.1 b.2.1 dX12_because_40 rfl (lv_at hl 1 rfl) ?_
    refine gM_207 b hE dX12_because_41 ?_
    refine lv_iload_n b.1 b.2.1 dX12_because_44 rfl (lv_at hl 2 rfl) ?_
    obtain ⟨g31, hf⟩ := oC_s hf
    refine m_zald b hE rfl rfl g31 dX12_because_45 ?_
    refine lv_if_eq (tgt := 119) b.1 b.2.1 dX12_because_46 (by decide) (fun c32 => ?_) (fun c32 => ?_)
    · have hf := oI_t c32 hf
      refine lv_aload_n b.1 b.2.1 dX12_because_119 rfl (lv_at hl 1 rfl) ?_
      refine gM_210 b hE dX12_because_120 ?_
      refine lv_iload_n b.1 b.2.1 dX12_because_123 rfl (lv_at hl 2 rfl) ?_
      obtain ⟨g33, hf⟩ := oC_s hf
      refine m_zald b hE rfl rfl g33 dX12_because_124 ?_
      refine lv_if_eq (tgt := 194) b.1 b.2.1 dX12_because_125 (by decide) (fun c34 => ?_) (fun c34 => ?_)
      · have hf := oI_t c34 hf
        exact wfX12_because_194 b hlk hr zs zk  hf hE (lv_sub hl [1, 2, 0] rfl)
      · have hf := oI_f c34 hf
        refine lv_aload_n b.1 b.2.1 dX12_because_128 rfl (lv_at hl 1 rfl) ?_
        refine gM_222 b hE dX12_because_129 ?_
        refine lv_iload_n b.1 b.2.1 dX12_because_132 rfl (lv_at hl 2 rfl) ?_
        refine lv_iconst (v := 0) b.1 b.2.1 dX12_because_133 (by decide) ?_
        obtain ⟨g35, hf⟩ := oC_s hf
        obtain ⟨h36, eh36, hf⟩ := oL_s hf
        refine n_iast b hE rfl rfl g35 eh36 dX12_because_134 (fun H locs hE => ?_)
        refine lv_aload_n b.1 b.2.1 dX12_because_135 rfl (lv_at hl 1 rfl) ?_
        refine gM_204 b hE dX12_because_136 ?_
        refine lv_iload_n b.1 b.2.1 dX12_because_139 rfl (lv_at hl 2 rfl) ?_
        refine lv_iconst (v := 1) b.1 b.2.1 dX12_because_140 (by decide) ?_
        refine lv_ixor b.1 b.2.1 dX12_because_141 ?_
        obtain ⟨g37, hf⟩ := oC_s hf
        refine m_zald b hE rfl rfl g37 dX12_because_142 ?_
        refine lv_if_eq (tgt := 147) b.1 b.2.1 dX12_because_143 (by decide) (fun c38 => ?_) (fun c38 => ?_)
        · have hf := oI_t c38 hf
          refine lv_aload_n b.1 b.2.1 dX12_because_147 rfl (lv_at hl 1 rfl) ?_
          refine gM_222 b hE dX12_because_148 ?_
          refine lv_iload_n b.1 b.2.1 dX12_because_151 rfl (lv_at hl 2 rfl) ?_
          refine lv_iconst (v := 2) b.1 b.2.1 dX12_because_152 (by decide) ?_
          obtain ⟨g39, hf⟩ := oC_s hf
          obtain ⟨h40, eh40, hf⟩ := oL_s hf
          refine n_iast b hE rfl rfl g39 eh40 dX12_because_153 (fun H locs hE => ?_)
          refine lv_aload_n b.1 b.2.1 dX12_because_154 rfl (lv_at hl 1 rfl) ?_
          refine gM_192 b hE dX12_because_155 ?_
          refine lv_iload_n b.1 b.2.1 dX12_because_158 rfl (lv_at hl 2 rfl) ?_
          refine lv_iconst (v := 1) b.1 b.2.1 dX12_because_159 (by decide) ?_
          refine lv_ixor b.1 b.2.1 dX12_because_160 ?_
          obtain ⟨g41, hf⟩ := oC_s hf
          refine m_iald b hE rfl rfl g41 dX12_because_161 ?_
          obtain ⟨y42, ey42, hf⟩ := oL_s hf
          refine k_nmI ey42 ?_
          refine lv_istore_n (lv' := [(3, .int y42), (2, .int (-1)), (0, .ref (ad 116)), (1, .int x1)]) b.1 b.2.1 dX12_because_162 rfl hl (by decide) rfl (fun ls hl => ?_)
          exact wfX12_because_163 b hlk hr zs zk  FU h40 x1 (-1) y42 _ _ _ hf hE (lv_sub hl [2, 3, 1, 0] rfl)
        · have hf := oI_f c38 hf
          cases hf
          exact k_vret b hlk hr hE (Nat.le_refl _) (Nat.le_refl _) dX12_because_146
    · have hf := oI_f c32 hf
      refine lv_aload_n b.1 b.2.1 dX12_because_49 rfl (lv_at hl 1 rfl) ?_
      refine gM_222 b hE dX12_because_50 ?_
      refine lv_iload_n b.1 b.2.1 dX12_because_53 rfl (lv_at hl 2 rfl) ?_
      refine lv_iconst (v := 0) b.1 b.2.1 dX12_because_54 (by decide) ?_
      obtain ⟨g43, hf⟩ := oC_s hf
      obtain ⟨h44, eh44, hf⟩ := oL_s hf
      refine n_iast b hE rfl rfl g43 eh44 dX12_because_55 (fun H locs hE => ?_)
      refine lv_aload_n b.1 b.2.1 dX12_because_56 rfl (lv_at hl 1 rfl) ?_
      refine gM_204 b hE dX12_because_57 ?_
      refine lv_iload_n b.1 b.2.1 dX12_because_60 rfl (lv_at hl 2 rfl) ?_
      obtain ⟨g45, hf⟩ := oC_s hf
      refine m_zald b hE rfl rfl g45 dX12_because_61 ?_
      refine lv_if_eq (tgt := 66) b.1 b.2.1 dX12_because_62 (by decide) (fun c46 => ?_) (fun c46 => ?_)
      · have hf := oI_t c46 hf
        refine lv_aload_n b.1 b.2.1 dX12_because_66 rfl (lv_at hl 1 rfl) ?_
        refine gM_192 b hE dX12_because_67 ?_
        refine lv_iload_n b.1 b.2.1 dX12_because_70 rfl (lv_at hl 2 rfl) ?_
        obtain ⟨g47, hf⟩ := oC_s hf
        refine m_iald b hE rfl rfl g47 dX12_because_71 ?_
        obtain ⟨y48, ey48, hf⟩ := oL_s hf
        refine k_nmI ey48 ?_
        refine lv_istore_n (lv' := [(3, .int y48), (2, .int (-1)), (0, .ref (ad 116)), (1, .int x1)]) b.1 b.2.1 dX12_because_72 rfl hl (by decide) rfl (fun ls hl => ?_)
        exact wfX12_because_73 b hlk hr zs zk  FU h44 x1 (-1) y48 _ _ _ hf hE (lv_sub hl [2, 3, 1, 0] rfl)
      · have hf := oI_f c46 hf
        cases hf
        exact k_vret b hlk hr hE (Nat.le_refl _) (Nat.le_refl _) dX12_because_65
  · have hf := oI_f c28 hf
    refine lv_aload_n b.1 b.2.1 dX12_because_14 rfl (lv_at hl 0 rfl) ?_
    refine gM_228 b hE dX12_because_15 ?_
    refine lv_iconst (v := 3) b.1 b.2.1 dX12_because_18 (by decide) ?_
    refine lv_iload_n b.1 b.2.1 dX12_because_19 rfl (lv_at hl 1 rfl) ?_
    refine lv_imul b.1 b.2.1 dX12_because_20 ?_
    refine lv_iload_n b.1 b.2.1 dX12_because_21 rfl (lv_at hl 2 rfl) ?_
    refine lv_iadd b.1 b.2.1 dX12_because_22 ?_
    refine lv_iconst (v := (-1)) b.1 b.2.1 dX12_because_23 (by decide) ?_
    obtain ⟨g49, hf⟩ := oC_s hf
    obtain ⟨h50, eh50, hf⟩ := oL_s hf
    refine n_iast b hE rfl rfl g49 eh50 dX12_because_24 (fun H locs hE => ?_)
    obtain ⟨y51, ey51, hf⟩ := oL_s hf
    refine lv_iinc (v := y51) (lv' := [(2, .int y51), (0, .ref (ad 116)), (1, .int x1)]) b.1 b.2.1 dX12_because_25 hl (k := 2) rfl (by rw [ey51]; rfl) (by decide) rfl (fun ls hl => ?_)
    refine lv_goto (tgt := 9) b.1 b.2.1 dX12_because_28 (by decide) ?_
    exact H9 h50 x1 y51 _ _ _ hf hE (lv_sub hl [1, 2, 0] rfl)
def fX12_because_9  : Nat → MS → Int32 → Int32 → Option (MS)
  | 0 => fun _ _ _ => none
  | n + 1 => fX12_because_9F  (fX12_because_9  n)
set_option maxHeartbeats 4000000 in
theorem wfX12_because_9 {args : Array Value} (b : Bd p s m c cX12_because 4 RX12 D aC) (hlk : meth.locks = false) (hr : meth.sig.returnType = none) {Z : State → Prop} (zs : Z s) (zk : ZOK Z (Rg ad)) {hz : MS} : ∀ n : Nat, ∀ (h : MS) (x1 : Int32) (x2 : Int32), ∀ (H : Heap) (locs : List Loc) (ls : Array Slot), fX12_because_9  n h x1 x2 = some hz → CE (EM D aC ad h) (Rg ad) s H locs → lv_has ls 4 [(0, .ref (ad 116)), (1, .int x1), (2, .int x2)] → W p l e (RM 1 24 0 0) s m args below meth c H locs 0 0 (MQ below (PQ (EM D aC ad hz) (Rg ad) none) args s 0 0 (Rg ad)) (F0 m 9 ls []) := by
  intro n
  induction n with
  | zero =>
    intro h x1 x2 H locs ls hf
    have hf : (none : Option (MS)) = some _ := hf
    cases hf
  | succ n ih =>
    intro h x1 x2 H locs ls hf hE hl
    exact wfX12_because_9F b hlk hr zs zk  ih hf hE hl
def fX12_because_0  (h : MS) (x1 : Int32) : Option (MS) :=
  oC (ix x1 (mlen 106)) (oL (mSA h 106 (Int32.toNatClampNeg x1) (-1)) (fun h53 => fX12_because_9  FU h53 x1 0))
set_option maxHeartbeats 4000000 in
theorem wfX12_because_0 {args : Array Value} (b : Bd p s m c cX12_because 4 RX12 D aC) (hlk : meth.locks = false) (hr : meth.sig.returnType = none) {Z : State → Prop} (zs : Z s) (zk : ZOK Z (Rg ad)) {hz : MS} {h : MS} {x1 : Int32}  {H : Heap} {locs : List Loc} {ls : Array Slot} (hf : fX12_because_0 h x1 = some hz) (hE : CE (EM D aC ad h) (Rg ad) s H locs) (hl : lv_has ls 4 [(0, .ref (ad 116)), (1, .int x1)]) : W p l e (RM 1 24 0 0) s m args below meth c H locs 0 0 (MQ below (PQ (EM D aC ad hz) (Rg ad) none) args s 0 0 (Rg ad)) (F0 m 0 ls []) := by
  unfold fX12_because_0 at hf
  refine lv_aload_n b.1 b.2.1 dX12_because_0 rfl (lv_at hl 0 rfl) ?_
  refine gM_225 b hE dX12_because_1 ?_
  refine lv_iload_n b.1 b.2.1 dX12_because_4 rfl (lv_at hl 1 rfl) ?_
  refine lv_iconst (v := (-1)) b.1 b.2.1 dX12_because_5 (by decide) ?_
  obtain ⟨g52, hf⟩ := oC_s hf
  obtain ⟨h53, eh53, hf⟩ := oL_s hf
  refine n_iast b hE rfl rfl g52 eh53 dX12_because_6 (fun H locs hE => ?_)
  refine lv_iconst (v := 0) b.1 b.2.1 dX12_because_7 (by decide) ?_
  refine lv_istore_n (lv' := [(2, .int 0), (0, .ref (ad 116)), (1, .int x1)]) b.1 b.2.1 dX12_because_8 rfl hl (by decide) rfl (fun ls hl => ?_)
  exact wfX12_because_9 b hlk hr zs zk  FU h53 x1 0 _ _ _ hf hE (lv_sub hl [1, 2, 0] rfl)
def fX12_because (h : MS) (x1 : Int32) : Option (MS) := fX12_because_0 h x1
set_option maxHeartbeats 4000000 in
theorem CX12_because (l : Launch) (D : va_G) (aC : Nat → ClassId) (ad : Nat → Nat) {Z : State → Prop} (zk : ZOK Z (Rg ad)) {h : MS} {x1 : Int32} {hz : MS} (hf : fX12_because h x1 = some hz) : CM l D aC Z yX12_because cX12_because 4 (none) 1 24 0 0 (EM D aC ad h) [.ref (ad 116), .int x1] (EM D aC ad hz) none (Rg ad) := by
  refine CM.of rfl ?_
  intro p e s m below meth c b hr hlk hin2 zs hE
  refine k_ent (Nat.le_of_ble_eq_true rfl) (fun ls hl => ?_)
  exact wfX12_because_0 b hlk hr zs zk hf hE (lv_sub hl [0, 1] rfl)
end
