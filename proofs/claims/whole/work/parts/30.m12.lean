section
variable {p : Program} {l : Launch} {e : Env} {s : State} {m : MethodId} {below : List Frame} {meth : Method} {c : Code} {D : va_G} {aC : Nat → ClassId} {ad : Nat → Nat}
theorem dX12_isProved_0 : decode cX12_isProved 0 = .ok (.aload_n 0, 1) := by decide +kernel
theorem dX12_isProved_1 : decode cX12_isProved 1 = .ok (.getfield 204, 3) := by decide +kernel
theorem dX12_isProved_4 : decode cX12_isProved 4 = .ok (.iload_n 1, 1) := by decide +kernel
theorem dX12_isProved_5 : decode cX12_isProved 5 = .ok (.baload, 1) := by decide +kernel
theorem dX12_isProved_6 : decode cX12_isProved 6 = .ok (.ifCond .eq 5, 3) := by decide +kernel
theorem dX12_isProved_9 : decode cX12_isProved 9 = .ok (.iconst 1, 1) := by decide +kernel
theorem dX12_isProved_10 : decode cX12_isProved 10 = .ok (.ireturn, 1) := by decide +kernel
theorem dX12_isProved_11 : decode cX12_isProved 11 = .ok (.aload_n 0, 1) := by decide +kernel
theorem dX12_isProved_12 : decode cX12_isProved 12 = .ok (.getfield 204, 3) := by decide +kernel
theorem dX12_isProved_15 : decode cX12_isProved 15 = .ok (.iload_n 1, 1) := by decide +kernel
theorem dX12_isProved_16 : decode cX12_isProved 16 = .ok (.iconst 1, 1) := by decide +kernel
theorem dX12_isProved_17 : decode cX12_isProved 17 = .ok (.ixor, 1) := by decide +kernel
theorem dX12_isProved_18 : decode cX12_isProved 18 = .ok (.baload, 1) := by decide +kernel
theorem dX12_isProved_19 : decode cX12_isProved 19 = .ok (.ifCond .eq 5, 3) := by decide +kernel
theorem dX12_isProved_22 : decode cX12_isProved 22 = .ok (.iconst 0, 1) := by decide +kernel
theorem dX12_isProved_23 : decode cX12_isProved 23 = .ok (.ireturn, 1) := by decide +kernel
theorem dX12_isProved_24 : decode cX12_isProved 24 = .ok (.iconst 0, 1) := by decide +kernel
theorem dX12_isProved_25 : decode cX12_isProved 25 = .ok (.istore_n 2, 1) := by decide +kernel
theorem dX12_isProved_26 : decode cX12_isProved 26 = .ok (.aload_n 0, 1) := by decide +kernel
theorem dX12_isProved_27 : decode cX12_isProved 27 = .ok (.getfield 192, 3) := by decide +kernel
theorem dX12_isProved_30 : decode cX12_isProved 30 = .ok (.iload_n 1, 1) := by decide +kernel
theorem dX12_isProved_31 : decode cX12_isProved 31 = .ok (.iaload, 1) := by decide +kernel
theorem dX12_isProved_32 : decode cX12_isProved 32 = .ok (.istore_n 3, 1) := by decide +kernel
theorem dX12_isProved_33 : decode cX12_isProved 33 = .ok (.iload_n 3, 1) := by decide +kernel
theorem dX12_isProved_34 : decode cX12_isProved 34 = .ok (.iconst (-1), 1) := by decide +kernel
theorem dX12_isProved_35 : decode cX12_isProved 35 = .ok (.if_icmp .eq 44, 3) := by decide +kernel
theorem dX12_isProved_38 : decode cX12_isProved 38 = .ok (.iload_n 2, 1) := by decide +kernel
theorem dX12_isProved_39 : decode cX12_isProved 39 = .ok (.ifCond .ne 24, 3) := by decide +kernel
theorem dX12_isProved_42 : decode cX12_isProved 42 = .ok (.aload_n 0, 1) := by decide +kernel
theorem dX12_isProved_43 : decode cX12_isProved 43 = .ok (.getfield 85, 3) := by decide +kernel
theorem dX12_isProved_46 : decode cX12_isProved 46 = .ok (.iload_n 3, 1) := by decide +kernel
theorem dX12_isProved_47 : decode cX12_isProved 47 = .ok (.bipush 125, 2) := by decide +kernel
theorem dX12_isProved_49 : decode cX12_isProved 49 = .ok (.idiv, 1) := by decide +kernel
theorem dX12_isProved_50 : decode cX12_isProved 50 = .ok (.iaload, 1) := by decide +kernel
theorem dX12_isProved_51 : decode cX12_isProved 51 = .ok (.ifCond .ne 16, 3) := by decide +kernel
theorem dX12_isProved_54 : decode cX12_isProved 54 = .ok (.aload_n 0, 1) := by decide +kernel
theorem dX12_isProved_55 : decode cX12_isProved 55 = .ok (.getfield 198, 3) := by decide +kernel
theorem dX12_isProved_58 : decode cX12_isProved 58 = .ok (.iload_n 3, 1) := by decide +kernel
theorem dX12_isProved_59 : decode cX12_isProved 59 = .ok (.baload, 1) := by decide +kernel
theorem dX12_isProved_60 : decode cX12_isProved 60 = .ok (.ifCond .eq 7, 3) := by decide +kernel
theorem dX12_isProved_63 : decode cX12_isProved 63 = .ok (.iconst 1, 1) := by decide +kernel
theorem dX12_isProved_64 : decode cX12_isProved 64 = .ok (.goto 4, 3) := by decide +kernel
theorem dX12_isProved_67 : decode cX12_isProved 67 = .ok (.iconst 0, 1) := by decide +kernel
theorem dX12_isProved_68 : decode cX12_isProved 68 = .ok (.istore_n 2, 1) := by decide +kernel
theorem dX12_isProved_69 : decode cX12_isProved 69 = .ok (.aload_n 0, 1) := by decide +kernel
theorem dX12_isProved_70 : decode cX12_isProved 70 = .ok (.getfield 189, 3) := by decide +kernel
theorem dX12_isProved_73 : decode cX12_isProved 73 = .ok (.iload_n 3, 1) := by decide +kernel
theorem dX12_isProved_74 : decode cX12_isProved 74 = .ok (.iaload, 1) := by decide +kernel
theorem dX12_isProved_75 : decode cX12_isProved 75 = .ok (.istore_n 3, 1) := by decide +kernel
theorem dX12_isProved_76 : decode cX12_isProved 76 = .ok (.goto (-43), 3) := by decide +kernel
theorem dX12_isProved_79 : decode cX12_isProved 79 = .ok (.iload_n 2, 1) := by decide +kernel
theorem dX12_isProved_80 : decode cX12_isProved 80 = .ok (.ifCond .ne 5, 3) := by decide +kernel
theorem dX12_isProved_83 : decode cX12_isProved 83 = .ok (.iconst 0, 1) := by decide +kernel
theorem dX12_isProved_84 : decode cX12_isProved 84 = .ok (.ireturn, 1) := by decide +kernel
theorem dX12_isProved_85 : decode cX12_isProved 85 = .ok (.aload_n 0, 1) := by decide +kernel
theorem dX12_isProved_86 : decode cX12_isProved 86 = .ok (.getfield 192, 3) := by decide +kernel
theorem dX12_isProved_89 : decode cX12_isProved 89 = .ok (.iload_n 1, 1) := by decide +kernel
theorem dX12_isProved_90 : decode cX12_isProved 90 = .ok (.iconst 1, 1) := by decide +kernel
theorem dX12_isProved_91 : decode cX12_isProved 91 = .ok (.ixor, 1) := by decide +kernel
theorem dX12_isProved_92 : decode cX12_isProved 92 = .ok (.iaload, 1) := by decide +kernel
theorem dX12_isProved_93 : decode cX12_isProved 93 = .ok (.istore_n 3, 1) := by decide +kernel
theorem dX12_isProved_94 : decode cX12_isProved 94 = .ok (.iload_n 3, 1) := by decide +kernel
theorem dX12_isProved_95 : decode cX12_isProved 95 = .ok (.iconst (-1), 1) := by decide +kernel
theorem dX12_isProved_96 : decode cX12_isProved 96 = .ok (.if_icmp .eq 110, 3) := by decide +kernel
theorem dX12_isProved_99 : decode cX12_isProved 99 = .ok (.aload_n 0, 1) := by decide +kernel
theorem dX12_isProved_100 : decode cX12_isProved 100 = .ok (.getfield 201, 3) := by decide +kernel
theorem dX12_isProved_103 : decode cX12_isProved 103 = .ok (.iload_n 3, 1) := by decide +kernel
theorem dX12_isProved_104 : decode cX12_isProved 104 = .ok (.baload, 1) := by decide +kernel
theorem dX12_isProved_105 : decode cX12_isProved 105 = .ok (.istore 4, 2) := by decide +kernel
theorem dX12_isProved_107 : decode cX12_isProved 107 = .ok (.aload_n 0, 1) := by decide +kernel
theorem dX12_isProved_108 : decode cX12_isProved 108 = .ok (.getfield 192, 3) := by decide +kernel
theorem dX12_isProved_111 : decode cX12_isProved 111 = .ok (.iload_n 1, 1) := by decide +kernel
theorem dX12_isProved_112 : decode cX12_isProved 112 = .ok (.iaload, 1) := by decide +kernel
theorem dX12_isProved_113 : decode cX12_isProved 113 = .ok (.istore 5, 2) := by decide +kernel
theorem dX12_isProved_115 : decode cX12_isProved 115 = .ok (.iload 5, 2) := by decide +kernel
theorem dX12_isProved_117 : decode cX12_isProved 117 = .ok (.iconst (-1), 1) := by decide +kernel
theorem dX12_isProved_118 : decode cX12_isProved 118 = .ok (.if_icmp .eq 71, 3) := by decide +kernel
theorem dX12_isProved_121 : decode cX12_isProved 121 = .ok (.iload 4, 2) := by decide +kernel
theorem dX12_isProved_123 : decode cX12_isProved 123 = .ok (.ifCond .ne 66, 3) := by decide +kernel
theorem dX12_isProved_126 : decode cX12_isProved 126 = .ok (.aload_n 0, 1) := by decide +kernel
theorem dX12_isProved_127 : decode cX12_isProved 127 = .ok (.getfield 85, 3) := by decide +kernel
theorem dX12_isProved_130 : decode cX12_isProved 130 = .ok (.iload 5, 2) := by decide +kernel
theorem dX12_isProved_132 : decode cX12_isProved 132 = .ok (.bipush 125, 2) := by decide +kernel
theorem dX12_isProved_134 : decode cX12_isProved 134 = .ok (.idiv, 1) := by decide +kernel
theorem dX12_isProved_135 : decode cX12_isProved 135 = .ok (.iaload, 1) := by decide +kernel
theorem dX12_isProved_136 : decode cX12_isProved 136 = .ok (.ifCond .ne 38, 3) := by decide +kernel
theorem dX12_isProved_139 : decode cX12_isProved 139 = .ok (.aload_n 0, 1) := by decide +kernel
theorem dX12_isProved_140 : decode cX12_isProved 140 = .ok (.getfield 198, 3) := by decide +kernel
theorem dX12_isProved_143 : decode cX12_isProved 143 = .ok (.iload 5, 2) := by decide +kernel
theorem dX12_isProved_145 : decode cX12_isProved 145 = .ok (.baload, 1) := by decide +kernel
theorem dX12_isProved_146 : decode cX12_isProved 146 = .ok (.ifCond .eq 28, 3) := by decide +kernel
theorem dX12_isProved_149 : decode cX12_isProved 149 = .ok (.aload_n 0, 1) := by decide +kernel
theorem dX12_isProved_150 : decode cX12_isProved 150 = .ok (.getfield 213, 3) := by decide +kernel
theorem dX12_isProved_153 : decode cX12_isProved 153 = .ok (.bipush 30, 2) := by decide +kernel
theorem dX12_isProved_155 : decode cX12_isProved 155 = .ok (.iload 5, 2) := by decide +kernel
theorem dX12_isProved_157 : decode cX12_isProved 157 = .ok (.bipush 125, 2) := by decide +kernel
theorem dX12_isProved_159 : decode cX12_isProved 159 = .ok (.idiv, 1) := by decide +kernel
theorem dX12_isProved_160 : decode cX12_isProved 160 = .ok (.imul, 1) := by decide +kernel
theorem dX12_isProved_161 : decode cX12_isProved 161 = .ok (.iload_n 3, 1) := by decide +kernel
theorem dX12_isProved_162 : decode cX12_isProved 162 = .ok (.bipush 125, 2) := by decide +kernel
theorem dX12_isProved_164 : decode cX12_isProved 164 = .ok (.idiv, 1) := by decide +kernel
theorem dX12_isProved_165 : decode cX12_isProved 165 = .ok (.iadd, 1) := by decide +kernel
theorem dX12_isProved_166 : decode cX12_isProved 166 = .ok (.baload, 1) := by decide +kernel
theorem dX12_isProved_167 : decode cX12_isProved 167 = .ok (.ifCond .eq 7, 3) := by decide +kernel
theorem dX12_isProved_170 : decode cX12_isProved 170 = .ok (.iconst 1, 1) := by decide +kernel
theorem dX12_isProved_171 : decode cX12_isProved 171 = .ok (.goto 4, 3) := by decide +kernel
theorem dX12_isProved_174 : decode cX12_isProved 174 = .ok (.iconst 0, 1) := by decide +kernel
theorem dX12_isProved_175 : decode cX12_isProved 175 = .ok (.istore 4, 2) := by decide +kernel
theorem dX12_isProved_177 : decode cX12_isProved 177 = .ok (.aload_n 0, 1) := by decide +kernel
theorem dX12_isProved_178 : decode cX12_isProved 178 = .ok (.getfield 189, 3) := by decide +kernel
theorem dX12_isProved_181 : decode cX12_isProved 181 = .ok (.iload 5, 2) := by decide +kernel
theorem dX12_isProved_183 : decode cX12_isProved 183 = .ok (.iaload, 1) := by decide +kernel
theorem dX12_isProved_184 : decode cX12_isProved 184 = .ok (.istore 5, 2) := by decide +kernel
theorem dX12_isProved_186 : decode cX12_isProved 186 = .ok (.goto (-71), 3) := by decide +kernel
theorem dX12_isProved_189 : decode cX12_isProved 189 = .ok (.iload 4, 2) := by decide +kernel
theorem dX12_isProved_191 : decode cX12_isProved 191 = .ok (.ifCond .ne 5, 3) := by decide +kernel
theorem dX12_isProved_194 : decode cX12_isProved 194 = .ok (.iconst 0, 1) := by decide +kernel
theorem dX12_isProved_195 : decode cX12_isProved 195 = .ok (.ireturn, 1) := by decide +kernel
theorem dX12_isProved_196 : decode cX12_isProved 196 = .ok (.aload_n 0, 1) := by decide +kernel
theorem dX12_isProved_197 : decode cX12_isProved 197 = .ok (.getfield 189, 3) := by decide +kernel
theorem dX12_isProved_200 : decode cX12_isProved 200 = .ok (.iload_n 3, 1) := by decide +kernel
theorem dX12_isProved_201 : decode cX12_isProved 201 = .ok (.iaload, 1) := by decide +kernel
theorem dX12_isProved_202 : decode cX12_isProved 202 = .ok (.istore_n 3, 1) := by decide +kernel
theorem dX12_isProved_203 : decode cX12_isProved 203 = .ok (.goto (-109), 3) := by decide +kernel
theorem dX12_isProved_206 : decode cX12_isProved 206 = .ok (.iconst 1, 1) := by decide +kernel
theorem dX12_isProved_207 : decode cX12_isProved 207 = .ok (.ireturn, 1) := by decide +kernel
def fX12_isProved_189 (k94 : MS → Int32 → Int32 → Option (Int32)) (h : MS) (x1 : Int32) (x3 : Int32) (x4 : Int32) : Option (Int32) :=
  if x4 = 0 then (some (0)) else (oC (ix x3 (mlen 86)) (oL (mA h 86 (Int32.toNatClampNeg x3)) (fun y3 => k94 h x1 y3)))
set_option maxHeartbeats 4000000 in
theorem wfX12_isProved_189 {args : Array Value} (b : Bd p s m c cX12_isProved 6 RX12 D aC) (hlk : meth.locks = false) (hr : meth.sig.returnType = some .boolean) {Z : State → Prop} (zs : Z s) (zk : ZOK Z (Rg ad)) {rz : Int32} {k94 : MS → Int32 → Int32 → Option (Int32)} (H94 : ∀ (h : MS) (x1 : Int32) (x3 : Int32), ∀ (H : Heap) (locs : List Loc) (ls : Array Slot), k94 h x1 x3 = some rz → CE (EM D aC ad h) (Rg ad) s H locs → lv_has ls 6 [(0, .ref (ad 116)), (1, .int x1), (3, .int x3)] → W p l e (RM 0 0 0 0) s m args below meth c H locs 0 0 (MQ below (PQ (EM D aC ad h) (Rg ad) (some (.int rz))) args s 0 0 (Rg ad)) (F0 m 94 ls [])) {h : MS} {x1 : Int32} {x3 : Int32} {x4 : Int32}  {H : Heap} {locs : List Loc} {ls : Array Slot} (hf : fX12_isProved_189 k94 h x1 x3 x4 = some rz) (hE : CE (EM D aC ad h) (Rg ad) s H locs) (hl : lv_has ls 6 [(0, .ref (ad 116)), (1, .int x1), (3, .int x3), (4, .int x4)]) : W p l e (RM 0 0 0 0) s m args below meth c H locs 0 0 (MQ below (PQ (EM D aC ad h) (Rg ad) (some (.int rz))) args s 0 0 (Rg ad)) (F0 m 189 ls []) := by
  unfold fX12_isProved_189 at hf
  refine lv_iload b.1 b.2.1 dX12_isProved_189 (lv_at hl 3 rfl) ?_
  refine lv_if_ne (tgt := 196) b.1 b.2.1 dX12_isProved_191 (by decide) (fun c1 => ?_) (fun c1 => ?_)
  · have hf := oI_f c1 hf
    refine lv_aload_n b.1 b.2.1 dX12_isProved_196 rfl (lv_at hl 0 rfl) ?_
    refine gM_189 b hE dX12_isProved_197 ?_
    refine lv_iload_n b.1 b.2.1 dX12_isProved_200 rfl (lv_at hl 2 rfl) ?_
    obtain ⟨g2, hf⟩ := oC_s hf
    refine m_iald b hE rfl rfl g2 dX12_isProved_201 ?_
    obtain ⟨y3, ey3, hf⟩ := oL_s hf
    refine k_nmI ey3 ?_
    refine lv_istore_n (lv' := [(3, .int y3), (0, .ref (ad 116)), (1, .int x1), (4, .int x4)]) b.1 b.2.1 dX12_isProved_202 rfl hl (by decide) rfl (fun ls hl => ?_)
    have hl := lv_sub (l' := [(3, .int y3), (0, .ref (ad 116)), (1, .int x1)]) hl [0, 1, 2] rfl
    refine lv_goto (tgt := 94) b.1 b.2.1 dX12_isProved_203 (by decide) ?_
    exact H94 h x1 y3 _ _ _ hf hE (lv_sub hl [1, 2, 0] rfl)
  · have hf := oI_t c1 hf
    refine lv_iconst (v := 0) b.1 b.2.1 dX12_isProved_194 (by decide) ?_
    cases hf
    exact k_zret b hlk hr (by decide) hE (Nat.le_refl _) (Nat.le_refl _) dX12_isProved_195
def fX12_isProved_175 (k94 : MS → Int32 → Int32 → Option (Int32)) (k115 : MS → Int32 → Int32 → Int32 → Int32 → Option (Int32)) (h : MS) (x1 : Int32) (x3 : Int32) (x5 : Int32) (s0 : Int32) : Option (Int32) :=
  oC (ix x5 (mlen 86)) (oL (mA h 86 (Int32.toNatClampNeg x5)) (fun y5 => k115 h x1 x3 s0 y5))
set_option maxHeartbeats 4000000 in
theorem wfX12_isProved_175 {args : Array Value} (b : Bd p s m c cX12_isProved 6 RX12 D aC) (hlk : meth.locks = false) (hr : meth.sig.returnType = some .boolean) {Z : State → Prop} (zs : Z s) (zk : ZOK Z (Rg ad)) {rz : Int32} {k94 : MS → Int32 → Int32 → Option (Int32)} (H94 : ∀ (h : MS) (x1 : Int32) (x3 : Int32), ∀ (H : Heap) (locs : List Loc) (ls : Array Slot), k94 h x1 x3 = some rz → CE (EM D aC ad h) (Rg ad) s H locs → lv_has ls 6 [(0, .ref (ad 116)), (1, .int x1), (3, .int x3)] → W p l e (RM 0 0 0 0) s m args below meth c H locs 0 0 (MQ below (PQ (EM D aC ad h) (Rg ad) (some (.int rz))) args s 0 0 (Rg ad)) (F0 m 94 ls [])) {k115 : MS → Int32 → Int32 → Int32 → Int32 → Option (Int32)} (H115 : ∀ (h : MS) (x1 : Int32) (x3 : Int32) (x4 : Int32) (x5 : Int32), ∀ (H : Heap) (locs : List Loc) (ls : Array Slot), k115 h x1 x3 x4 x5 = some rz → CE (EM D aC ad h) (Rg ad) s H locs → lv_has ls 6 [(0, .ref (ad 116)), (1, .int x1), (3, .int x3), (4, .int x4), (5, .int x5)] → W p l e (RM 0 0 0 0) s m args below meth c H locs 0 0 (MQ below (PQ (EM D aC ad h) (Rg ad) (some (.int rz))) args s 0 0 (Rg ad)) (F0 m 115 ls [])) {h : MS} {x1 : Int32} {x3 : Int32} {x5 : Int32} {s0 : Int32}  {H : Heap} {locs : List Loc} {ls : Array Slot} (hf : fX12_isProved_175 k94 k115 h x1 x3 x5 s0 = some rz) (hE : CE (EM D aC ad h) (Rg ad) s H locs) (hl : lv_has ls 6 [(0, .ref (ad 116)), (1, .int x1), (3, .int x3), (5, .int x5)]) : W p l e (RM 0 0 0 0) s m args below meth c H locs 0 0 (MQ below (PQ (EM D aC ad h) (Rg ad) (some (.int rz))) args s 0 0 (Rg ad)) (F0 m 175 ls [.int s0]) := by
  unfold fX12_isProved_175 at hf
  refine lv_istore (lv' := [(4, .int s0), (0, .ref (ad 116)), (1, .int x1), (3, .int x3), (5, .int x5)]) b.1 b.2.1 dX12_isProved_175 hl (by decide) rfl (fun ls hl => ?_)
  refine lv_aload_n b.1 b.2.1 dX12_isProved_177 rfl (lv_at hl 1 rfl) ?_
  refine gM_189 b hE dX12_isProved_178 ?_
  refine lv_iload b.1 b.2.1 dX12_isProved_181 (lv_at hl 4 rfl) ?_
  obtain ⟨g4, hf⟩ := oC_s hf
  refine m_iald b hE rfl rfl g4 dX12_isProved_183 ?_
  obtain ⟨y5, ey5, hf⟩ := oL_s hf
  refine k_nmI ey5 ?_
  refine lv_istore (lv' := [(5, .int y5), (4, .int s0), (0, .ref (ad 116)), (1, .int x1), (3, .int x3)]) b.1 b.2.1 dX12_isProved_184 hl (by decide) rfl (fun ls hl => ?_)
  refine lv_goto (tgt := 115) b.1 b.2.1 dX12_isProved_186 (by decide) ?_
  exact H115 h x1 x3 s0 y5 _ _ _ hf hE (lv_sub hl [2, 3, 4, 1, 0] rfl)
def fX12_isProved_115F (k94 : MS → Int32 → Int32 → Option (Int32)) (k115 : MS → Int32 → Int32 → Int32 → Int32 → Option (Int32)) (h : MS) (x1 : Int32) (x3 : Int32) (x4 : Int32) (x5 : Int32) : Option (Int32) :=
  if x5 = (-1) then (fX12_isProved_189 k94 h x1 x3 x4) else (if x4 = 0 then (oC (ix (x5 / 125) (mlen 40)) (if (mA h 40 (Int32.toNatClampNeg (x5 / 125))) = 0 then (oC (ix x5 (mlen 89)) (if (mA h 89 (Int32.toNatClampNeg x5)) = 0 then (fX12_isProved_175 k94 k115 h x1 x3 x5 0) else (oC (ix ((30 * (x5 / 125)) + (x3 / 125)) (mlen 94)) (if (mA h 94 (Int32.toNatClampNeg ((30 * (x5 / 125)) + (x3 / 125)))) = 0 then (fX12_isProved_175 k94 k115 h x1 x3 x5 0) else (fX12_isProved_175 k94 k115 h x1 x3 x5 1))))) else (fX12_isProved_175 k94 k115 h x1 x3 x5 0))) else (fX12_isProved_189 k94 h x1 x3 x4))
set_option maxHeartbeats 4000000 in
theorem wfX12_isProved_115F {args : Array Value} (b : Bd p s m c cX12_isProved 6 RX12 D aC) (hlk : meth.locks = false) (hr : meth.sig.returnType = some .boolean) {Z : State → Prop} (zs : Z s) (zk : ZOK Z (Rg ad)) {rz : Int32} {k94 : MS → Int32 → Int32 → Option (Int32)} (H94 : ∀ (h : MS) (x1 : Int32) (x3 : Int32), ∀ (H : Heap) (locs : List Loc) (ls : Array Slot), k94 h x1 x3 = some rz → CE (EM D aC ad h) (Rg ad) s H locs → lv_has ls 6 [(0, .ref (ad 116)), (1, .int x1), (3, .int x3)] → W p l e (RM 0 0 0 0) s m args below meth c H locs 0 0 (MQ below (PQ (EM D aC ad h) (Rg ad) (some (.int rz))) args s 0 0 (Rg ad)) (F0 m 94 ls [])) {k115 : MS → Int32 → Int32 → Int32 → Int32 → Option (Int32)} (H115 : ∀ (h : MS) (x1 : Int32) (x3 : Int32) (x4 : Int32) (x5 : Int32), ∀ (H : Heap) (locs : List Loc) (ls : Array Slot), k115 h x1 x3 x4 x5 = some rz → CE (EM D aC ad h) (Rg ad) s H locs → lv_has ls 6 [(0, .ref (ad 116)), (1, .int x1), (3, .int x3), (4, .int x4), (5, .int x5)] → W p l e (RM 0 0 0 0) s m args below meth c H locs 0 0 (MQ below (PQ (EM D aC ad h) (Rg ad) (some (.int rz))) args s 0 0 (Rg ad)) (F0 m 115 ls [])) {h : MS} {x1 : Int32} {x3 : Int32} {x4 : Int32} {x5 : Int32}  {H : Heap} {locs : List Loc} {ls : Array Slot} (hf : fX12_isProved_115F k94 k115 h x1 x3 x4 x5 = some rz) (hE : CE (EM D aC ad h) (Rg ad) s H locs) (hl : lv_has ls 6 [(0, .ref (ad 116)), (1, .int x1), (3, .int x3), (4, .int x4), (5, .int x5)]) : W p l e (RM 0 0 0 0) s m args below meth c H locs 0 0 (MQ below (PQ (EM D aC ad h) (Rg ad) (some (.int rz))) args s 0 0 (Rg ad)) (F0 m 115 ls []) := by
  unfold fX12_isProved_115F at hf
  refine lv_iload b.1 b.2.1 dX12_isProved_115 (lv_at hl 4 rfl) ?_
  refine lv_iconst (v := (-1)) b.1 b.2.1 dX12_isProved_117 (by decide) ?_
  refine lv_icmp_eq (tgt := 189) b.1 b.2.1 dX12_isProved_118 (by decide) (fun c6 => ?_) (fun c6 => ?_)
  · have hf := oI_t c6 hf
    exact wfX12_isProved_189 b hlk hr zs zk H94 hf hE (lv_sub hl [0, 1, 2, 3] rfl)
  · have hf := oI_f c6 hf
    refine lv_iload b.1 b.2.1 dX12_isProved_121 (lv_at hl 3 rfl) ?_
    refine lv_if_ne (tgt := 189) b.1 b.2.1 dX12_isProved_123 (by decide) (fun c7 => ?_) (fun c7 => ?_)
    · have hf := oI_f c7 hf
      exact wfX12_isProved_189 b hlk hr zs zk H94 hf hE (lv_sub hl [0, 1, 2, 3] rfl)
    · have hf := oI_t c7 hf
      refine lv_aload_n b.1 b.2.1 dX12_isProved_126 rfl (lv_at hl 0 rfl) ?_
      refine gM_85 b hE dX12_isProved_127 ?_
      refine lv_iload b.1 b.2.1 dX12_isProved_130 (lv_at hl 4 rfl) ?_
      refine lv_bipush (v := 125) b.1 b.2.1 dX12_isProved_132 (by decide) ?_
      refine lv_idiv b.1 b.2.1 dX12_isProved_134 (by decide) ?_
      obtain ⟨g8, hf⟩ := oC_s hf
      refine m_iald b hE rfl rfl g8 dX12_isProved_135 ?_
      refine lv_if_ne (tgt := 174) b.1 b.2.1 dX12_isProved_136 (by decide) (fun c9 => ?_) (fun c9 => ?_)
      · have hf := oI_f c9 hf
        refine lv_iconst (v := 0) b.1 b.2.1 dX12_isProved_174 (by decide) ?_
        exact wfX12_isProved_175 b hlk hr zs zk H94 H115 hf hE (lv_sub hl [0, 1, 2, 4] rfl)
      · have hf := oI_t c9 hf
        refine lv_aload_n b.1 b.2.1 dX12_isProved_139 rfl (lv_at hl 0 rfl) ?_
        refine gM_198 b hE dX12_isProved_140 ?_
        refine lv_iload b.1 b.2.1 dX12_isProved_143 (lv_at hl 4 rfl) ?_
        obtain ⟨g10, hf⟩ := oC_s hf
        refine m_zald b hE rfl rfl g10 dX12_isProved_145 ?_
        refine lv_if_eq (tgt := 174) b.1 b.2.1 dX12_isProved_146 (by decide) (fun c11 => ?_) (fun c11 => ?_)
        · have hf := oI_t c11 hf
          refine lv_iconst (v := 0) b.1 b.2.1 dX12_isProved_174 (by decide) ?_
          exact wfX12_isProved_175 b hlk hr zs zk H94 H115 hf hE (lv_sub hl [0, 1, 2, 4] rfl)
        · have hf := oI_f c11 hf
          refine lv_aload_n b.1 b.2.1 dX12_isProved_149 rfl (lv_at hl 0 rfl) ?_
          refine gM_213 b hE dX12_isProved_150 ?_
          refine lv_bipush (v := 30) b.1 b.2.1 dX12_isProved_153 (by decide) ?_
          refine lv_iload b.1 b.2.1 dX12_isProved_155 (lv_at hl 4 rfl) ?_
          refine lv_bipush (v := 125) b.1 b.2.1 dX12_isProved_157 (by decide) ?_
          refine lv_idiv b.1 b.2.1 dX12_isProved_159 (by decide) ?_
          refine lv_imul b.1 b.2.1 dX12_isProved_160 ?_
          refine lv_iload_n b.1 b.2.1 dX12_isProved_161 rfl (lv_at hl 2 rfl) ?_
          refine lv_bipush (v := 125) b.1 b.2.1 dX12_isProved_162 (by decide) ?_
          refine lv_idiv b.1 b.2.1 dX12_isProved_164 (by decide) ?_
          refine lv_iadd b.1 b.2.1 dX12_isProved_165 ?_
          obtain ⟨g12, hf⟩ := oC_s hf
          refine m_zald b hE rfl rfl g12 dX12_isProved_166 ?_
          refine lv_if_eq (tgt := 174) b.1 b.2.1 dX12_isProved_167 (by decide) (fun c13 => ?_) (fun c13 => ?_)
          · have hf := oI_t c13 hf
            refine lv_iconst (v := 0) b.1 b.2.1 dX12_isProved_174 (by decide) ?_
            exact wfX12_isProved_175 b hlk hr zs zk H94 H115 hf hE (lv_sub hl [0, 1, 2, 4] rfl)
          · have hf := oI_f c13 hf
            refine lv_iconst (v := 1) b.1 b.2.1 dX12_isProved_170 (by decide) ?_
            refine lv_goto (tgt := 175) b.1 b.2.1 dX12_isProved_171 (by decide) ?_
            exact wfX12_isProved_175 b hlk hr zs zk H94 H115 hf hE (lv_sub hl [0, 1, 2, 4] rfl)
def fX12_isProved_115 (k94 : MS → Int32 → Int32 → Option (Int32)) : Nat → MS → Int32 → Int32 → Int32 → Int32 → Option (Int32)
  | 0 => fun _ _ _ _ _ => none
  | n + 1 => fX12_isProved_115F k94 (fX12_isProved_115 k94 n)
set_option maxHeartbeats 4000000 in
theorem wfX12_isProved_115 {args : Array Value} (b : Bd p s m c cX12_isProved 6 RX12 D aC) (hlk : meth.locks = false) (hr : meth.sig.returnType = some .boolean) {Z : State → Prop} (zs : Z s) (zk : ZOK Z (Rg ad)) {rz : Int32} {k94 : MS → Int32 → Int32 → Option (Int32)} (H94 : ∀ (h : MS) (x1 : Int32) (x3 : Int32), ∀ (H : Heap) (locs : List Loc) (ls : Array Slot), k94 h x1 x3 = some rz → CE (EM D aC ad h) (Rg ad) s H locs → lv_has ls 6 [(0, .ref (ad 116)), (1, .int x1), (3, .int x3)] → W p l e (RM 0 0 0 0) s m args below meth c H locs 0 0 (MQ below (PQ (EM D aC ad h) (Rg ad) (some (.int rz))) args s 0 0 (Rg ad)) (F0 m 94 ls [])) : ∀ n : Nat, ∀ (h : MS) (x1 : Int32) (x3 : Int32) (x4 : Int32) (x5 : Int32), ∀ (H : Heap) (locs : List Loc) (ls : Array Slot), fX12_isProved_115 k94 n h x1 x3 x4 x5 = some rz → CE (EM D aC ad h) (Rg ad) s H locs → lv_has ls 6 [(0, .ref (ad 116)), (1, .int x1), (3, .int x3), (4, .int x4), (5, .int x5)] → W p l e (RM 0 0 0 0) s m args below meth c H locs 0 0 (MQ below (PQ (EM D aC ad h) (Rg ad) (some (.int rz))) args s 0 0 (Rg ad)) (F0 m 115 ls []) := by
  intro n
  induction n with
  | zero =>
    intro h x1 x3 x4 x5 H locs ls hf
    have hf : (none : Option (Int32)) = some _ := hf
    cases hf
  | succ n ih =>
    intro h x1 x3 x4 x5 H locs ls hf hE hl
    exact wfX12_isProved_115F b hlk hr zs zk H94 ih hf hE hl
def fX12_isProved_94F (k94 : MS → Int32 → Int32 → Option (Int32)) (h : MS) (x1 : Int32) (x3 : Int32) : Option (Int32) :=
  if x3 = (-1) then (some (1)) else (oC (ix x3 (mlen 90)) (oL (mA h 90 (Int32.toNatClampNeg x3)) (fun y16 => oC (ix x1 (mlen 87)) (oL (mA h 87 (Int32.toNatClampNeg x1)) (fun y18 => fX12_isProved_115 k94 FU h x1 x3 y16 y18)))))
set_option maxHeartbeats 4000000 in
theorem wfX12_isProved_94F {args : Array Value} (b : Bd p s m c cX12_isProved 6 RX12 D aC) (hlk : meth.locks = false) (hr : meth.sig.returnType = some .boolean) {Z : State → Prop} (zs : Z s) (zk : ZOK Z (Rg ad)) {rz : Int32} {k94 : MS → Int32 → Int32 → Option (Int32)} (H94 : ∀ (h : MS) (x1 : Int32) (x3 : Int32), ∀ (H : Heap) (locs : List Loc) (ls : Array Slot), k94 h x1 x3 = some rz → CE (EM D aC ad h) (Rg ad) s H locs → lv_has ls 6 [(0, .ref (ad 116)), (1, .int x1), (3, .int x3)] → W p l e (RM 0 0 0 0) s m args below meth c H locs 0 0 (MQ below (PQ (EM D aC ad h) (Rg ad) (some (.int rz))) args s 0 0 (Rg ad)) (F0 m 94 ls [])) {h : MS} {x1 : Int32} {x3 : Int32}  {H : Heap} {locs : List Loc} {ls : Array Slot} (hf : fX12_isProved_94F k94 h x1 x3 = some rz) (hE : CE (EM D aC ad h) (Rg ad) s H locs) (hl : lv_has ls 6 [(0, .ref (ad 116)), (1, .int x1), (3, .int x3)]) : W p l e (RM 0 0 0 0) s m args below meth c H locs 0 0 (MQ below (PQ (EM D aC ad h) (Rg ad) (some (.int rz))) args s 0 0 (Rg ad)) (F0 m 94 ls []) := by
  unfold fX12_isProved_94F at hf
  refine lv_iload_n b.1 b.2.1 dX12_isProved_94 rfl (lv_at hl 2 rfl) ?_
  refine lv_iconst (v := (-1)) b.1 b.2.1 dX12_isProved_95 (by decide) ?_
  refine lv_icmp_eq (tgt := 206) b.1 b.2.1 dX12_isProved_96 (by decide) (fun c14 => ?_) (fun c14 => ?_)
  · have hf := oI_t c14 hf
    refine lv_iconst (v := 1) b.1 b.2.1 dX12_isProved_206 (by decide) ?_
    cases hf
    exact k_zret b hlk hr (by decide) hE (Nat.le_refl _) (Nat.le_refl _) dX12_isProved_207
  · have hf := oI_f c14 hf
    refine lv_aload_n b.1 b.2.1 dX12_isProved_99 rfl (lv_at hl 0 rfl) ?_
    refine gM_201 b hE dX12_isProved_100 ?_
    refine lv_iload_n b.1 b.2.1 dX12_isProved_103 rfl (lv_at hl 2 rfl) ?_
    obtain ⟨g15, hf⟩ := oC_s hf
    refine m_zald b hE rfl rfl g15 dX12_isProved_104 ?_
    obtain ⟨y16, ey16, hf⟩ := oL_s hf
    refine k_nmI ey16 ?_
    refine lv_istore (lv' := [(4, .int y16), (0, .ref (ad 116)), (1, .int x1), (3, .int x3)]) b.1 b.2.1 dX12_isProved_105 hl (by decide) rfl (fun ls hl => ?_)
    refine lv_aload_n b.1 b.2.1 dX12_isProved_107 rfl (lv_at hl 1 rfl) ?_
    refine gM_192 b hE dX12_isProved_108 ?_
    refine lv_iload_n b.1 b.2.1 dX12_isProved_111 rfl (lv_at hl 2 rfl) ?_
    obtain ⟨g17, hf⟩ := oC_s hf
    refine m_iald b hE rfl rfl g17 dX12_isProved_112 ?_
    obtain ⟨y18, ey18, hf⟩ := oL_s hf
    refine k_nmI ey18 ?_
    refine lv_istore (lv' := [(5, .int y18), (4, .int y16), (0, .ref (ad 116)), (1, .int x1), (3, .int x3)]) b.1 b.2.1 dX12_isProved_113 hl (by decide) rfl (fun ls hl => ?_)
    exact wfX12_isProved_115 b hlk hr zs zk H94 FU h x1 x3 y16 y18 _ _ _ hf hE (lv_sub hl [2, 3, 4, 1, 0] rfl)
def fX12_isProved_94  : Nat → MS → Int32 → Int32 → Option (Int32)
  | 0 => fun _ _ _ => none
  | n + 1 => fX12_isProved_94F  (fX12_isProved_94  n)
set_option maxHeartbeats 4000000 in
theorem wfX12_isProved_94 {args : Array Value} (b : Bd p s m c cX12_isProved 6 RX12 D aC) (hlk : meth.locks = false) (hr : meth.sig.returnType = some .boolean) {Z : State → Prop} (zs : Z s) (zk : ZOK Z (Rg ad)) {rz : Int32} : ∀ n : Nat, ∀ (h : MS) (x1 : Int32) (x3 : Int32), ∀ (H : Heap) (locs : List Loc) (ls : Array Slot), fX12_isProved_94  n h x1 x3 = some rz → CE (EM D aC ad h) (Rg ad) s H locs → lv_has ls 6 [(0, .ref (ad 116)), (1, .int x1), (3, .int x3)] → W p l e (RM 0 0 0 0) s m args below meth c H locs 0 0 (MQ below (PQ (EM D aC ad h) (Rg ad) (some (.int rz))) args s 0 0 (Rg ad)) (F0 m 94 ls []) := by
  intro n
  induction n with
  | zero =>
    intro h x1 x3 H locs ls hf
    have hf : (none : Option (Int32)) = some _ := hf
    cases hf
  | succ n ih =>
    intro h x1 x3 H locs ls hf hE hl
    exact wfX12_isProved_94F b hlk hr zs zk  ih hf hE hl
def fX12_isProved_68 (k33 : MS → Int32 → Int32 → Int32 → Option (Int32)) (h : MS) (x1 : Int32) (x3 : Int32) (s0 : Int32) : Option (Int32) :=
  oC (ix x3 (mlen 86)) (oL (mA h 86 (Int32.toNatClampNeg x3)) (fun y20 => k33 h x1 s0 y20))
set_option maxHeartbeats 4000000 in
theorem wfX12_isProved_68 {args : Array Value} (b : Bd p s m c cX12_isProved 6 RX12 D aC) (hlk : meth.locks = false) (hr : meth.sig.returnType = some .boolean) {Z : State → Prop} (zs : Z s) (zk : ZOK Z (Rg ad)) {rz : Int32} {k33 : MS → Int32 → Int32 → Int32 → Option (Int32)} (H33 : ∀ (h : MS) (x1 : Int32) (x2 : Int32) (x3 : Int32), ∀ (H : Heap) (locs : List Loc) (ls : Array Slot), k33 h x1 x2 x3 = some rz → CE (EM D aC ad h) (Rg ad) s H locs → lv_has ls 6 [(0, .ref (ad 116)), (1, .int x1), (2, .int x2), (3, .int x3)] → W p l e (RM 0 0 0 0) s m args below meth c H locs 0 0 (MQ below (PQ (EM D aC ad h) (Rg ad) (some (.int rz))) args s 0 0 (Rg ad)) (F0 m 33 ls [])) {h : MS} {x1 : Int32} {x3 : Int32} {s0 : Int32}  {H : Heap} {locs : List Loc} {ls : Array Slot} (hf : fX12_isProved_68 k33 h x1 x3 s0 = some rz) (hE : CE (EM D aC ad h) (Rg ad) s H locs) (hl : lv_has ls 6 [(0, .ref (ad 116)), (1, .int x1), (3, .int x3)]) : W p l e (RM 0 0 0 0) s m args below meth c H locs 0 0 (MQ below (PQ (EM D aC ad h) (Rg ad) (some (.int rz))) args s 0 0 (Rg ad)) (F0 m 68 ls [.int s0]) := by
  unfold fX12_isProved_68 at hf
  refine lv_istore_n (lv' := [(2, .int s0), (0, .ref (ad 116)), (1, .int x1), (3, .int x3)]) b.1 b.2.1 dX12_isProved_68 rfl hl (by decide) rfl (fun ls hl => ?_)
  refine lv_aload_n b.1 b.2.1 dX12_isProved_69 rfl (lv_at hl 1 rfl) ?_
  refine gM_189 b hE dX12_isProved_70 ?_
  refine lv_iload_n b.1 b.2.1 dX12_isProved_73 rfl (lv_at hl 3 rfl) ?_
  obtain ⟨g19, hf⟩ := oC_s hf
  refine m_iald b hE rfl rfl g19 dX12_isProved_74 ?_
  obtain ⟨y20, ey20, hf⟩ := oL_s hf
  refine k_nmI ey20 ?_
  refine lv_istore_n (lv' := [(3, .int y20), (2, .int s0), (0, .ref (ad 116)), (1, .int x1)]) b.1 b.2.1 dX12_isProved_75 rfl hl (by decide) rfl (fun ls hl => ?_)
  refine lv_goto (tgt := 33) b.1 b.2.1 dX12_isProved_76 (by decide) ?_
  exact H33 h x1 s0 y20 _ _ _ hf hE (lv_sub hl [2, 3, 1, 0] rfl)
def fX12_isProved_33F (k33 : MS → Int32 → Int32 → Int32 → Option (Int32)) (h : MS) (x1 : Int32) (x2 : Int32) (x3 : Int32) : Option (Int32) :=
  if x3 = (-1) then (if x2 = 0 then (some (0)) else (oC (ix (x1 ^^^ 1) (mlen 87)) (oL (mA h 87 (Int32.toNatClampNeg (x1 ^^^ 1))) (fun y24 => fX12_isProved_94  FU h x1 y24)))) else (if x2 = 0 then (oC (ix (x3 / 125) (mlen 40)) (if (mA h 40 (Int32.toNatClampNeg (x3 / 125))) = 0 then (oC (ix x3 (mlen 89)) (if (mA h 89 (Int32.toNatClampNeg x3)) = 0 then (fX12_isProved_68 k33 h x1 x3 0) else (fX12_isProved_68 k33 h x1 x3 1))) else (fX12_isProved_68 k33 h x1 x3 0))) else (fX12_isProved_68 k33 h x1 x3 1))
set_option maxHeartbeats 4000000 in
theorem wfX12_isProved_33F {args : Array Value} (b : Bd p s m c cX12_isProved 6 RX12 D aC) (hlk : meth.locks = false) (hr : meth.sig.returnType = some .boolean) {Z : State → Prop} (zs : Z s) (zk : ZOK Z (Rg ad)) {rz : Int32} {k33 : MS → Int32 → Int32 → Int32 → Option (Int32)} (H33 : ∀ (h : MS) (x1 : Int32) (x2 : Int32) (x3 : Int32), ∀ (H : Heap) (locs : List Loc) (ls : Array Slot), k33 h x1 x2 x3 = some rz → CE (EM D aC ad h) (Rg ad) s H locs → lv_has ls 6 [(0, .ref (ad 116)), (1, .int x1), (2, .int x2), (3, .int x3)] → W p l e (RM 0 0 0 0) s m args below meth c H locs 0 0 (MQ below (PQ (EM D aC ad h) (Rg ad) (some (.int rz))) args s 0 0 (Rg ad)) (F0 m 33 ls [])) {h : MS} {x1 : Int32} {x2 : Int32} {x3 : Int32}  {H : Heap} {locs : List Loc} {ls : Array Slot} (hf : fX12_isProved_33F k33 h x1 x2 x3 = some rz) (hE : CE (EM D aC ad h) (Rg ad) s H locs) (hl : lv_has ls 6 [(0, .ref (ad 116)), (1, .int x1), (2, .int x2), (3, .int x3)]) : W p l e (RM 0 0 0 0) s m args below meth c H locs 0 0 (MQ below (PQ (EM D aC ad h) (Rg ad) (some (.int rz))) args s 0 0 (Rg ad)) (F0 m 33 ls []) := by
  unfold fX12_isProved_33F at hf
  refine lv_iload_n b.1 b.2.1 dX12_isProved_33 rfl (lv_at hl 3 rfl) ?_
  refine lv_iconst (v := (-1)) b.1 b.2.1 dX12_isProved_34 (by decide) ?_
  refine lv_icmp_eq (tgt := 79) b.1 b.2.1 dX12_isProved_35 (by decide) (fun c21 => ?_) (fun c21 => ?_)
  · have hf := oI_t c21 hf
    refine lv_iload_n b.1 b.2.1 dX12_isProved_79 rfl (lv_at hl 2 rfl) ?_
    refine lv_if_ne (tgt := 85) b.1 b.2.1 dX12_isProved_80 (by decide) (fun c22 => ?_) (fun c22 => ?_)
    · have hf := oI_f c22 hf
      refine lv_aload_n b.1 b.2.1 dX12_isProved_85 rfl (lv_at hl 0 rfl) ?_
      refine gM_192 b hE dX12_isProved_86 ?_
      refine lv_iload_n b.1 b.2.1 dX12_isProved_89 rfl (lv_at hl 1 rfl) ?_
      refine lv_iconst (v := 1) b.1 b.2.1 dX12_isProved_90 (by decide) ?_
      refine lv_ixor b.1 b.2.1 dX12_isProved_91 ?_
      obtain ⟨g23, hf⟩ := oC_s hf
      refine m_iald b hE rfl rfl g23 dX12_isProved_92 ?_
      obtain ⟨y24, ey24, hf⟩ := oL_s hf
      refine k_nmI ey24 ?_
      refine lv_istore_n (lv' := [(3, .int y24), (0, .ref (ad 116)), (1, .int x1), (2, .int x2)]) b.1 b.2.1 dX12_isProved_93 rfl hl (by decide) rfl (fun ls hl => ?_)
      have hl := lv_sub (l' := [(3, .int y24), (0, .ref (ad 116)), (1, .int x1)]) hl [0, 1, 2] rfl
      exact wfX12_isProved_94 b hlk hr zs zk  FU h x1 y24 _ _ _ hf hE (lv_sub hl [1, 2, 0] rfl)
    · have hf := oI_t c22 hf
      refine lv_iconst (v := 0) b.1 b.2.1 dX12_isProved_83 (by decide) ?_
      cases hf
      exact k_zret b hlk hr (by decide) hE (Nat.le_refl _) (Nat.le_refl _) dX12_isProved_84
  · have hf := oI_f c21 hf
    refine lv_iload_n b.1 b.2.1 dX12_isProved_38 rfl (lv_at hl 2 rfl) ?_
    refine lv_if_ne (tgt := 63) b.1 b.2.1 dX12_isProved_39 (by decide) (fun c25 => ?_) (fun c25 => ?_)
    · have hf := oI_f c25 hf
      refine lv_iconst (v := 1) b.1 b.2.1 dX12_isProved_63 (by decide) ?_
      refine lv_goto (tgt := 68) b.1 b.2.1 dX12_isProved_64 (by decide) ?_
      exact wfX12_isProved_68 b hlk hr zs zk H33 hf hE (lv_sub hl [0, 1, 3] rfl)
    · have hf := oI_t c25 hf
      refine lv_aload_n b.1 b.2.1 dX12_isProved_42 rfl (lv_at hl 0 rfl) ?_
      refine gM_85 b hE dX12_isProved_43 ?_
      refine lv_iload_n b.1 b.2.1 dX12_isProved_46 rfl (lv_at hl 3 rfl) ?_
      refine lv_bipush (v := 125) b.1 b.2.1 dX12_isProved_47 (by decide) ?_
      refine lv_idiv b.1 b.2.1 dX12_isProved_49 (by decide) ?_
      obtain ⟨g26, hf⟩ := oC_s hf
      refine m_iald b hE rfl rfl g26 dX12_isProved_50 ?_
      refine lv_if_ne (tgt := 67) b.1 b.2.1 dX12_isProved_51 (by decide) (fun c27 => ?_) (fun c27 => ?_)
      · have hf := oI_f c27 hf
        refine lv_iconst (v := 0) b.1 b.2.1 dX12_isProved_67 (by decide) ?_
        exact wfX12_isProved_68 b hlk hr zs zk H33 hf hE (lv_sub hl [0, 1, 3] rfl)
      · have hf := oI_t c27 hf
        refine lv_aload_n b.1 b.2.1 dX12_isProved_54 rfl (lv_at hl 0 rfl) ?_
        refine gM_198 b hE dX12_isProved_55 ?_
        refine lv_iload_n b.1 b.2.1 dX12_isProved_58 rfl (lv_at hl 3 rfl) ?_
        obtain ⟨g28, hf⟩ := oC_s hf
        refine m_zald b hE rfl rfl g28 dX12_isProved_59 ?_
        refine lv_if_eq (tgt := 67) b.1 b.2.1 dX12_isProved_60 (by decide) (fun c29 => ?_) (fun c29 => ?_)
        · have hf := oI_t c29 hf
          refine lv_iconst (v := 0) b.1 b.2.1 dX12_isProved_67 (by decide) ?_
          exact wfX12_isProved_68 b hlk hr zs zk H33 hf hE (lv_sub hl [0, 1, 3] rfl)
        · have hf := oI_f c29 hf
          refine lv_iconst (v := 1) b.1 b.2.1 dX12_isProved_63 (by decide) ?_
          refine lv_goto (tgt := 68) b.1 b.2.1 dX12_isProved_64 (by decide) ?_
          exact wfX12_isProved_68 b hlk hr zs zk H33 hf hE (lv_sub hl [0, 1, 3] rfl)
def fX12_isProved_33  : Nat → MS → Int32 → Int32 → Int32 → Option (Int32)
  | 0 => fun _ _ _ _ => none
  | n + 1 => fX12_isProved_33F  (fX12_isProved_33  n)
set_option maxHeartbeats 4000000 in
theorem wfX12_isProved_33 {args : Array Value} (b : Bd p s m c cX12_isProved 6 RX12 D aC) (hlk : meth.locks = false) (hr : meth.sig.returnType = some .boolean) {Z : State → Prop} (zs : Z s) (zk : ZOK Z (Rg ad)) {rz : Int32} : ∀ n : Nat, ∀ (h : MS) (x1 : Int32) (x2 : Int32) (x3 : Int32), ∀ (H : Heap) (locs : List Loc) (ls : Array Slot), fX12_isProved_33  n h x1 x2 x3 = some rz → CE (EM D aC ad h) (Rg ad) s H locs → lv_has ls 6 [(0, .ref (ad 116)), (1, .int x1), (2, .int x2), (3, .int x3)] → W p l e (RM 0 0 0 0) s m args below meth c H locs 0 0 (MQ below (PQ (EM D aC ad h) (Rg ad) (some (.int rz))) args s 0 0 (Rg ad)) (F0 m 33 ls []) := by
  intro n
  induction n with
  | zero =>
    intro h x1 x2 x3 H locs ls hf
    have hf : (none : Option (Int32)) = some _ := hf
    cases hf
  | succ n ih =>
    intro h x1 x2 x3 H locs ls hf hE hl
    exact wfX12_isProved_33F b hlk hr zs zk  ih hf hE hl
def fX12_isProved_0  (h : MS) (x1 : Int32) : Option (Int32) :=
  oC (ix x1 (mlen 91)) (if (mA h 91 (Int32.toNatClampNeg x1)) = 0 then (oC (ix (x1 ^^^ 1) (mlen 91)) (if (mA h 91 (Int32.toNatClampNeg (x1 ^^^ 1))) = 0 then (oC (ix x1 (mlen 87)) (oL (mA h 87 (Int32.toNatClampNeg x1)) (fun y35 => fX12_isProved_33  FU h x1 0 y35))) else (some (0)))) else (some (1)))
set_option maxHeartbeats 4000000 in
theorem wfX12_isProved_0 {args : Array Value} (b : Bd p s m c cX12_isProved 6 RX12 D aC) (hlk : meth.locks = false) (hr : meth.sig.returnType = some .boolean) {Z : State → Prop} (zs : Z s) (zk : ZOK Z (Rg ad)) {rz : Int32} {h : MS} {x1 : Int32}  {H : Heap} {locs : List Loc} {ls : Array Slot} (hf : fX12_isProved_0 h x1 = some rz) (hE : CE (EM D aC ad h) (Rg ad) s H locs) (hl : lv_has ls 6 [(0, .ref (ad 116)), (1, .int x1)]) : W p l e (RM 0 0 0 0) s m args below meth c H locs 0 0 (MQ below (PQ (EM D aC ad h) (Rg ad) (some (.int rz))) args s 0 0 (Rg ad)) (F0 m 0 ls []) := by
  unfold fX12_isProved_0 at hf
  refine lv_aload_n b.1 b.2.1 dX12_isProved_0 rfl (lv_at hl 0 rfl) ?_
  refine gM_204 b hE dX12_isProved_1 ?_
  refine lv_iload_n b.1 b.2.1 dX12_isProved_4 rfl (lv_at hl 1 rfl) ?_
  obtain ⟨g30, hf⟩ := oC_s hf
  refine m_zald b hE rfl rfl g30 dX12_isProved_5 ?_
  refine lv_if_eq (tgt := 11) b.1 b.2.1 dX12_isProved_6 (by decide) (fun c31 => ?_) (fun c31 => ?_)
  · have hf := oI_t c31 hf
    refine lv_aload_n b.1 b.2.1 dX12_isProved_11 rfl (lv_at hl 0 rfl) ?_
    refine gM_204 b hE dX12_isProved_12 ?_
    refine lv_iload_n b.1 b.2.1 dX12_isProved_15 rfl (lv_at hl 1 rfl) ?_
    refine lv_iconst (v := 1) b.1 b.2.1 dX12_isProved_16 (by decide) ?_
    refine lv_ixor b.1 b.2.1 dX12_isProved_17 ?_
    obtain ⟨g32, hf⟩ := oC_s hf
    refine m_zald b hE rfl rfl g32 dX12_isProved_18 ?_
    refine lv_if_eq (tgt := 24) b.1 b.2.1 dX12_isProved_19 (by decide) (fun c33 => ?_) (fun c33 => ?_)
    · have hf := oI_t c33 hf
      refine lv_iconst (v := 0) b.1 b.2.1 dX12_isProved_24 (by decide) ?_
      refine lv_istore_n (lv' := [(2, .int 0), (0, .ref (ad 116)), (1, .int x1)]) b.1 b.2.1 dX12_isProved_25 rfl hl (by decide) rfl (fun ls hl => ?_)
      refine lv_aload_n b.1 b.2.1 dX12_isProved_26 rfl (lv_at hl 1 rfl) ?_
      refine gM_192 b hE dX12_isProved_27 ?_
      refine lv_iload_n b.1 b.2.1 dX12_isProved_30 rfl (lv_at hl 2 rfl) ?_
      obtain ⟨g34, hf⟩ := oC_s hf
      refine m_iald b hE rfl rfl g34 dX12_isProved_31 ?_
      obtain ⟨y35, ey35, hf⟩ := oL_s hf
      refine k_nmI ey35 ?_
      refine lv_istore_n (lv' := [(3, .int y35), (2, .int 0), (0, .ref (ad 116)), (1, .int x1)]) b.1 b.2.1 dX12_isProved_32 rfl hl (by decide) rfl (fun ls hl => ?_)
      exact wfX12_isProved_33 b hlk hr zs zk  FU h x1 0 y35 _ _ _ hf hE (lv_sub hl [2, 3, 1, 0] rfl)
    · have hf := oI_f c33 hf
      refine lv_iconst (v := 0) b.1 b.2.1 dX12_isProved_22 (by decide) ?_
      cases hf
      exact k_zret b hlk hr (by decide) hE (Nat.le_refl _) (Nat.le_refl _) dX12_isProved_23
  · have hf := oI_f c31 hf
    refine lv_iconst (v := 1) b.1 b.2.1 dX12_isProved_9 (by decide) ?_
    cases hf
    exact k_zret b hlk hr (by decide) hE (Nat.le_refl _) (Nat.le_refl _) dX12_isProved_10
def fX12_isProved (h : MS) (x1 : Int32) : Option (Int32) := fX12_isProved_0 h x1
set_option maxHeartbeats 4000000 in
theorem CX12_isProved (l : Launch) (D : va_G) (aC : Nat → ClassId) (ad : Nat → Nat) {Z : State → Prop} (zk : ZOK Z (Rg ad)) {h : MS} {x1 : Int32} {rz : Int32} (hf : fX12_isProved h x1 = some rz) : CM l D aC Z yX12_isProved cX12_isProved 6 (some .boolean) 0 0 0 0 (EM D aC ad h) [.ref (ad 116), .int x1] (EM D aC ad h) (some (.int rz)) (Rg ad) := by
  refine CM.of rfl ?_
  intro p e s m below meth c b hr hlk hin2 zs hE
  refine k_ent (Nat.le_of_ble_eq_true rfl) (fun ls hl => ?_)
  exact wfX12_isProved_0 b hlk hr zs zk hf hE (lv_sub hl [0, 1] rfl)
theorem dX12_isAgainst_0 : decode cX12_isAgainst 0 = .ok (.aload_n 0, 1) := by decide +kernel
theorem dX12_isAgainst_1 : decode cX12_isAgainst 1 = .ok (.getfield 198, 3) := by decide +kernel
theorem dX12_isAgainst_4 : decode cX12_isAgainst 4 = .ok (.iload_n 1, 1) := by decide +kernel
theorem dX12_isAgainst_5 : decode cX12_isAgainst 5 = .ok (.baload, 1) := by decide +kernel
theorem dX12_isAgainst_6 : decode cX12_isAgainst 6 = .ok (.ifCond .ne 5, 3) := by decide +kernel
theorem dX12_isAgainst_9 : decode cX12_isAgainst 9 = .ok (.iconst 0, 1) := by decide +kernel
theorem dX12_isAgainst_10 : decode cX12_isAgainst 10 = .ok (.ireturn, 1) := by decide +kernel
theorem dX12_isAgainst_11 : decode cX12_isAgainst 11 = .ok (.aload_n 0, 1) := by decide +kernel
theorem dX12_isAgainst_12 : decode cX12_isAgainst 12 = .ok (.getfield 192, 3) := by decide +kernel
theorem dX12_isAgainst_15 : decode cX12_isAgainst 15 = .ok (.iload_n 2, 1) := by decide +kernel
theorem dX12_isAgainst_16 : decode cX12_isAgainst 16 = .ok (.iaload, 1) := by decide +kernel
theorem dX12_isAgainst_17 : decode cX12_isAgainst 17 = .ok (.istore_n 3, 1) := by decide +kernel
theorem dX12_isAgainst_18 : decode cX12_isAgainst 18 = .ok (.iload_n 3, 1) := by decide +kernel
theorem dX12_isAgainst_19 : decode cX12_isAgainst 19 = .ok (.iconst (-1), 1) := by decide +kernel
theorem dX12_isAgainst_20 : decode cX12_isAgainst 20 = .ok (.if_icmp .eq 56, 3) := by decide +kernel
theorem dX12_isAgainst_23 : decode cX12_isAgainst 23 = .ok (.aload_n 0, 1) := by decide +kernel
theorem dX12_isAgainst_24 : decode cX12_isAgainst 24 = .ok (.getfield 85, 3) := by decide +kernel
theorem dX12_isAgainst_27 : decode cX12_isAgainst 27 = .ok (.iload_n 3, 1) := by decide +kernel
theorem dX12_isAgainst_28 : decode cX12_isAgainst 28 = .ok (.bipush 125, 2) := by decide +kernel
theorem dX12_isAgainst_30 : decode cX12_isAgainst 30 = .ok (.idiv, 1) := by decide +kernel
theorem dX12_isAgainst_31 : decode cX12_isAgainst 31 = .ok (.iaload, 1) := by decide +kernel
theorem dX12_isAgainst_32 : decode cX12_isAgainst 32 = .ok (.ifCond .ne 34, 3) := by decide +kernel
theorem dX12_isAgainst_35 : decode cX12_isAgainst 35 = .ok (.aload_n 0, 1) := by decide +kernel
theorem dX12_isAgainst_36 : decode cX12_isAgainst 36 = .ok (.getfield 201, 3) := by decide +kernel
theorem dX12_isAgainst_39 : decode cX12_isAgainst 39 = .ok (.iload_n 3, 1) := by decide +kernel
theorem dX12_isAgainst_40 : decode cX12_isAgainst 40 = .ok (.baload, 1) := by decide +kernel
theorem dX12_isAgainst_41 : decode cX12_isAgainst 41 = .ok (.ifCond .ne 25, 3) := by decide +kernel
theorem dX12_isAgainst_44 : decode cX12_isAgainst 44 = .ok (.aload_n 0, 1) := by decide +kernel
theorem dX12_isAgainst_45 : decode cX12_isAgainst 45 = .ok (.getfield 213, 3) := by decide +kernel
theorem dX12_isAgainst_48 : decode cX12_isAgainst 48 = .ok (.bipush 30, 2) := by decide +kernel
theorem dX12_isAgainst_50 : decode cX12_isAgainst 50 = .ok (.iload_n 3, 1) := by decide +kernel
theorem dX12_isAgainst_51 : decode cX12_isAgainst 51 = .ok (.bipush 125, 2) := by decide +kernel
theorem dX12_isAgainst_53 : decode cX12_isAgainst 53 = .ok (.idiv, 1) := by decide +kernel
theorem dX12_isAgainst_54 : decode cX12_isAgainst 54 = .ok (.imul, 1) := by decide +kernel
theorem dX12_isAgainst_55 : decode cX12_isAgainst 55 = .ok (.iload_n 1, 1) := by decide +kernel
theorem dX12_isAgainst_56 : decode cX12_isAgainst 56 = .ok (.bipush 125, 2) := by decide +kernel
theorem dX12_isAgainst_58 : decode cX12_isAgainst 58 = .ok (.idiv, 1) := by decide +kernel
theorem dX12_isAgainst_59 : decode cX12_isAgainst 59 = .ok (.iadd, 1) := by decide +kernel
theorem dX12_isAgainst_60 : decode cX12_isAgainst 60 = .ok (.baload, 1) := by decide +kernel
theorem dX12_isAgainst_61 : decode cX12_isAgainst 61 = .ok (.ifCond .eq 5, 3) := by decide +kernel
theorem dX12_isAgainst_64 : decode cX12_isAgainst 64 = .ok (.iconst 0, 1) := by decide +kernel
theorem dX12_isAgainst_65 : decode cX12_isAgainst 65 = .ok (.ireturn, 1) := by decide +kernel
theorem dX12_isAgainst_66 : decode cX12_isAgainst 66 = .ok (.aload_n 0, 1) := by decide +kernel
theorem dX12_isAgainst_67 : decode cX12_isAgainst 67 = .ok (.getfield 189, 3) := by decide +kernel
theorem dX12_isAgainst_70 : decode cX12_isAgainst 70 = .ok (.iload_n 3, 1) := by decide +kernel
theorem dX12_isAgainst_71 : decode cX12_isAgainst 71 = .ok (.iaload, 1) := by decide +kernel
theorem dX12_isAgainst_72 : decode cX12_isAgainst 72 = .ok (.istore_n 3, 1) := by decide +kernel
theorem dX12_isAgainst_73 : decode cX12_isAgainst 73 = .ok (.goto (-55), 3) := by decide +kernel
theorem dX12_isAgainst_76 : decode cX12_isAgainst 76 = .ok (.iconst 1, 1) := by decide +kernel
theorem dX12_isAgainst_77 : decode cX12_isAgainst 77 = .ok (.ireturn, 1) := by decide +kernel
def fX12_isAgainst_66 (k18 : MS → Int32 → Int32 → Option (Int32)) (h : MS) (x1 : Int32) (x3 : Int32) : Option (Int32) :=
  oC (ix x3 (mlen 86)) (oL (mA h 86 (Int32.toNatClampNeg x3)) (fun y2 => k18 h x1 y2))
set_option maxHeartbeats 4000000 in
theorem wfX12_isAgainst_66 {args : Array Value} (b : Bd p s m c cX12_isAgainst 4 RX12 D aC) (hlk : meth.locks = false) (hr : meth.sig.returnType = some .boolean) {Z : State → Prop} (zs : Z s) (zk : ZOK Z (Rg ad)) {rz : Int32} {k18 : MS → Int32 → Int32 → Option (Int32)} (H18 : ∀ (h : MS) (x1 : Int32) (x3 : Int32), ∀ (H : Heap) (locs : List Loc) (ls : Array Slot), k18 h x1 x3 = some rz → CE (EM D aC ad h) (Rg ad) s H locs → lv_has ls 4 [(0, .ref (ad 116)), (1, .int x1), (3, .int x3)] → W p l e (RM 0 0 0 0) s m args below meth c H locs 0 0 (MQ below (PQ (EM D aC ad h) (Rg ad) (some (.int rz))) args s 0 0 (Rg ad)) (F0 m 18 ls [])) {h : MS} {x1 : Int32} {x3 : Int32}  {H : Heap} {locs : List Loc} {ls : Array Slot} (hf : fX12_isAgainst_66 k18 h x1 x3 = some rz) (hE : CE (EM D aC ad h) (Rg ad) s H locs) (hl : lv_has ls 4 [(0, .ref (ad 116)), (1, .int x1), (3, .int x3)]) : W p l e (RM 0 0 0 0) s m args below meth c H locs 0 0 (MQ below (PQ (EM D aC ad h) (Rg ad) (some (.int rz))) args s 0 0 (Rg ad)) (F0 m 66 ls []) := by
  unfold fX12_isAgainst_66 at hf
  refine lv_aload_n b.1 b.2.1 dX12_isAgainst_66 rfl (lv_at hl 0 rfl) ?_
  refine gM_189 b hE dX12_isAgainst_67 ?_
  refine lv_iload_n b.1 b.2.1 dX12_isAgainst_70 rfl (lv_at hl 2 rfl) ?_
  obtain ⟨g1, hf⟩ := oC_s hf
  refine m_iald b hE rfl rfl g1 dX12_isAgainst_71 ?_
  obtain ⟨y2, ey2, hf⟩ := oL_s hf
  refine k_nmI ey2 ?_
  refine lv_istore_n (lv' := [(3, .int y2), (0, .ref (ad 116)), (1, .int x1)]) b.1 b.2.1 dX12_isAgainst_72 rfl hl (by decide) rfl (fun ls hl => ?_)
  refine lv_goto (tgt := 18) b.1 b.2.1 dX12_isAgainst_73 (by decide) ?_
  exact H18 h x1 y2 _ _ _ hf hE (lv_sub hl [1, 2, 0] rfl)
def fX12_isAgainst_18F (k18 : MS → Int32 → Int32 → Option (Int32)) (h : MS) (x1 : Int32) (x3 : Int32) : Option (Int32) :=
  if x3 = (-1) then (some (1)) else (oC (ix (x3 / 125) (mlen 40)) (if (mA h 40 (Int32.toNatClampNeg (x3 / 125))) = 0 then (oC (ix x3 (mlen 90)) (if (mA h 90 (Int32.toNatClampNeg x3)) = 0 then (oC (ix ((30 * (x3 / 125)) + (x1 / 125)) (mlen 94)) (if (mA h 94 (Int32.toNatClampNeg ((30 * (x3 / 125)) + (x1 / 125)))) = 0 then (fX12_isAgainst_66 k18 h x1 x3) else (some (0)))) else (fX12_isAgainst_66 k18 h x1 x3))) else (fX12_isAgainst_66 k18 h x1 x3)))
set_option maxHeartbeats 4000000 in
theorem wfX12_isAgainst_18F {args : Array Value} (b : Bd p s m c cX12_isAgainst 4 RX12 D aC) (hlk : meth.locks = false) (hr : meth.sig.returnType = some .boolean) {Z : State → Prop} (zs : Z s) (zk : ZOK Z (Rg ad)) {rz : Int32} {k18 : MS → Int32 → Int32 → Option (Int32)} (H18 : ∀ (h : MS) (x1 : Int32) (x3 : Int32), ∀ (H : Heap) (locs : List Loc) (ls : Array Slot), k18 h x1 x3 = some rz → CE (EM D aC ad h) (Rg ad) s H locs → lv_has ls 4 [(0, .ref (ad 116)), (1, .int x1), (3, .int x3)] → W p l e (RM 0 0 0 0) s m args below meth c H locs 0 0 (MQ below (PQ (EM D aC ad h) (Rg ad) (some (.int rz))) args s 0 0 (Rg ad)) (F0 m 18 ls [])) {h : MS} {x1 : Int32} {x3 : Int32}  {H : Heap} {locs : List Loc} {ls : Array Slot} (hf : fX12_isAgainst_18F k18 h x1 x3 = some rz) (hE : CE (EM D aC ad h) (Rg ad) s H locs) (hl : lv_has ls 4 [(0, .ref (ad 116)), (1, .int x1), (3, .int x3)]) : W p l e (RM 0 0 0 0) s m args below meth c H locs 0 0 (MQ below (PQ (EM D aC ad h) (Rg ad) (some (.int rz))) args s 0 0 (Rg ad)) (F0 m 18 ls []) := by
  unfold fX12_isAgainst_18F at hf
  refine lv_iload_n b.1 b.2.1 dX12_isAgainst_18 rfl (lv_at hl 2 rfl) ?_
  refine lv_iconst (v := (-1)) b.1 b.2.1 dX12_isAgainst_19 (by decide) ?_
  refine lv_icmp_eq (tgt := 76) b.1 b.2.1 dX12_isAgainst_20 (by decide) (fun c3 => ?_) (fun c3 => ?_)
  · have hf := oI_t c3 hf
    refine lv_iconst (v := 1) b.1 b.2.1 dX12_isAgainst_76 (by decide) ?_
    cases hf
    exact k_zret b hlk hr (by decide) hE (Nat.le_refl _) (Nat.le_refl _) dX12_isAgainst_77
  · have hf := oI_f c3 hf
    refine lv_aload_n b.1 b.2.1 dX12_isAgainst_23 rfl (lv_at hl 0 rfl) ?_
    refine gM_85 b hE dX12_isAgainst_24 ?_
    refine lv_iload_n b.1 b.2.1 dX12_isAgainst_27 rfl (lv_at hl 2 rfl) ?_
    refine lv_bipush (v := 125) b.1 b.2.1 dX12_isAgainst_28 (by decide) ?_
    refine lv_idiv b.1 b.2.1 dX12_isAgainst_30 (by decide) ?_
    obtain ⟨g4, hf⟩ := oC_s hf
    refine m_iald b hE rfl rfl g4 dX12_isAgainst_31 ?_
    refine lv_if_ne (tgt := 66) b.1 b.2.1 dX12_isAgainst_32 (by decide) (fun c5 => ?_) (fun c5 => ?_)
    · have hf := oI_f c5 hf
      exact wfX12_isAgainst_66 b hlk hr zs zk H18 hf hE (lv_sub hl [0, 1, 2] rfl)
    · have hf := oI_t c5 hf
      refine lv_aload_n b.1 b.2.1 dX12_isAgainst_35 rfl (lv_at hl 0 rfl) ?_
      refine gM_201 b hE dX12_isAgainst_36 ?_
      refine lv_iload_n b.1 b.2.1 dX12_isAgainst_39 rfl (lv_at hl 2 rfl) ?_
      obtain ⟨g6, hf⟩ := oC_s hf
      refine m_zald b hE rfl rfl g6 dX12_isAgainst_40 ?_
      refine lv_if_ne (tgt := 66) b.1 b.2.1 dX12_isAgainst_41 (by decide) (fun c7 => ?_) (fun c7 => ?_)
      · have hf := oI_f c7 hf
        exact wfX12_isAgainst_66 b hlk hr zs zk H18 hf hE (lv_sub hl [0, 1, 2] rfl)
      · have hf := oI_t c7 hf
        refine lv_aload_n b.1 b.2.1 dX12_isAgainst_44 rfl (lv_at hl 0 rfl) ?_
        refine gM_213 b hE dX12_isAgainst_45 ?_
        refine lv_bipush (v := 30) b.1 b.2.1 dX12_isAgainst_48 (by decide) ?_
        refine lv_iload_n b.1 b.2.1 dX12_isAgainst_50 rfl (lv_at hl 2 rfl) ?_
        refine lv_bipush (v := 125) b.1 b.2.1 dX12_isAgainst_51 (by decide) ?_
        refine lv_idiv b.1 b.2.1 dX12_isAgainst_53 (by decide) ?_
        refine lv_imul b.1 b.2.1 dX12_isAgainst_54 ?_
        refine lv_iload_n b.1 b.2.1 dX12_isAgainst_55 rfl (lv_at hl 1 rfl) ?_
        refine lv_bipush (v := 125) b.1 b.2.1 dX12_isAgainst_56 (by decide) ?_
        refine lv_idiv b.1 b.2.1 dX12_isAgainst_58 (by decide) ?_
        refine lv_iadd b.1 b.2.1 dX12_isAgainst_59 ?_
        obtain ⟨g8, hf⟩ := oC_s hf
        refine m_zald b hE rfl rfl g8 dX12_isAgainst_60 ?_
        refine lv_if_eq (tgt := 66) b.1 b.2.1 dX12_isAgainst_61 (by decide) (fun c9 => ?_) (fun c9 => ?_)
        · have hf := oI_t c9 hf
          exact wfX12_isAgainst_66 b hlk hr zs zk H18 hf hE (lv_sub hl [0, 1, 2] rfl)
        · have hf := oI_f c9 hf
          refine lv_iconst (v := 0) b.1 b.2.1 dX12_isAgainst_64 (by decide) ?_
          cases hf
          exact k_zret b hlk hr (by decide) hE (Nat.le_refl _) (Nat.le_refl _) dX12_isAgainst_65
def fX12_isAgainst_18  : Nat → MS → Int32 → Int32 → Option (Int32)
  | 0 => fun _ _ _ => none
  | n + 1 => fX12_isAgainst_18F  (fX12_isAgainst_18  n)
set_option maxHeartbeats 4000000 in
theorem wfX12_isAgainst_18 {args : Array Value} (b : Bd p s m c cX12_isAgainst 4 RX12 D aC) (hlk : meth.locks = false) (hr : meth.sig.returnType = some .boolean) {Z : State → Prop} (zs : Z s) (zk : ZOK Z (Rg ad)) {rz : Int32} : ∀ n : Nat, ∀ (h : MS) (x1 : Int32) (x3 : Int32), ∀ (H : Heap) (locs : List Loc) (ls : Array Slot), fX12_isAgainst_18  n h x1 x3 = some rz → CE (EM D aC ad h) (Rg ad) s H locs → lv_has ls 4 [(0, .ref (ad 116)), (1, .int x1), (3, .int x3)] → W p l e (RM 0 0 0 0) s m args below meth c H locs 0 0 (MQ below (PQ (EM D aC ad h) (Rg ad) (some (.int rz))) args s 0 0 (Rg ad)) (F0 m 18 ls []) := by
  intro n
  induction n with
  | zero =>
    intro h x1 x3 H locs ls hf
    have hf : (none : Option (Int32)) = some _ := hf
    cases hf
  | succ n ih =>
    intro h x1 x3 H locs ls hf hE hl
    exact wfX12_isAgainst_18F b hlk hr zs zk  ih hf hE hl
def fX12_isAgainst_0  (h : MS) (x1 : Int32) (x2 : Int32) : Option (Int32) :=
  oC (ix x1 (mlen 89)) (if (mA h 89 (Int32.toNatClampNeg x1)) = 0 then (some (0)) else (oC (ix x2 (mlen 87)) (oL (mA h 87 (Int32.toNatClampNeg x2)) (fun y13 => fX12_isAgainst_18  FU h x1 y13))))
set_option maxHeartbeats 4000000 in
theorem wfX12_isAgainst_0 {args : Array Value} (b : Bd p s m c cX12_isAgainst 4 RX12 D aC) (hlk : meth.locks = false) (hr : meth.sig.returnType = some .boolean) {Z : State → Prop} (zs : Z s) (zk : ZOK Z (Rg ad)) {rz : Int32} {h : MS} {x1 : Int32} {x2 : Int32}  {H : Heap} {locs : List Loc} {ls : Array Slot} (hf : fX12_isAgainst_0 h x1 x2 = some rz) (hE : CE (EM D aC ad h) (Rg ad) s H locs) (hl : lv_has ls 4 [(0, .ref (ad 116)), (1, .int x1), (2, .int x2)]) : W p l e (RM 0 0 0 0) s m args below meth c H locs 0 0 (MQ below (PQ (EM D aC ad h) (Rg ad) (some (.int rz))) args s 0 0 (Rg ad)) (F0 m 0 ls []) := by
  unfold fX12_isAgainst_0 at hf
  refine lv_aload_n b.1 b.2.1 dX12_isAgainst_0 rfl (lv_at hl 0 rfl) ?_
  refine gM_198 b hE dX12_isAgainst_1 ?_
  refine lv_iload_n b.1 b.2.1 dX12_isAgainst_4 rfl (lv_at hl 1 rfl) ?_
  obtain ⟨g10, hf⟩ := oC_s hf
  refine m_zald b hE rfl rfl g10 dX12_isAgainst_5 ?_
  refine lv_if_ne (tgt := 11) b.1 b.2.1 dX12_isAgainst_6 (by decide) (fun c11 => ?_) (fun c11 => ?_)
  · have hf := oI_f c11 hf
    refine lv_aload_n b.1 b.2.1 dX12_isAgainst_11 rfl (lv_at hl 0 rfl) ?_
    refine gM_192 b hE dX12_isAgainst_12 ?_
    refine lv_iload_n b.1 b.2.1 dX12_isAgainst_15 rfl (lv_at hl 2 rfl) ?_
    obtain ⟨g12, hf⟩ := oC_s hf
    refine m_iald b hE rfl rfl g12 dX12_isAgainst_16 ?_
    obtain ⟨y13, ey13, hf⟩ := oL_s hf
    refine k_nmI ey13 ?_
    refine lv_istore_n (lv' := [(3, .int y13), (0, .ref (ad 116)), (1, .int x1), (2, .int x2)]) b.1 b.2.1 dX12_isAgainst_17 rfl hl (by decide) rfl (fun ls hl => ?_)
    have hl := lv_sub (l' := [(3, .int y13), (0, .ref (ad 116)), (1, .int x1)]) hl [0, 1, 2] rfl
    exact wfX12_isAgainst_18 b hlk hr zs zk  FU h x1 y13 _ _ _ hf hE (lv_sub hl [1, 2, 0] rfl)
  · have hf := oI_t c11 hf
    refine lv_iconst (v := 0) b.1 b.2.1 dX12_isAgainst_9 (by decide) ?_
    cases hf
    exact k_zret b hlk hr (by decide) hE (Nat.le_refl _) (Nat.le_refl _) dX12_isAgainst_10
def fX12_isAgainst (h : MS) (x1 : Int32) (x2 : Int32) : Option (Int32) := fX12_isAgainst_0 h x1 x2
set_option maxHeartbeats 4000000 in
theorem CX12_isAgainst (l : Launch) (D : va_G) (aC : Nat → ClassId) (ad : Nat → Nat) {Z : State → Prop} (zk : ZOK Z (Rg ad)) {h : MS} {x1 : Int32} {x2 : Int32} {rz : Int32} (hf : fX12_isAgainst h x1 x2 = some rz) : CM l D aC Z yX12_isAgainst cX12_isAgainst 4 (some .boolean) 0 0 0 0 (EM D aC ad h) [.ref (ad 116), .int x1, .int x2] (EM D aC ad h) (some (.int rz)) (Rg ad) := by
  refine CM.of rfl ?_
  intro p e s m below meth c b hr hlk hin2 zs hE
  refine k_ent (Nat.le_of_ble_eq_true rfl) (fun ls hl => ?_)
  exact wfX12_isAgainst_0 b hlk hr zs zk hf hE (lv_sub hl [0, 1, 2] rfl)
theorem dX12_isRefuted_0 : decode cX12_isRefuted 0 = .ok (.aload_n 0, 1) := by decide +kernel
theorem dX12_isRefuted_1 : decode cX12_isRefuted 1 = .ok (.getfield 204, 3) := by decide +kernel
theorem dX12_isRefuted_4 : decode cX12_isRefuted 4 = .ok (.iload_n 1, 1) := by decide +kernel
theorem dX12_isRefuted_5 : decode cX12_isRefuted 5 = .ok (.baload, 1) := by decide +kernel
theorem dX12_isRefuted_6 : decode cX12_isRefuted 6 = .ok (.ifCond .eq 5, 3) := by decide +kernel
theorem dX12_isRefuted_9 : decode cX12_isRefuted 9 = .ok (.iconst 0, 1) := by decide +kernel
theorem dX12_isRefuted_10 : decode cX12_isRefuted 10 = .ok (.ireturn, 1) := by decide +kernel
theorem dX12_isRefuted_11 : decode cX12_isRefuted 11 = .ok (.aload_n 0, 1) := by decide +kernel
theorem dX12_isRefuted_12 : decode cX12_isRefuted 12 = .ok (.getfield 204, 3) := by decide +kernel
theorem dX12_isRefuted_15 : decode cX12_isRefuted 15 = .ok (.iload_n 1, 1) := by decide +kernel
theorem dX12_isRefuted_16 : decode cX12_isRefuted 16 = .ok (.iconst 1, 1) := by decide +kernel
theorem dX12_isRefuted_17 : decode cX12_isRefuted 17 = .ok (.ixor, 1) := by decide +kernel
theorem dX12_isRefuted_18 : decode cX12_isRefuted 18 = .ok (.baload, 1) := by decide +kernel
theorem dX12_isRefuted_19 : decode cX12_isRefuted 19 = .ok (.ifCond .eq 5, 3) := by decide +kernel
theorem dX12_isRefuted_22 : decode cX12_isRefuted 22 = .ok (.iconst 1, 1) := by decide +kernel
theorem dX12_isRefuted_23 : decode cX12_isRefuted 23 = .ok (.ireturn, 1) := by decide +kernel
theorem dX12_isRefuted_24 : decode cX12_isRefuted 24 = .ok (.iconst 1, 1) := by decide +kernel
theorem dX12_isRefuted_25 : decode cX12_isRefuted 25 = .ok (.istore_n 2, 1) := by decide +kernel
theorem dX12_isRefuted_26 : decode cX12_isRefuted 26 = .ok (.aload_n 0, 1) := by decide +kernel
theorem dX12_isRefuted_27 : decode cX12_isRefuted 27 = .ok (.getfield 192, 3) := by decide +kernel
theorem dX12_isRefuted_30 : decode cX12_isRefuted 30 = .ok (.iload_n 1, 1) := by decide +kernel
theorem dX12_isRefuted_31 : decode cX12_isRefuted 31 = .ok (.iaload, 1) := by decide +kernel
theorem dX12_isRefuted_32 : decode cX12_isRefuted 32 = .ok (.istore_n 3, 1) := by decide +kernel
theorem dX12_isRefuted_33 : decode cX12_isRefuted 33 = .ok (.iload_n 3, 1) := by decide +kernel
theorem dX12_isRefuted_34 : decode cX12_isRefuted 34 = .ok (.iconst (-1), 1) := by decide +kernel
theorem dX12_isRefuted_35 : decode cX12_isRefuted 35 = .ok (.if_icmp .eq 44, 3) := by decide +kernel
theorem dX12_isRefuted_38 : decode cX12_isRefuted 38 = .ok (.iload_n 2, 1) := by decide +kernel
theorem dX12_isRefuted_39 : decode cX12_isRefuted 39 = .ok (.ifCond .eq 28, 3) := by decide +kernel
theorem dX12_isRefuted_42 : decode cX12_isRefuted 42 = .ok (.aload_n 0, 1) := by decide +kernel
theorem dX12_isRefuted_43 : decode cX12_isRefuted 43 = .ok (.getfield 85, 3) := by decide +kernel
theorem dX12_isRefuted_46 : decode cX12_isRefuted 46 = .ok (.iload_n 3, 1) := by decide +kernel
theorem dX12_isRefuted_47 : decode cX12_isRefuted 47 = .ok (.bipush 125, 2) := by decide +kernel
theorem dX12_isRefuted_49 : decode cX12_isRefuted 49 = .ok (.idiv, 1) := by decide +kernel
theorem dX12_isRefuted_50 : decode cX12_isRefuted 50 = .ok (.iaload, 1) := by decide +kernel
theorem dX12_isRefuted_51 : decode cX12_isRefuted 51 = .ok (.ifCond .ne 12, 3) := by decide +kernel
theorem dX12_isRefuted_54 : decode cX12_isRefuted 54 = .ok (.aload_n 0, 1) := by decide +kernel
theorem dX12_isRefuted_55 : decode cX12_isRefuted 55 = .ok (.getfield 201, 3) := by decide +kernel
theorem dX12_isRefuted_58 : decode cX12_isRefuted 58 = .ok (.iload_n 3, 1) := by decide +kernel
theorem dX12_isRefuted_59 : decode cX12_isRefuted 59 = .ok (.baload, 1) := by decide +kernel
theorem dX12_isRefuted_60 : decode cX12_isRefuted 60 = .ok (.ifCond .eq 7, 3) := by decide +kernel
theorem dX12_isRefuted_63 : decode cX12_isRefuted 63 = .ok (.iconst 1, 1) := by decide +kernel
theorem dX12_isRefuted_64 : decode cX12_isRefuted 64 = .ok (.goto 4, 3) := by decide +kernel
theorem dX12_isRefuted_67 : decode cX12_isRefuted 67 = .ok (.iconst 0, 1) := by decide +kernel
theorem dX12_isRefuted_68 : decode cX12_isRefuted 68 = .ok (.istore_n 2, 1) := by decide +kernel
theorem dX12_isRefuted_69 : decode cX12_isRefuted 69 = .ok (.aload_n 0, 1) := by decide +kernel
theorem dX12_isRefuted_70 : decode cX12_isRefuted 70 = .ok (.getfield 189, 3) := by decide +kernel
theorem dX12_isRefuted_73 : decode cX12_isRefuted 73 = .ok (.iload_n 3, 1) := by decide +kernel
theorem dX12_isRefuted_74 : decode cX12_isRefuted 74 = .ok (.iaload, 1) := by decide +kernel
theorem dX12_isRefuted_75 : decode cX12_isRefuted 75 = .ok (.istore_n 3, 1) := by decide +kernel
theorem dX12_isRefuted_76 : decode cX12_isRefuted 76 = .ok (.goto (-43), 3) := by decide +kernel
theorem dX12_isRefuted_79 : decode cX12_isRefuted 79 = .ok (.iload_n 2, 1) := by decide +kernel
theorem dX12_isRefuted_80 : decode cX12_isRefuted 80 = .ok (.ifCond .eq 5, 3) := by decide +kernel
theorem dX12_isRefuted_83 : decode cX12_isRefuted 83 = .ok (.iconst 1, 1) := by decide +kernel
theorem dX12_isRefuted_84 : decode cX12_isRefuted 84 = .ok (.ireturn, 1) := by decide +kernel
theorem dX12_isRefuted_85 : decode cX12_isRefuted 85 = .ok (.aload_n 0, 1) := by decide +kernel
theorem dX12_isRefuted_86 : decode cX12_isRefuted 86 = .ok (.getfield 192, 3) := by decide +kernel
theorem dX12_isRefuted_89 : decode cX12_isRefuted 89 = .ok (.iload_n 1, 1) := by decide +kernel
theorem dX12_isRefuted_90 : decode cX12_isRefuted 90 = .ok (.iconst 1, 1) := by decide +kernel
theorem dX12_isRefuted_91 : decode cX12_isRefuted 91 = .ok (.ixor, 1) := by decide +kernel
theorem dX12_isRefuted_92 : decode cX12_isRefuted 92 = .ok (.iaload, 1) := by decide +kernel
theorem dX12_isRefuted_93 : decode cX12_isRefuted 93 = .ok (.istore_n 3, 1) := by decide +kernel
theorem dX12_isRefuted_94 : decode cX12_isRefuted 94 = .ok (.iload_n 3, 1) := by decide +kernel
theorem dX12_isRefuted_95 : decode cX12_isRefuted 95 = .ok (.iconst (-1), 1) := by decide +kernel
theorem dX12_isRefuted_96 : decode cX12_isRefuted 96 = .ok (.if_icmp .eq 24, 3) := by decide +kernel
theorem dX12_isRefuted_99 : decode cX12_isRefuted 99 = .ok (.aload_n 0, 1) := by decide +kernel
theorem dX12_isRefuted_100 : decode cX12_isRefuted 100 = .ok (.iload_n 3, 1) := by decide +kernel
theorem dX12_isRefuted_101 : decode cX12_isRefuted 101 = .ok (.iload_n 1, 1) := by decide +kernel
theorem dX12_isRefuted_102 : decode cX12_isRefuted 102 = .ok (.invokevirtual 562, 3) := by decide +kernel
theorem dX12_isRefuted_105 : decode cX12_isRefuted 105 = .ok (.ifCond .eq 5, 3) := by decide +kernel
theorem dX12_isRefuted_108 : decode cX12_isRefuted 108 = .ok (.iconst 1, 1) := by decide +kernel
theorem dX12_isRefuted_109 : decode cX12_isRefuted 109 = .ok (.ireturn, 1) := by decide +kernel
theorem dX12_isRefuted_110 : decode cX12_isRefuted 110 = .ok (.aload_n 0, 1) := by decide +kernel
theorem dX12_isRefuted_111 : decode cX12_isRefuted 111 = .ok (.getfield 189, 3) := by decide +kernel
theorem dX12_isRefuted_114 : decode cX12_isRefuted 114 = .ok (.iload_n 3, 1) := by decide +kernel
theorem dX12_isRefuted_115 : decode cX12_isRefuted 115 = .ok (.iaload, 1) := by decide +kernel
theorem dX12_isRefuted_116 : decode cX12_isRefuted 116 = .ok (.istore_n 3, 1) := by decide +kernel
theorem dX12_isRefuted_117 : decode cX12_isRefuted 117 = .ok (.goto (-23), 3) := by decide +kernel
theorem dX12_isRefuted_120 : decode cX12_isRefuted 120 = .ok (.iconst 0, 1) := by decide +kernel
theorem dX12_isRefuted_121 : decode cX12_isRefuted 121 = .ok (.ireturn, 1) := by decide +kernel
def fX12_isRefuted_94F (k94 : MS → Int32 → Int32 → Option (Int32)) (h : MS) (x1 : Int32) (x3 : Int32) : Option (Int32) :=
  if x3 = (-1) then (some (0)) else (oB (fX12_isAgainst h x3 x1) (fun r3 => if r3 = 0 then (oC (ix x3 (mlen 86)) (oL (mA h 86 (Int32.toNatClampNeg x3)) (fun y6 => k94 h x1 y6))) else (some (1))))
set_option maxHeartbeats 4000000 in
theorem wfX12_isRefuted_94F {args : Array Value} (b : Bd p s m c cX12_isRefuted 4 RX12 D aC) (hlk : meth.locks = false) (hr : meth.sig.returnType = some .boolean) {Z : State → Prop} (zs : Z s) (zk : ZOK Z (Rg ad)) {rz : Int32} {k94 : MS → Int32 → Int32 → Option (Int32)} (H94 : ∀ (h : MS) (x1 : Int32) (x3 : Int32), ∀ (H : Heap) (locs : List Loc) (ls : Array Slot), k94 h x1 x3 = some rz → CE (EM D aC ad h) (Rg ad) s H locs → lv_has ls 4 [(0, .ref (ad 116)), (1, .int x1), (3, .int x3)] → W p l e (RM 1 23 0 0) s m args below meth c H locs 0 0 (MQ below (PQ (EM D aC ad h) (Rg ad) (some (.int rz))) args s 0 0 (Rg ad)) (F0 m 94 ls [])) {h : MS} {x1 : Int32} {x3 : Int32}  {H : Heap} {locs : List Loc} {ls : Array Slot} (hf : fX12_isRefuted_94F k94 h x1 x3 = some rz) (hE : CE (EM D aC ad h) (Rg ad) s H locs) (hl : lv_has ls 4 [(0, .ref (ad 116)), (1, .int x1), (3, .int x3)]) : W p l e (RM 1 23 0 0) s m args below meth c H locs 0 0 (MQ below (PQ (EM D aC ad h) (Rg ad) (some (.int rz))) args s 0 0 (Rg ad)) (F0 m 94 ls []) := by
  unfold fX12_isRefuted_94F at hf
  refine lv_iload_n b.1 b.2.1 dX12_isRefuted_94 rfl (lv_at hl 2 rfl) ?_
  refine lv_iconst (v := (-1)) b.1 b.2.1 dX12_isRefuted_95 (by decide) ?_
  refine lv_icmp_eq (tgt := 120) b.1 b.2.1 dX12_isRefuted_96 (by decide) (fun c1 => ?_) (fun c1 => ?_)
  · have hf := oI_t c1 hf
    refine lv_iconst (v := 0) b.1 b.2.1 dX12_isRefuted_120 (by decide) ?_
    cases hf
    exact k_zret b hlk hr (by decide) hE (Nat.le_refl _) (Nat.le_refl _) dX12_isRefuted_121
  · have hf := oI_f c1 hf
    refine lv_aload_n b.1 b.2.1 dX12_isRefuted_99 rfl (lv_at hl 0 rfl) ?_
    refine lv_iload_n b.1 b.2.1 dX12_isRefuted_100 rfl (lv_at hl 2 rfl) ?_
    refine lv_iload_n b.1 b.2.1 dX12_isRefuted_101 rfl (lv_at hl 1 rfl) ?_
    obtain ⟨r3, hc2, hf⟩ := oB_s hf
    refine k_callV0 (C := RX12) b zs zk hE (CX12_isAgainst l D aC ad zk hc2) mc_X12_isAgainst (in8 72 rfl rfl) mi_X12_isAgainst ms_X12_isAgainst ini_RX12 ok_X12_isAgainst (m_recv b hE) ⟨Nat.le_of_ble_eq_true rfl, Nat.le_of_ble_eq_true rfl⟩ rfl hl.1 rfl (k_room _ (by exact Nat.le_of_ble_eq_true rfl)) ⟨Nat.le_refl _, Nat.le_refl _⟩ dX12_isRefuted_102 (fun H locs hE => ?_)
    refine lv_if_eq (tgt := 110) b.1 b.2.1 dX12_isRefuted_105 (by decide) (fun c4 => ?_) (fun c4 => ?_)
    · have hf := oI_t c4 hf
      refine lv_aload_n b.1 b.2.1 dX12_isRefuted_110 rfl (lv_at hl 0 rfl) ?_
      refine gM_189 b hE dX12_isRefuted_111 ?_
      refine lv_iload_n b.1 b.2.1 dX12_isRefuted_114 rfl (lv_at hl 2 rfl) ?_
      obtain ⟨g5, hf⟩ := oC_s hf
      refine m_iald b hE rfl rfl g5 dX12_isRefuted_115 ?_
      obtain ⟨y6, ey6, hf⟩ := oL_s hf
      refine k_nmI ey6 ?_
      refine lv_istore_n (lv' := [(3, .int y6), (0, .ref (ad 116)), (1, .int x1)]) b.1 b.2.1 dX12_isRefuted_116 rfl hl (by decide) rfl (fun ls hl => ?_)
      refine lv_goto (tgt := 94) b.1 b.2.1 dX12_isRefuted_117 (by decide) ?_
      exact H94 h x1 y6 _ _ _ hf hE (lv_sub hl [1, 2, 0] rfl)
    · have hf := oI_f c4 hf
      refine lv_iconst (v := 1) b.1 b.2.1 dX12_isRefuted_108 (by decide) ?_
      cases hf
      exact k_zret b hlk hr (by decide) hE (Nat.le_refl _) (Nat.le_refl _) dX12_isRefuted_109
def fX12_isRefuted_94  : Nat → MS → Int32 → Int32 → Option (Int32)
  | 0 => fun _ _ _ => none
  | n + 1 => fX12_isRefuted_94F  (fX12_isRefuted_94  n)
set_option maxHeartbeats 4000000 in
theorem wfX12_isRefuted_94 {args : Array Value} (b : Bd p s m c cX12_isRefuted 4 RX12 D aC) (hlk : meth.locks = false) (hr : meth.sig.returnType = some .boolean) {Z : State → Prop} (zs : Z s) (zk : ZOK Z (Rg ad)) {rz : Int32} : ∀ n : Nat, ∀ (h : MS) (x1 : Int32) (x3 : Int32), ∀ (H : Heap) (locs : List Loc) (ls : Array Slot), fX12_isRefuted_94  n h x1 x3 = some rz → CE (EM D aC ad h) (Rg ad) s H locs → lv_has ls 4 [(0, .ref (ad 116)), (1, .int x1), (3, .int x3)] → W p l e (RM 1 23 0 0) s m args below meth c H locs 0 0 (MQ below (PQ (EM D aC ad h) (Rg ad) (some (.int rz))) args s 0 0 (Rg ad)) (F0 m 94 ls []) := by
  intro n
  induction n with
  | zero =>
    intro h x1 x3 H locs ls hf
    have hf : (none : Option (Int32)) = some _ := hf
    cases hf
  | succ n ih =>
    intro h x1 x3 H locs ls hf hE hl
    exact wfX12_isRefuted_94F b hlk hr zs zk  ih hf hE hl
def fX12_isRefuted_68 (k33 : MS → Int32 → Int32 → Int32 → Option (Int32)) (h : MS) (x1 : Int32) (x3 : Int32) (s0 : Int32) : Option (Int32) :=
  oC (ix x3 (mlen 86)) (oL (mA h 86 (Int32.toNatClampNeg x3)) (fun y8 => k33 h x1 s0 y8))
set_option maxHeartbeats 4000000 in
theorem wfX12_isRefuted_68 {args : Array Value} (b : Bd p s m c cX12_isRefuted 4 RX12 D aC) (hlk : meth.locks = false) (hr : meth.sig.returnType = some .boolean) {Z : State → Prop} (zs : Z s) (zk : ZOK Z (Rg ad)) {rz : Int32} {k33 : MS → Int32 → Int32 → Int32 → Option (Int32)} (H33 : ∀ (h : MS) (x1 : Int32) (x2 : Int32) (x3 : Int32), ∀ (H : Heap) (locs : List Loc) (ls : Array Slot), k33 h x1 x2 x3 = some rz → CE (EM D aC ad h) (Rg ad) s H locs → lv_has ls 4 [(0, .ref (ad 116)), (1, .int x1), (2, .int x2), (3, .int x3)] → W p l e (RM 1 23 0 0) s m args below meth c H locs 0 0 (MQ below (PQ (EM D aC ad h) (Rg ad) (some (.int rz))) args s 0 0 (Rg ad)) (F0 m 33 ls [])) {h : MS} {x1 : Int32} {x3 : Int32} {s0 : Int32}  {H : Heap} {locs : List Loc} {ls : Array Slot} (hf : fX12_isRefuted_68 k33 h x1 x3 s0 = some rz) (hE : CE (EM D aC ad h) (Rg ad) s H locs) (hl : lv_has ls 4 [(0, .ref (ad 116)), (1, .int x1), (3, .int x3)]) : W p l e (RM 1 23 0 0) s m args below meth c H locs 0 0 (MQ below (PQ (EM D aC ad h) (Rg ad) (some (.int rz))) args s 0 0 (Rg ad)) (F0 m 68 ls [.int s0]) := by
  unfold fX12_isRefuted_68 at hf
  refine lv_istore_n (lv' := [(2, .int s0), (0, .ref (ad 116)), (1, .int x1), (3, .int x3)]) b.1 b.2.1 dX12_isRefuted_68 rfl hl (by decide) rfl (fun ls hl => ?_)
  refine lv_aload_n b.1 b.2.1 dX12_isRefuted_69 rfl (lv_at hl 1 rfl) ?_
  refine gM_189 b hE dX12_isRefuted_70 ?_
  refine lv_iload_n b.1 b.2.1 dX12_isRefuted_73 rfl (lv_at hl 3 rfl) ?_
  obtain ⟨g7, hf⟩ := oC_s hf
  refine m_iald b hE rfl rfl g7 dX12_isRefuted_74 ?_
  obtain ⟨y8, ey8, hf⟩ := oL_s hf
  refine k_nmI ey8 ?_
  refine lv_istore_n (lv' := [(3, .int y8), (2, .int s0), (0, .ref (ad 116)), (1, .int x1)]) b.1 b.2.1 dX12_isRefuted_75 rfl hl (by decide) rfl (fun ls hl => ?_)
  refine lv_goto (tgt := 33) b.1 b.2.1 dX12_isRefuted_76 (by decide) ?_
  exact H33 h x1 s0 y8 _ _ _ hf hE (lv_sub hl [2, 3, 1, 0] rfl)
def fX12_isRefuted_33F (k33 : MS → Int32 → Int32 → Int32 → Option (Int32)) (h : MS) (x1 : Int32) (x2 : Int32) (x3 : Int32) : Option (Int32) :=
  if x3 = (-1) then (if x2 = 0 then (oC (ix (x1 ^^^ 1) (mlen 87)) (oL (mA h 87 (Int32.toNatClampNeg (x1 ^^^ 1))) (fun y12 => fX12_isRefuted_94  FU h x1 y12))) else (some (1))) else (if x2 = 0 then (fX12_isRefuted_68 k33 h x1 x3 0) else (oC (ix (x3 / 125) (mlen 40)) (if (mA h 40 (Int32.toNatClampNeg (x3 / 125))) = 0 then (oC (ix x3 (mlen 90)) (if (mA h 90 (Int32.toNatClampNeg x3)) = 0 then (fX12_isRefuted_68 k33 h x1 x3 0) else (fX12_isRefuted_68 k33 h x1 x3 1))) else (fX12_isRefuted_68 k33 h x1 x3 1))))
set_option maxHeartbeats 4000000 in
theorem wfX12_isRefuted_33F {args : Array Value} (b : Bd p s m c cX12_isRefuted 4 RX12 D aC) (hlk : meth.locks = false) (hr : meth.sig.returnType = some .boolean) {Z : State → Prop} (zs : Z s) (zk : ZOK Z (Rg ad)) {rz : Int32} {k33 : MS → Int32 → Int32 → Int32 → Option (Int32)} (H33 : ∀ (h : MS) (x1 : Int32) (x2 : Int32) (x3 : Int32), ∀ (H : Heap) (locs : List Loc) (ls : Array Slot), k33 h x1 x2 x3 = some rz → CE (EM D aC ad h) (Rg ad) s H locs → lv_has ls 4 [(0, .ref (ad 116)), (1, .int x1), (2, .int x2), (3, .int x3)] → W p l e (RM 1 23 0 0) s m args below meth c H locs 0 0 (MQ below (PQ (EM D aC ad h) (Rg ad) (some (.int rz))) args s 0 0 (Rg ad)) (F0 m 33 ls [])) {h : MS} {x1 : Int32} {x2 : Int32} {x3 : Int32}  {H : Heap} {locs : List Loc} {ls : Array Slot} (hf : fX12_isRefuted_33F k33 h x1 x2 x3 = some rz) (hE : CE (EM D aC ad h) (Rg ad) s H locs) (hl : lv_has ls 4 [(0, .ref (ad 116)), (1, .int x1), (2, .int x2), (3, .int x3)]) : W p l e (RM 1 23 0 0) s m args below meth c H locs 0 0 (MQ below (PQ (EM D aC ad h) (Rg ad) (some (.int rz))) args s 0 0 (Rg ad)) (F0 m 33 ls []) := by
  unfold fX12_isRefuted_33F at hf
  refine lv_iload_n b.1 b.2.1 dX12_isRefuted_33 rfl (lv_at hl 3 rfl) ?_
  refine lv_iconst (v := (-1)) b.1 b.2.1 dX12_isRefuted_34 (by decide) ?_
  refine lv_icmp_eq (tgt := 79) b.1 b.2.1 dX12_isRefuted_35 (by decide) (fun c9 => ?_) (fun c9 => ?_)
  · have hf := oI_t c9 hf
    refine lv_iload_n b.1 b.2.1 dX12_isRefuted_79 rfl (lv_at hl 2 rfl) ?_
    refine lv_if_eq (tgt := 85) b.1 b.2.1 dX12_isRefuted_80 (by decide) (fun c10 => ?_) (fun c10 => ?_)
    · have hf := oI_t c10 hf
      refine lv_aload_n b.1 b.2.1 dX12_isRefuted_85 rfl (lv_at hl 0 rfl) ?_
      refine gM_192 b hE dX12_isRefuted_86 ?_
      refine lv_iload_n b.1 b.2.1 dX12_isRefuted_89 rfl (lv_at hl 1 rfl) ?_
      refine lv_iconst (v := 1) b.1 b.2.1 dX12_isRefuted_90 (by decide) ?_
      refine lv_ixor b.1 b.2.1 dX12_isRefuted_91 ?_
      obtain ⟨g11, hf⟩ := oC_s hf
      refine m_iald b hE rfl rfl g11 dX12_isRefuted_92 ?_
      obtain ⟨y12, ey12, hf⟩ := oL_s hf
      refine k_nmI ey12 ?_
      refine lv_istore_n (lv' := [(3, .int y12), (0, .ref (ad 116)), (1, .int x1), (2, .int x2)]) b.1 b.2.1 dX12_isRefuted_93 rfl hl (by decide) rfl (fun ls hl => ?_)
      have hl := lv_sub (l' := [(3, .int y12), (0, .ref (ad 116)), (1, .int x1)]) hl [0, 1, 2] rfl
      exact wfX12_isRefuted_94 b hlk hr zs zk  FU h x1 y12 _ _ _ hf hE (lv_sub hl [1, 2, 0] rfl)
    · have hf := oI_f c10 hf
      refine lv_iconst (v := 1) b.1 b.2.1 dX12_isRefuted_83 (by decide) ?_
      cases hf
      exact k_zret b hlk hr (by decide) hE (Nat.le_refl _) (Nat.le_refl _) dX12_isRefuted_84
  · have hf := oI_f c9 hf
    refine lv_iload_n b.1 b.2.1 dX12_isRefuted_38 rfl (lv_at hl 2 rfl) ?_
    refine lv_if_eq (tgt := 67) b.1 b.2.1 dX12_isRefuted_39 (by decide) (fun c13 => ?_) (fun c13 => ?_)
    · have hf := oI_t c13 hf
      refine lv_iconst (v := 0) b.1 b.2.1 dX12_isRefuted_67 (by decide) ?_
      exact wfX12_isRefuted_68 b hlk hr zs zk H33 hf hE (lv_sub hl [0, 1, 3] rfl)
    · have hf := oI_f c13 hf
      refine lv_aload_n b.1 b.2.1 dX12_isRefuted_42 rfl (lv_at hl 0 rfl) ?_
      refine gM_85 b hE dX12_isRefuted_43 ?_
      refine lv_iload_n b.1 b.2.1 dX12_isRefuted_46 rfl (lv_at hl 3 rfl) ?_
      refine lv_bipush (v := 125) b.1 b.2.1 dX12_isRefuted_47 (by decide) ?_
      refine lv_idiv b.1 b.2.1 dX12_isRefuted_49 (by decide) ?_
      obtain ⟨g14, hf⟩ := oC_s hf
      refine m_iald b hE rfl rfl g14 dX12_isRefuted_50 ?_
      refine lv_if_ne (tgt := 63) b.1 b.2.1 dX12_isRefuted_51 (by decide) (fun c15 => ?_) (fun c15 => ?_)
      · have hf := oI_f c15 hf
        refine lv_iconst (v := 1) b.1 b.2.1 dX12_isRefuted_63 (by decide) ?_
        refine lv_goto (tgt := 68) b.1 b.2.1 dX12_isRefuted_64 (by decide) ?_
        exact wfX12_isRefuted_68 b hlk hr zs zk H33 hf hE (lv_sub hl [0, 1, 3] rfl)
      · have hf := oI_t c15 hf
        refine lv_aload_n b.1 b.2.1 dX12_isRefuted_54 rfl (lv_at hl 0 rfl) ?_
        refine gM_201 b hE dX12_isRefuted_55 ?_
        refine lv_iload_n b.1 b.2.1 dX12_isRefuted_58 rfl (lv_at hl 3 rfl) ?_
        obtain ⟨g16, hf⟩ := oC_s hf
        refine m_zald b hE rfl rfl g16 dX12_isRefuted_59 ?_
        refine lv_if_eq (tgt := 67) b.1 b.2.1 dX12_isRefuted_60 (by decide) (fun c17 => ?_) (fun c17 => ?_)
        · have hf := oI_t c17 hf
          refine lv_iconst (v := 0) b.1 b.2.1 dX12_isRefuted_67 (by decide) ?_
          exact wfX12_isRefuted_68 b hlk hr zs zk H33 hf hE (lv_sub hl [0, 1, 3] rfl)
        · have hf := oI_f c17 hf
          refine lv_iconst (v := 1) b.1 b.2.1 dX12_isRefuted_63 (by decide) ?_
          refine lv_goto (tgt := 68) b.1 b.2.1 dX12_isRefuted_64 (by decide) ?_
          exact wfX12_isRefuted_68 b hlk hr zs zk H33 hf hE (lv_sub hl [0, 1, 3] rfl)
def fX12_isRefuted_33  : Nat → MS → Int32 → Int32 → Int32 → Option (Int32)
  | 0 => fun _ _ _ _ => none
  | n + 1 => fX12_isRefuted_33F  (fX12_isRefuted_33  n)
set_option maxHeartbeats 4000000 in
theorem wfX12_isRefuted_33 {args : Array Value} (b : Bd p s m c cX12_isRefuted 4 RX12 D aC) (hlk : meth.locks = false) (hr : meth.sig.returnType = some .boolean) {Z : State → Prop} (zs : Z s) (zk : ZOK Z (Rg ad)) {rz : Int32} : ∀ n : Nat, ∀ (h : MS) (x1 : Int32) (x2 : Int32) (x3 : Int32), ∀ (H : Heap) (locs : List Loc) (ls : Array Slot), fX12_isRefuted_33  n h x1 x2 x3 = some rz → CE (EM D aC ad h) (Rg ad) s H locs → lv_has ls 4 [(0, .ref (ad 116)), (1, .int x1), (2, .int x2), (3, .int x3)] → W p l e (RM 1 23 0 0) s m args below meth c H locs 0 0 (MQ below (PQ (EM D aC ad h) (Rg ad) (some (.int rz))) args s 0 0 (Rg ad)) (F0 m 33 ls []) := by
  intro n
  induction n with
  | zero =>
    intro h x1 x2 x3 H locs ls hf
    have hf : (none : Option (Int32)) = some _ := hf
    cases hf
  | succ n ih =>
    intro h x1 x2 x3 H locs ls hf hE hl
    exact wfX12_isRefuted_33F b hlk hr zs zk  ih hf hE hl
def fX12_isRefuted_0  (h : MS) (x1 : Int32) : Option (Int32) :=
  oC (ix x1 (mlen 91)) (if (mA h 91 (Int32.toNatClampNeg x1)) = 0 then (oC (ix (x1 ^^^ 1) (mlen 91)) (if (mA h 91 (Int32.toNatClampNeg (x1 ^^^ 1))) = 0 then (oC (ix x1 (mlen 87)) (oL (mA h 87 (Int32.toNatClampNeg x1)) (fun y23 => fX12_isRefuted_33  FU h x1 1 y23))) else (some (1)))) else (some (0)))
set_option maxHeartbeats 4000000 in
theorem wfX12_isRefuted_0 {args : Array Value} (b : Bd p s m c cX12_isRefuted 4 RX12 D aC) (hlk : meth.locks = false) (hr : meth.sig.returnType = some .boolean) {Z : State → Prop} (zs : Z s) (zk : ZOK Z (Rg ad)) {rz : Int32} {h : MS} {x1 : Int32}  {H : Heap} {locs : List Loc} {ls : Array Slot} (hf : fX12_isRefuted_0 h x1 = some rz) (hE : CE (EM D aC ad h) (Rg ad) s H locs) (hl : lv_has ls 4 [(0, .ref (ad 116)), (1, .int x1)]) : W p l e (RM 1 23 0 0) s m args below meth c H locs 0 0 (MQ below (PQ (EM D aC ad h) (Rg ad) (some (.int rz))) args s 0 0 (Rg ad)) (F0 m 0 ls []) := by
  unfold fX12_isRefuted_0 at hf
  refine lv_aload_n b.1 b.2.1 dX12_isRefuted_0 rfl (lv_at hl 0 rfl) ?_
  refine gM_204 b hE dX12_isRefuted_1 ?_
  refine lv_iload_n b.1 b.2.1 dX12_isRefuted_4 rfl (lv_at hl 1 rfl) ?_
  obtain ⟨g18, hf⟩ := oC_s hf
  refine m_zald b hE rfl rfl g18 dX12_isRefuted_5 ?_
  refine lv_if_eq (tgt := 11) b.1 b.2.1 dX12_isRefuted_6 (by decide) (fun c19 => ?_) (fun c19 => ?_)
  · have hf := oI_t c19 hf
    refine lv_aload_n b.1 b.2.1 dX12_isRefuted_11 rfl (lv_at hl 0 rfl) ?_
    refine gM_204 b hE dX12_isRefuted_12 ?_
    refine lv_iload_n b.1 b.2.1 dX12_isRefuted_15 rfl (lv_at hl 1 rfl) ?_
    refine lv_iconst (v := 1) b.1 b.2.1 dX12_isRefuted_16 (by decide) ?_
    refine lv_ixor b.1 b.2.1 dX12_isRefuted_17 ?_
    obtain ⟨g20, hf⟩ := oC_s hf
    refine m_zald b hE rfl rfl g20 dX12_isRefuted_18 ?_
    refine lv_if_eq (tgt := 24) b.1 b.2.1 dX12_isRefuted_19 (by decide) (fun c21 => ?_) (fun c21 => ?_)
    · have hf := oI_t c21 hf
      refine lv_iconst (v := 1) b.1 b.2.1 dX12_isRefuted_24 (by decide) ?_
      refine lv_istore_n (lv' := [(2, .int 1), (0, .ref (ad 116)), (1, .int x1)]) b.1 b.2.1 dX12_isRefuted_25 rfl hl (by decide) rfl (fun ls hl => ?_)
      refine lv_aload_n b.1 b.2.1 dX12_isRefuted_26 rfl (lv_at hl 1 rfl) ?_
      refine gM_192 b hE dX12_isRefuted_27 ?_
      refine lv_iload_n b.1 b.2.1 dX12_isRefuted_30 rfl (lv_at hl 2 rfl) ?_
      obtain ⟨g22, hf⟩ := oC_s hf
      refine m_iald b hE rfl rfl g22 dX12_isRefuted_31 ?_
      obtain ⟨y23, ey23, hf⟩ := oL_s hf
      refine k_nmI ey23 ?_
      refine lv_istore_n (lv' := [(3, .int y23), (2, .int 1), (0, .ref (ad 116)), (1, .int x1)]) b.1 b.2.1 dX12_isRefuted_32 rfl hl (by decide) rfl (fun ls hl => ?_)
      exact wfX12_isRefuted_33 b hlk hr zs zk  FU h x1 1 y23 _ _ _ hf hE (lv_sub hl [2, 3, 1, 0] rfl)
    · have hf := oI_f c21 hf
      refine lv_iconst (v := 1) b.1 b.2.1 dX12_isRefuted_22 (by decide) ?_
      cases hf
      exact k_zret b hlk hr (by decide) hE (Nat.le_refl _) (Nat.le_refl _) dX12_isRefuted_23
  · have hf := oI_f c19 hf
    refine lv_iconst (v := 0) b.1 b.2.1 dX12_isRefuted_9 (by decide) ?_
    cases hf
    exact k_zret b hlk hr (by decide) hE (Nat.le_refl _) (Nat.le_refl _) dX12_isRefuted_10
def fX12_isRefuted (h : MS) (x1 : Int32) : Option (Int32) := fX12_isRefuted_0 h x1
set_option maxHeartbeats 4000000 in
theorem CX12_isRefuted (l : Launch) (D : va_G) (aC : Nat → ClassId) (ad : Nat → Nat) {Z : State → Prop} (zk : ZOK Z (Rg ad)) {h : MS} {x1 : Int32} {rz : Int32} (hf : fX12_isRefuted h x1 = some rz) : CM l D aC Z yX12_isRefuted cX12_isRefuted 4 (some .boolean) 1 23 0 0 (EM D aC ad h) [.ref (ad 116), .int x1] (EM D aC ad h) (some (.int rz)) (Rg ad) := by
  refine CM.of rfl ?_
  intro p e s m below meth c b hr hlk hin2 zs hE
  refine k_ent (Nat.le_of_ble_eq_true rfl) (fun ls hl => ?_)
  exact wfX12_isRefuted_0 b hlk hr zs zk hf hE (lv_sub hl [0, 1] rfl)
theorem dX12_grows_0 : decode cX12_grows 0 = .ok (.iconst 0, 1) := by decide +kernel
theorem dX12_grows_1 : decode cX12_grows 1 = .ok (.istore_n 1, 1) := by decide +kernel
theorem dX12_grows_2 : decode cX12_grows 2 = .ok (.iconst 0, 1) := by decide +kernel
theorem dX12_grows_3 : decode cX12_grows 3 = .ok (.istore_n 2, 1) := by decide +kernel
theorem dX12_grows_4 : decode cX12_grows 4 = .ok (.iload_n 2, 1) := by decide +kernel
theorem dX12_grows_5 : decode cX12_grows 5 = .ok (.sipush 600, 3) := by decide +kernel
theorem dX12_grows_8 : decode cX12_grows 8 = .ok (.if_icmp .ge 72, 3) := by decide +kernel
theorem dX12_grows_11 : decode cX12_grows 11 = .ok (.aload_n 0, 1) := by decide +kernel
theorem dX12_grows_12 : decode cX12_grows 12 = .ok (.iload_n 2, 1) := by decide +kernel
theorem dX12_grows_13 : decode cX12_grows 13 = .ok (.invokevirtual 533, 3) := by decide +kernel
theorem dX12_grows_16 : decode cX12_grows 16 = .ok (.ifCond .ne 6, 3) := by decide +kernel
theorem dX12_grows_19 : decode cX12_grows 19 = .ok (.goto 55, 3) := by decide +kernel
theorem dX12_grows_22 : decode cX12_grows 22 = .ok (.aload_n 0, 1) := by decide +kernel
theorem dX12_grows_23 : decode cX12_grows 23 = .ok (.getfield 207, 3) := by decide +kernel
theorem dX12_grows_26 : decode cX12_grows 26 = .ok (.iload_n 2, 1) := by decide +kernel
theorem dX12_grows_27 : decode cX12_grows 27 = .ok (.baload, 1) := by decide +kernel
theorem dX12_grows_28 : decode cX12_grows 28 = .ok (.ifCond .ne 20, 3) := by decide +kernel
theorem dX12_grows_31 : decode cX12_grows 31 = .ok (.aload_n 0, 1) := by decide +kernel
theorem dX12_grows_32 : decode cX12_grows 32 = .ok (.iload_n 2, 1) := by decide +kernel
theorem dX12_grows_33 : decode cX12_grows 33 = .ok (.invokevirtual 556, 3) := by decide +kernel
theorem dX12_grows_36 : decode cX12_grows 36 = .ok (.ifCond .eq 12, 3) := by decide +kernel
theorem dX12_grows_39 : decode cX12_grows 39 = .ok (.aload_n 0, 1) := by decide +kernel
theorem dX12_grows_40 : decode cX12_grows 40 = .ok (.getfield 207, 3) := by decide +kernel
theorem dX12_grows_43 : decode cX12_grows 43 = .ok (.iload_n 2, 1) := by decide +kernel
theorem dX12_grows_44 : decode cX12_grows 44 = .ok (.iconst 1, 1) := by decide +kernel
theorem dX12_grows_45 : decode cX12_grows 45 = .ok (.bastore, 1) := by decide +kernel
theorem dX12_grows_46 : decode cX12_grows 46 = .ok (.iconst 1, 1) := by decide +kernel
theorem dX12_grows_47 : decode cX12_grows 47 = .ok (.istore_n 1, 1) := by decide +kernel
theorem dX12_grows_48 : decode cX12_grows 48 = .ok (.aload_n 0, 1) := by decide +kernel
theorem dX12_grows_49 : decode cX12_grows 49 = .ok (.getfield 210, 3) := by decide +kernel
theorem dX12_grows_52 : decode cX12_grows 52 = .ok (.iload_n 2, 1) := by decide +kernel
theorem dX12_grows_53 : decode cX12_grows 53 = .ok (.baload, 1) := by decide +kernel
theorem dX12_grows_54 : decode cX12_grows 54 = .ok (.ifCond .ne 20, 3) := by decide +kernel
theorem dX12_grows_57 : decode cX12_grows 57 = .ok (.aload_n 0, 1) := by decide +kernel
theorem dX12_grows_58 : decode cX12_grows 58 = .ok (.iload_n 2, 1) := by decide +kernel
theorem dX12_grows_59 : decode cX12_grows 59 = .ok (.invokevirtual 559, 3) := by decide +kernel
theorem dX12_grows_62 : decode cX12_grows 62 = .ok (.ifCond .eq 12, 3) := by decide +kernel
theorem dX12_grows_65 : decode cX12_grows 65 = .ok (.aload_n 0, 1) := by decide +kernel
theorem dX12_grows_66 : decode cX12_grows 66 = .ok (.getfield 210, 3) := by decide +kernel
theorem dX12_grows_69 : decode cX12_grows 69 = .ok (.iload_n 2, 1) := by decide +kernel
theorem dX12_grows_70 : decode cX12_grows 70 = .ok (.iconst 1, 1) := by decide +kernel
theorem dX12_grows_71 : decode cX12_grows 71 = .ok (.bastore, 1) := by decide +kernel
theorem dX12_grows_72 : decode cX12_grows 72 = .ok (.iconst 1, 1) := by decide +kernel
theorem dX12_grows_73 : decode cX12_grows 73 = .ok (.istore_n 1, 1) := by decide +kernel
theorem dX12_grows_74 : decode cX12_grows 74 = .ok (.iinc 2 1, 3) := by decide +kernel
theorem dX12_grows_77 : decode cX12_grows 77 = .ok (.goto (-73), 3) := by decide +kernel
theorem dX12_grows_80 : decode cX12_grows 80 = .ok (.iload_n 1, 1) := by decide +kernel
theorem dX12_grows_81 : decode cX12_grows 81 = .ok (.ireturn, 1) := by decide +kernel
def fX12_grows_74 (k4 : MS → Int32 → Int32 → Option (MS × Int32)) (h : MS) (x1 : Int32) (x2 : Int32) : Option (MS × Int32) :=
  oL (x2 + 1) (fun y1 => k4 h x1 y1)
set_option maxHeartbeats 4000000 in
theorem wfX12_grows_74 {args : Array Value} (b : Bd p s m c cX12_grows 3 RX12 D aC) (hlk : meth.locks = false) (hr : meth.sig.returnType = some .boolean) {Z : State → Prop} (zs : Z s) (zk : ZOK Z (Rg ad)) {hz : MS} {rz : Int32} {k4 : MS → Int32 → Int32 → Option (MS × Int32)} (H4 : ∀ (h : MS) (x1 : Int32) (x2 : Int32), ∀ (H : Heap) (locs : List Loc) (ls : Array Slot), k4 h x1 x2 = some (hz, rz) → CE (EM D aC ad h) (Rg ad) s H locs → lv_has ls 3 [(0, .ref (ad 116)), (1, .int x1), (2, .int x2)] → W p l e (RM 2 46 0 0) s m args below meth c H locs 0 0 (MQ below (PQ (EM D aC ad hz) (Rg ad) (some (.int rz))) args s 0 0 (Rg ad)) (F0 m 4 ls [])) {h : MS} {x1 : Int32} {x2 : Int32}  {H : Heap} {locs : List Loc} {ls : Array Slot} (hf : fX12_grows_74 k4 h x1 x2 = some (hz, rz)) (hE : CE (EM D aC ad h) (Rg ad) s H locs) (hl : lv_has ls 3 [(0, .ref (ad 116)), (1, .int x1), (2, .int x2)]) : W p l e (RM 2 46 0 0) s m args below meth c H locs 0 0 (MQ below (PQ (EM D aC ad hz) (Rg ad) (some (.int rz))) args s 0 0 (Rg ad)) (F0 m 74 ls []) := by
  unfold fX12_grows_74 at hf
  obtain ⟨y1, ey1, hf⟩ := oL_s hf
  refine lv_iinc (v := y1) (lv' := [(2, .int y1), (0, .ref (ad 116)), (1, .int x1)]) b.1 b.2.1 dX12_grows_74 hl (k := 2) rfl (by rw [ey1]; rfl) (by decide) rfl (fun ls hl => ?_)
  refine lv_goto (tgt := 4) b.1 b.2.1 dX12_grows_77 (by decide) ?_
  exact H4 h x1 y1 _ _ _ hf hE (lv_sub hl [1, 2, 0] rfl)
def fX12_grows_48 (k4 : MS → Int32 → Int32 → Option (MS × Int32)) (h : MS) (x1 : Int32) (x2 : Int32) : Option (MS × Int32) :=
  oC (ix x2 (mlen 93)) (if (mA h 93 (Int32.toNatClampNeg x2)) = 0 then (oB (fX12_isRefuted h x2) (fun r5 => if r5 = 0 then (fX12_grows_74 k4 h x1 x2) else (oC (ix x2 (mlen 93)) (oL (mSA h 93 (Int32.toNatClampNeg x2) 1) (fun h8 => fX12_grows_74 k4 h8 1 x2))))) else (fX12_grows_74 k4 h x1 x2))
set_option maxHeartbeats 4000000 in
theorem wfX12_grows_48 {args : Array Value} (b : Bd p s m c cX12_grows 3 RX12 D aC) (hlk : meth.locks = false) (hr : meth.sig.returnType = some .boolean) {Z : State → Prop} (zs : Z s) (zk : ZOK Z (Rg ad)) {hz : MS} {rz : Int32} {k4 : MS → Int32 → Int32 → Option (MS × Int32)} (H4 : ∀ (h : MS) (x1 : Int32) (x2 : Int32), ∀ (H : Heap) (locs : List Loc) (ls : Array Slot), k4 h x1 x2 = some (hz, rz) → CE (EM D aC ad h) (Rg ad) s H locs → lv_has ls 3 [(0, .ref (ad 116)), (1, .int x1), (2, .int x2)] → W p l e (RM 2 46 0 0) s m args below meth c H locs 0 0 (MQ below (PQ (EM D aC ad hz) (Rg ad) (some (.int rz))) args s 0 0 (Rg ad)) (F0 m 4 ls [])) {h : MS} {x1 : Int32} {x2 : Int32}  {H : Heap} {locs : List Loc} {ls : Array Slot} (hf : fX12_grows_48 k4 h x1 x2 = some (hz, rz)) (hE : CE (EM D aC ad h) (Rg ad) s H locs) (hl : lv_has ls 3 [(0, .ref (ad 116)), (1, .int x1), (2, .int x2)]) : W p l e (RM 2 46 0 0) s m args below meth c H locs 0 0 (MQ below (PQ (EM D aC ad hz) (Rg ad) (some (.int rz))) args s 0 0 (Rg ad)) (F0 m 48 ls []) := by
  unfold fX12_grows_48 at hf
  refine lv_aload_n b.1 b.2.1 dX12_grows_48 rfl (lv_at hl 0 rfl) ?_
  refine gM_210 b hE dX12_grows_49 ?_
  refine lv_iload_n b.1 b.2.1 dX12_grows_52 rfl (lv_at hl 2 rfl) ?_
  obtain ⟨g2, hf⟩ := oC_s hf
  refine m_zald b hE rfl rfl g2 dX12_grows_53 ?_
  refine lv_if_ne (tgt := 74) b.1 b.2.1 dX12_grows_54 (by decide) (fun c3 => ?_) (fun c3 => ?_)
  · have hf := oI_f c3 hf
    exact wfX12_grows_74 b hlk hr zs zk H4 hf hE (lv_sub hl [0, 1, 2] rfl)
  · have hf := oI_t c3 hf
    refine lv_aload_n b.1 b.2.1 dX12_grows_57 rfl (lv_at hl 0 rfl) ?_
    refine lv_iload_n b.1 b.2.1 dX12_grows_58 rfl (lv_at hl 2 rfl) ?_
    obtain ⟨r5, hc4, hf⟩ := oB_s hf
    refine k_callV0 (C := RX12) b zs zk hE (CX12_isRefuted l D aC ad zk hc4) mc_X12_isRefuted (in8 68 rfl rfl) mi_X12_isRefuted ms_X12_isRefuted ini_RX12 ok_X12_isRefuted (m_recv b hE) ⟨Nat.le_of_ble_eq_true rfl, Nat.le_of_ble_eq_true rfl⟩ rfl hl.1 rfl (k_room _ (by exact Nat.le_of_ble_eq_true rfl)) ⟨Nat.le_refl _, Nat.le_refl _⟩ dX12_grows_59 (fun H locs hE => ?_)
    refine lv_if_eq (tgt := 74) b.1 b.2.1 dX12_grows_62 (by decide) (fun c6 => ?_) (fun c6 => ?_)
    · have hf := oI_t c6 hf
      exact wfX12_grows_74 b hlk hr zs zk H4 hf hE (lv_sub hl [0, 1, 2] rfl)
    · have hf := oI_f c6 hf
      refine lv_aload_n b.1 b.2.1 dX12_grows_65 rfl (lv_at hl 0 rfl) ?_
      refine gM_210 b hE dX12_grows_66 ?_
      refine lv_iload_n b.1 b.2.1 dX12_grows_69 rfl (lv_at hl 2 rfl) ?_
      refine lv_iconst (v := 1) b.1 b.2.1 dX12_grows_70 (by decide) ?_
      obtain ⟨g7, hf⟩ := oC_s hf
      obtain ⟨h8, eh8, hf⟩ := oL_s hf
      refine n_zast b hE (by decide) rfl rfl g7 eh8 dX12_grows_71 (fun H locs hE => ?_)
      refine lv_iconst (v := 1) b.1 b.2.1 dX12_grows_72 (by decide) ?_
      refine lv_istore_n (lv' := [(1, .int 1), (0, .ref (ad 116)), (2, .int x2)]) b.1 b.2.1 dX12_grows_73 rfl hl (by decide) rfl (fun ls hl => ?_)
      exact wfX12_grows_74 b hlk hr zs zk H4 hf hE (lv_sub hl [1, 0, 2] rfl)
def fX12_grows_4F (k4 : MS → Int32 → Int32 → Option (MS × Int32)) (h : MS) (x1 : Int32) (x2 : Int32) : Option (MS × Int32) :=
  if 600 ≤ x2 then (oC (isB x1) (some (h, x1))) else (oB (fX12_isLiteral h x2) (fun r12 => if r12 = 0 then (fX12_grows_74 k4 h x1 x2) else (oC (ix x2 (mlen 92)) (if (mA h 92 (Int32.toNatClampNeg x2)) = 0 then (oB (fX12_isProved h x2) (fun r17 => if r17 = 0 then (fX12_grows_48 k4 h x1 x2) else (oC (ix x2 (mlen 92)) (oL (mSA h 92 (Int32.toNatClampNeg x2) 1) (fun h20 => fX12_grows_48 k4 h20 1 x2))))) else (fX12_grows_48 k4 h x1 x2)))))
set_option maxHeartbeats 4000000 in
theorem wfX12_grows_4F {args : Array Value} (b : Bd p s m c cX12_grows 3 RX12 D aC) (hlk : meth.locks = false) (hr : meth.sig.returnType = some .boolean) {Z : State → Prop} (zs : Z s) (zk : ZOK Z (Rg ad)) {hz : MS} {rz : Int32} {k4 : MS → Int32 → Int32 → Option (MS × Int32)} (H4 : ∀ (h : MS) (x1 : Int32) (x2 : Int32), ∀ (H : Heap) (locs : List Loc) (ls : Array Slot), k4 h x1 x2 = some (hz, rz) → CE (EM D aC ad h) (Rg ad) s H locs → lv_has ls 3 [(0, .ref (ad 116)), (1, .int x1), (2, .int x2)] → W p l e (RM 2 46 0 0) s m args below meth c H locs 0 0 (MQ below (PQ (EM D aC ad hz) (Rg ad) (some (.int rz))) args s 0 0 (Rg ad)) (F0 m 4 ls [])) {h : MS} {x1 : Int32} {x2 : Int32}  {H : Heap} {locs : List Loc} {ls : Array Slot} (hf : fX12_grows_4F k4 h x1 x2 = some (hz, rz)) (hE : CE (EM D aC ad h) (Rg ad) s H locs) (hl : lv_has ls 3 [(0, .ref (ad 116)), (1, .int x1), (2, .int x2)]) : W p l e (RM 2 46 0 0) s m args below meth c H locs 0 0 (MQ below (PQ (EM D aC ad hz) (Rg ad) (some (.int rz))) args s 0 0 (Rg ad)) (F0 m 4 ls []) := by
  unfold fX12_grows_4F at hf
  refine lv_iload_n b.1 b.2.1 dX12_grows_4 rfl (lv_at hl 2 rfl) ?_
  refine lv_sipush (v := 600) b.1 b.2.1 dX12_grows_5 (by decide) ?_
  refine lv_icmp_ge (tgt := 80) b.1 b.2.1 dX12_grows_8 (by decide) (fun c9 => ?_) (fun c9 => ?_)
  · have hf := oI_t c9 hf
    refine lv_iload_n b.1 b.2.1 dX12_grows_80 rfl (lv_at hl 1 rfl) ?_
    obtain ⟨g10, hf⟩ := oC_s hf
    cases hf
    exact k_zret b hlk hr g10 hE (Nat.le_refl _) (Nat.le_refl _) dX12_grows_81
  · have hf := oI_f c9 hf
    refine lv_aload_n b.1 b.2.1 dX12_grows_11 rfl (lv_at hl 0 rfl) ?_
    refine lv_iload_n b.1 b.2.1 dX12_grows_12 rfl (lv_at hl 2 rfl) ?_
    obtain ⟨r12, hc11, hf⟩ := oB_s hf
    refine k_callV0 (C := RX12) b zs zk hE (CX12_isLiteral l D aC ad zk hc11) mc_X12_isLiteral (in8 60 rfl rfl) mi_X12_isLiteral ms_X12_isLiteral ini_RX12 ok_X12_isLiteral (m_recv b hE) ⟨Nat.le_of_ble_eq_true rfl, Nat.le_of_ble_eq_true rfl⟩ rfl hl.1 rfl (k_room _ (by exact Nat.le_of_ble_eq_true rfl)) ⟨Nat.le_refl _, Nat.le_refl _⟩ dX12_grows_13 (fun H locs hE => ?_)
    refine lv_if_ne (tgt := 22) b.1 b.2.1 dX12_grows_16 (by decide) (fun c13 => ?_) (fun c13 => ?_)
    · have hf := oI_f c13 hf
      refine lv_aload_n b.1 b.2.1 dX12_grows_22 rfl (lv_at hl 0 rfl) ?_
      refine gM_207 b hE dX12_grows_23 ?_
      refine lv_iload_n b.1 b.2.1 dX12_grows_26 rfl (lv_at hl 2 rfl) ?_
      obtain ⟨g14, hf⟩ := oC_s hf
      refine m_zald b hE rfl rfl g14 dX12_grows_27 ?_
      refine lv_if_ne (tgt := 48) b.1 b.2.1 dX12_grows_28 (by decide) (fun c15 => ?_) (fun c15 => ?_)
      · have hf := oI_f c15 hf
        exact wfX12_grows_48 b hlk hr zs zk H4 hf hE (lv_sub hl [0, 1, 2] rfl)
      · have hf := oI_t c15 hf
        refine lv_aload_n b.1 b.2.1 dX12_grows_31 rfl (lv_at hl 0 rfl) ?_
        refine lv_iload_n b.1 b.2.1 dX12_grows_32 rfl (lv_at hl 2 rfl) ?_
        obtain ⟨r17, hc16, hf⟩ := oB_s hf
        refine k_callV0 (C := RX12) b zs zk hE (CX12_isProved l D aC ad zk hc16) mc_X12_isProved (in8 64 rfl rfl) mi_X12_isProved ms_X12_isProved ini_RX12 ok_X12_isProved (m_recv b hE) ⟨Nat.le_of_ble_eq_true rfl, Nat.le_of_ble_eq_true rfl⟩ rfl hl.1 rfl (k_room _ (by exact Nat.le_of_ble_eq_true rfl)) ⟨Nat.le_refl _, Nat.le_refl _⟩ dX12_grows_33 (fun H locs hE => ?_)
        refine lv_if_eq (tgt := 48) b.1 b.2.1 dX12_grows_36 (by decide) (fun c18 => ?_) (fun c18 => ?_)
        · have hf := oI_t c18 hf
          exact wfX12_grows_48 b hlk hr zs zk H4 hf hE (lv_sub hl [0, 1, 2] rfl)
        · have hf := oI_f c18 hf
          refine lv_aload_n b.1 b.2.1 dX12_grows_39 rfl (lv_at hl 0 rfl) ?_
          refine gM_207 b hE dX12_grows_40 ?_
          refine lv_iload_n b.1 b.2.1 dX12_grows_43 rfl (lv_at hl 2 rfl) ?_
          refine lv_iconst (v := 1) b.1 b.2.1 dX12_grows_44 (by decide) ?_
          obtain ⟨g19, hf⟩ := oC_s hf
          obtain ⟨h20, eh20, hf⟩ := oL_s hf
          refine n_zast b hE (by decide) rfl rfl g19 eh20 dX12_grows_45 (fun H locs hE => ?_)
          refine lv_iconst (v := 1) b.1 b.2.1 dX12_grows_46 (by decide) ?_
          refine lv_istore_n (lv' := [(1, .int 1), (0, .ref (ad 116)), (2, .int x2)]) b.1 b.2.1 dX12_grows_47 rfl hl (by decide) rfl (fun ls hl => ?_)
          exact wfX12_grows_48 b hlk hr zs zk H4 hf hE (lv_sub hl [1, 0, 2] rfl)
    · have hf := oI_t c13 hf
      refine lv_goto (tgt := 74) b.1 b.2.1 dX12_grows_19 (by decide) ?_
      exact wfX12_grows_74 b hlk hr zs zk H4 hf hE (lv_sub hl [0, 1, 2] rfl)
def fX12_grows_4  : Nat → MS → Int32 → Int32 → Option (MS × Int32)
  | 0 => fun _ _ _ => none
  | n + 1 => fX12_grows_4F  (fX12_grows_4  n)
set_option maxHeartbeats 4000000 in
theorem wfX12_grows_4 {args : Array Value} (b : Bd p s m c cX12_grows 3 RX12 D aC) (hlk : meth.locks = false) (hr : meth.sig.returnType = some .boolean) {Z : State → Prop} (zs : Z s) (zk : ZOK Z (Rg ad)) {hz : MS} {rz : Int32} : ∀ n : Nat, ∀ (h : MS) (x1 : Int32) (x2 : Int32), ∀ (H : Heap) (locs : List Loc) (ls : Array Slot), fX12_grows_4  n h x1 x2 = some (hz, rz) → CE (EM D aC ad h) (Rg ad) s H locs → lv_has ls 3 [(0, .ref (ad 116)), (1, .int x1), (2, .int x2)] → W p l e (RM 2 46 0 0) s m args below meth c H locs 0 0 (MQ below (PQ (EM D aC ad hz) (Rg ad) (some (.int rz))) args s 0 0 (Rg ad)) (F0 m 4 ls []) := by
  intro n
  induction n with
  | zero =>
    intro h x1 x2 H locs ls hf
    have hf : (none : Option (MS × Int32)) = some _ := hf
    cases hf
  | succ n ih =>
    intro h x1 x2 H locs ls hf hE hl
    exact wfX12_grows_4F b hlk hr zs zk  ih hf hE hl
def fX12_grows_0  (h : MS) : Option (MS × Int32) :=
  fX12_grows_4  FU h 0 0
set_option maxHeartbeats 4000000 in
theorem wfX12_grows_0 {args : Array Value} (b : Bd p s m c cX12_grows 3 RX12 D aC) (hlk : meth.locks = false) (hr : meth.sig.returnType = some .boolean) {Z : State → Prop} (zs : Z s) (zk : ZOK Z (Rg ad)) {hz : MS} {rz : Int32} {h : MS}  {H : Heap} {locs : List Loc} {ls : Array Slot} (hf : fX12_grows_0 h = some (hz, rz)) (hE : CE (EM D aC ad h) (Rg ad) s H locs) (hl : lv_has ls 3 [(0, .ref (ad 116))]) : W p l e (RM 2 46 0 0) s m args below meth c H locs 0 0 (MQ below (PQ (EM D aC ad hz) (Rg ad) (some (.int rz))) args s 0 0 (Rg ad)) (F0 m 0 ls []) := by
  unfold fX12_grows_0 at hf
  refine lv_iconst (v := 0) b.1 b.2.1 dX12_grows_0 (by decide) ?_
  refine lv_istore_n (lv' := [(1, .int 0), (0, .ref (ad 116))]) b.1 b.2.1 dX12_grows_1 rfl hl (by decide) rfl (fun ls hl => ?_)
  refine lv_iconst (v := 0) b.1 b.2.1 dX12_grows_2 (by decide) ?_
  refine lv_istore_n (lv' := [(2, .int 0), (1, .int 0), (0, .ref (ad 116))]) b.1 b.2.1 dX12_grows_3 rfl hl (by decide) rfl (fun ls hl => ?_)
  exact wfX12_grows_4 b hlk hr zs zk  FU h 0 0 _ _ _ hf hE (lv_sub hl [2, 1, 0] rfl)
def fX12_grows (h : MS) : Option (MS × Int32) := fX12_grows_0 h 
set_option maxHeartbeats 4000000 in
theorem CX12_grows (l : Launch) (D : va_G) (aC : Nat → ClassId) (ad : Nat → Nat) {Z : State → Prop} (zk : ZOK Z (Rg ad)) {h : MS} {hz : MS} {rz : Int32} (hf : fX12_grows h = some (hz, rz)) : CM l D aC Z yX12_grows cX12_grows 3 (some .boolean) 2 46 0 0 (EM D aC ad h) [.ref (ad 116)] (EM D aC ad hz) (some (.int rz)) (Rg ad) := by
  refine CM.of rfl ?_
  intro p e s m below meth c b hr hlk hin2 zs hE
  refine k_ent (Nat.le_of_ble_eq_true rfl) (fun ls hl => ?_)
  exact wfX12_grows_0 b hlk hr zs zk hf hE (lv_sub hl [0] rfl)
end
