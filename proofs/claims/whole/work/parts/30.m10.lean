section
variable {p : Program} {l : Launch} {e : Env} {s : State} {m : MethodId} {below : List Frame} {meth : Method} {c : Code} {D : va_G} {aC : Nat → ClassId} {ad : Nat → Nat}
theorem dX12_facts_0 : decode cX12_facts 0 = .ok (.iconst 0, 1) := by decide +kernel
theorem dX12_facts_1 : decode cX12_facts 1 = .ok (.istore_n 3, 1) := by decide +kernel
theorem dX12_facts_2 : decode cX12_facts 2 = .ok (.iload_n 3, 1) := by decide +kernel
theorem dX12_facts_3 : decode cX12_facts 3 = .ok (.sipush 600, 3) := by decide +kernel
theorem dX12_facts_6 : decode cX12_facts 6 = .ok (.if_icmp .ge 16, 3) := by decide +kernel
theorem dX12_facts_9 : decode cX12_facts 9 = .ok (.aload_n 0, 1) := by decide +kernel
theorem dX12_facts_10 : decode cX12_facts 10 = .ok (.getfield 243, 3) := by decide +kernel
theorem dX12_facts_13 : decode cX12_facts 13 = .ok (.iload_n 3, 1) := by decide +kernel
theorem dX12_facts_14 : decode cX12_facts 14 = .ok (.iconst 0, 1) := by decide +kernel
theorem dX12_facts_15 : decode cX12_facts 15 = .ok (.iastore, 1) := by decide +kernel
theorem dX12_facts_16 : decode cX12_facts 16 = .ok (.iinc 3 1, 3) := by decide +kernel
theorem dX12_facts_19 : decode cX12_facts 19 = .ok (.goto (-17), 3) := by decide +kernel
theorem dX12_facts_22 : decode cX12_facts 22 = .ok (.iconst 0, 1) := by decide +kernel
theorem dX12_facts_23 : decode cX12_facts 23 = .ok (.istore_n 3, 1) := by decide +kernel
theorem dX12_facts_24 : decode cX12_facts 24 = .ok (.iload_n 3, 1) := by decide +kernel
theorem dX12_facts_25 : decode cX12_facts 25 = .ok (.aload_n 0, 1) := by decide +kernel
theorem dX12_facts_26 : decode cX12_facts 26 = .ok (.getfield 443, 3) := by decide +kernel
theorem dX12_facts_29 : decode cX12_facts 29 = .ok (.if_icmp .ge 59, 3) := by decide +kernel
theorem dX12_facts_32 : decode cX12_facts 32 = .ok (.aload_n 0, 1) := by decide +kernel
theorem dX12_facts_33 : decode cX12_facts 33 = .ok (.getfield 162, 3) := by decide +kernel
theorem dX12_facts_36 : decode cX12_facts 36 = .ok (.iload_n 3, 1) := by decide +kernel
theorem dX12_facts_37 : decode cX12_facts 37 = .ok (.iaload, 1) := by decide +kernel
theorem dX12_facts_38 : decode cX12_facts 38 = .ok (.iload_n 1, 1) := by decide +kernel
theorem dX12_facts_39 : decode cX12_facts 39 = .ok (.if_icmp .gt 43, 3) := by decide +kernel
theorem dX12_facts_42 : decode cX12_facts 42 = .ok (.aload_n 0, 1) := by decide +kernel
theorem dX12_facts_43 : decode cX12_facts 43 = .ok (.getfield 168, 3) := by decide +kernel
theorem dX12_facts_46 : decode cX12_facts 46 = .ok (.iload_n 3, 1) := by decide +kernel
theorem dX12_facts_47 : decode cX12_facts 47 = .ok (.iaload, 1) := by decide +kernel
theorem dX12_facts_48 : decode cX12_facts 48 = .ok (.iload_n 2, 1) := by decide +kernel
theorem dX12_facts_49 : decode cX12_facts 49 = .ok (.if_icmp .gt 33, 3) := by decide +kernel
theorem dX12_facts_52 : decode cX12_facts 52 = .ok (.iload_n 2, 1) := by decide +kernel
theorem dX12_facts_53 : decode cX12_facts 53 = .ok (.aload_n 0, 1) := by decide +kernel
theorem dX12_facts_54 : decode cX12_facts 54 = .ok (.getfield 171, 3) := by decide +kernel
theorem dX12_facts_57 : decode cX12_facts 57 = .ok (.iload_n 3, 1) := by decide +kernel
theorem dX12_facts_58 : decode cX12_facts 58 = .ok (.iaload, 1) := by decide +kernel
theorem dX12_facts_59 : decode cX12_facts 59 = .ok (.if_icmp .ge 23, 3) := by decide +kernel
theorem dX12_facts_62 : decode cX12_facts 62 = .ok (.aload_n 0, 1) := by decide +kernel
theorem dX12_facts_63 : decode cX12_facts 63 = .ok (.getfield 243, 3) := by decide +kernel
theorem dX12_facts_66 : decode cX12_facts 66 = .ok (.aload_n 0, 1) := by decide +kernel
theorem dX12_facts_67 : decode cX12_facts 67 = .ok (.getfield 165, 3) := by decide +kernel
theorem dX12_facts_70 : decode cX12_facts 70 = .ok (.iload_n 3, 1) := by decide +kernel
theorem dX12_facts_71 : decode cX12_facts 71 = .ok (.iaload, 1) := by decide +kernel
theorem dX12_facts_72 : decode cX12_facts 72 = .ok (.dup2, 1) := by decide +kernel
theorem dX12_facts_73 : decode cX12_facts 73 = .ok (.iaload, 1) := by decide +kernel
theorem dX12_facts_74 : decode cX12_facts 74 = .ok (.aload_n 0, 1) := by decide +kernel
theorem dX12_facts_75 : decode cX12_facts 75 = .ok (.getfield 174, 3) := by decide +kernel
theorem dX12_facts_78 : decode cX12_facts 78 = .ok (.iload_n 3, 1) := by decide +kernel
theorem dX12_facts_79 : decode cX12_facts 79 = .ok (.iaload, 1) := by decide +kernel
theorem dX12_facts_80 : decode cX12_facts 80 = .ok (.iadd, 1) := by decide +kernel
theorem dX12_facts_81 : decode cX12_facts 81 = .ok (.iastore, 1) := by decide +kernel
theorem dX12_facts_82 : decode cX12_facts 82 = .ok (.iinc 3 1, 3) := by decide +kernel
theorem dX12_facts_85 : decode cX12_facts 85 = .ok (.goto (-61), 3) := by decide +kernel
theorem dX12_facts_88 : decode cX12_facts 88 = .ok (.iconst 0, 1) := by decide +kernel
theorem dX12_facts_89 : decode cX12_facts 89 = .ok (.istore_n 3, 1) := by decide +kernel
theorem dX12_facts_90 : decode cX12_facts 90 = .ok (.iload_n 3, 1) := by decide +kernel
theorem dX12_facts_91 : decode cX12_facts 91 = .ok (.sipush 600, 3) := by decide +kernel
theorem dX12_facts_94 : decode cX12_facts 94 = .ok (.if_icmp .ge 80, 3) := by decide +kernel
theorem dX12_facts_97 : decode cX12_facts 97 = .ok (.aload_n 0, 1) := by decide +kernel
theorem dX12_facts_98 : decode cX12_facts 98 = .ok (.getfield 204, 3) := by decide +kernel
theorem dX12_facts_101 : decode cX12_facts 101 = .ok (.iload_n 3, 1) := by decide +kernel
theorem dX12_facts_102 : decode cX12_facts 102 = .ok (.aload_n 0, 1) := by decide +kernel
theorem dX12_facts_103 : decode cX12_facts 103 = .ok (.getfield 243, 3) := by decide +kernel
theorem dX12_facts_106 : decode cX12_facts 106 = .ok (.iload_n 3, 1) := by decide +kernel
theorem dX12_facts_107 : decode cX12_facts 107 = .ok (.iaload, 1) := by decide +kernel
theorem dX12_facts_108 : decode cX12_facts 108 = .ok (.iconst 3, 1) := by decide +kernel
theorem dX12_facts_109 : decode cX12_facts 109 = .ok (.if_icmp .lt 24, 3) := by decide +kernel
theorem dX12_facts_112 : decode cX12_facts 112 = .ok (.aload_n 0, 1) := by decide +kernel
theorem dX12_facts_113 : decode cX12_facts 113 = .ok (.getfield 243, 3) := by decide +kernel
theorem dX12_facts_116 : decode cX12_facts 116 = .ok (.iload_n 3, 1) := by decide +kernel
theorem dX12_facts_117 : decode cX12_facts 117 = .ok (.iaload, 1) := by decide +kernel
theorem dX12_facts_118 : decode cX12_facts 118 = .ok (.aload_n 0, 1) := by decide +kernel
theorem dX12_facts_119 : decode cX12_facts 119 = .ok (.getfield 243, 3) := by decide +kernel
theorem dX12_facts_122 : decode cX12_facts 122 = .ok (.iload_n 3, 1) := by decide +kernel
theorem dX12_facts_123 : decode cX12_facts 123 = .ok (.iconst 1, 1) := by decide +kernel
theorem dX12_facts_124 : decode cX12_facts 124 = .ok (.ixor, 1) := by decide +kernel
theorem dX12_facts_125 : decode cX12_facts 125 = .ok (.iaload, 1) := by decide +kernel
theorem dX12_facts_126 : decode cX12_facts 126 = .ok (.if_icmp .le 7, 3) := by decide +kernel
theorem dX12_facts_129 : decode cX12_facts 129 = .ok (.iconst 1, 1) := by decide +kernel
theorem dX12_facts_130 : decode cX12_facts 130 = .ok (.goto 4, 3) := by decide +kernel
theorem dX12_facts_133 : decode cX12_facts 133 = .ok (.iconst 0, 1) := by decide +kernel
theorem dX12_facts_134 : decode cX12_facts 134 = .ok (.bastore, 1) := by decide +kernel
theorem dX12_facts_135 : decode cX12_facts 135 = .ok (.aload_n 0, 1) := by decide +kernel
theorem dX12_facts_136 : decode cX12_facts 136 = .ok (.getfield 207, 3) := by decide +kernel
theorem dX12_facts_139 : decode cX12_facts 139 = .ok (.iload_n 3, 1) := by decide +kernel
theorem dX12_facts_140 : decode cX12_facts 140 = .ok (.aload_n 0, 1) := by decide +kernel
theorem dX12_facts_141 : decode cX12_facts 141 = .ok (.getfield 204, 3) := by decide +kernel
theorem dX12_facts_144 : decode cX12_facts 144 = .ok (.iload_n 3, 1) := by decide +kernel
theorem dX12_facts_145 : decode cX12_facts 145 = .ok (.baload, 1) := by decide +kernel
theorem dX12_facts_146 : decode cX12_facts 146 = .ok (.bastore, 1) := by decide +kernel
theorem dX12_facts_147 : decode cX12_facts 147 = .ok (.aload_n 0, 1) := by decide +kernel
theorem dX12_facts_148 : decode cX12_facts 148 = .ok (.getfield 210, 3) := by decide +kernel
theorem dX12_facts_151 : decode cX12_facts 151 = .ok (.iload_n 3, 1) := by decide +kernel
theorem dX12_facts_152 : decode cX12_facts 152 = .ok (.iconst 0, 1) := by decide +kernel
theorem dX12_facts_153 : decode cX12_facts 153 = .ok (.bastore, 1) := by decide +kernel
theorem dX12_facts_154 : decode cX12_facts 154 = .ok (.aload_n 0, 1) := by decide +kernel
theorem dX12_facts_155 : decode cX12_facts 155 = .ok (.getfield 192, 3) := by decide +kernel
theorem dX12_facts_158 : decode cX12_facts 158 = .ok (.iload_n 3, 1) := by decide +kernel
theorem dX12_facts_159 : decode cX12_facts 159 = .ok (.iconst (-1), 1) := by decide +kernel
theorem dX12_facts_160 : decode cX12_facts 160 = .ok (.iastore, 1) := by decide +kernel
theorem dX12_facts_161 : decode cX12_facts 161 = .ok (.aload_n 0, 1) := by decide +kernel
theorem dX12_facts_162 : decode cX12_facts 162 = .ok (.getfield 195, 3) := by decide +kernel
theorem dX12_facts_165 : decode cX12_facts 165 = .ok (.iload_n 3, 1) := by decide +kernel
theorem dX12_facts_166 : decode cX12_facts 166 = .ok (.iconst (-1), 1) := by decide +kernel
theorem dX12_facts_167 : decode cX12_facts 167 = .ok (.iastore, 1) := by decide +kernel
theorem dX12_facts_168 : decode cX12_facts 168 = .ok (.iinc 3 1, 3) := by decide +kernel
theorem dX12_facts_171 : decode cX12_facts 171 = .ok (.goto (-81), 3) := by decide +kernel
theorem dX12_facts_174 : decode cX12_facts 174 = .ok (.return_, 1) := by decide +kernel
def fX12_facts_134 (k90 : MS → Int32 → Option (MS)) (h : MS) (x3 : Int32) (s0 : Int32) (s1 : Int32) : Option (MS) :=
  oC (isB s0) (oC (ix s1 (mlen 91)) (oL (mSA h 91 (Int32.toNatClampNeg s1) s0) (fun h3 => oC (ix x3 (mlen 91)) (oC (isB (mA h3 91 (Int32.toNatClampNeg x3))) (oC (ix x3 (mlen 92)) (oL (mSA h3 92 (Int32.toNatClampNeg x3) (mA h3 91 (Int32.toNatClampNeg x3))) (fun h7 => oC (ix x3 (mlen 93)) (oL (mSA h7 93 (Int32.toNatClampNeg x3) 0) (fun h9 => oC (ix x3 (mlen 87)) (oL (mSA h9 87 (Int32.toNatClampNeg x3) (-1)) (fun h11 => oC (ix x3 (mlen 88)) (oL (mSA h11 88 (Int32.toNatClampNeg x3) (-1)) (fun h13 => oL (x3 + 1) (fun y14 => k90 h13 y14))))))))))))))
set_option maxHeartbeats 4000000 in
theorem wfX12_facts_134 {args : Array Value} (b : Bd p s m c cX12_facts 4 RX12 D aC) (hlk : meth.locks = false) (hr : meth.sig.returnType = none) {Z : State → Prop} (zs : Z s) (zk : ZOK Z (Rg ad)) {hz : MS} {k90 : MS → Int32 → Option (MS)} (H90 : ∀ (h : MS) (x3 : Int32), ∀ (H : Heap) (locs : List Loc) (ls : Array Slot), k90 h x3 = some hz → CE (EM D aC ad h) (Rg ad) s H locs → lv_has ls 4 [(0, .ref (ad 116)), (3, .int x3)] → W p l e (RM 0 0 0 0) s m args below meth c H locs 0 0 (MQ below (PQ (EM D aC ad hz) (Rg ad) none) args s 0 0 (Rg ad)) (F0 m 90 ls [])) {h : MS} {x3 : Int32} {s0 : Int32} {s1 : Int32}  {H : Heap} {locs : List Loc} {ls : Array Slot} (hf : fX12_facts_134 k90 h x3 s0 s1 = some hz) (hE : CE (EM D aC ad h) (Rg ad) s H locs) (hl : lv_has ls 4 [(0, .ref (ad 116)), (3, .int x3)]) : W p l e (RM 0 0 0 0) s m args below meth c H locs 0 0 (MQ below (PQ (EM D aC ad hz) (Rg ad) none) args s 0 0 (Rg ad)) (F0 m 134 ls [.int s0, .int s1, .ref (ad 91)]) := by
  unfold fX12_facts_134 at hf
  obtain ⟨g1, hf⟩ := oC_s hf
  obtain ⟨g2, hf⟩ := oC_s hf
  obtain ⟨h3, eh3, hf⟩ := oL_s hf
  refine n_zast b hE g1 rfl rfl g2 eh3 dX12_facts_134 (fun H locs hE => ?_)
  refine lv_aload_n b.1 b.2.1 dX12_facts_135 rfl (lv_at hl 0 rfl) ?_
  refine gM_207 b hE dX12_facts_136 ?_
  refine lv_iload_n b.1 b.2.1 dX12_facts_139 rfl (lv_at hl 1 rfl) ?_
  refine lv_aload_n b.1 b.2.1 dX12_facts_140 rfl (lv_at hl 0 rfl) ?_
  refine gM_204 b hE dX12_facts_141 ?_
  refine lv_iload_n b.1 b.2.1 dX12_facts_144 rfl (lv_at hl 1 rfl) ?_
  obtain ⟨g4, hf⟩ := oC_s hf
  refine m_zald b hE rfl rfl g4 dX12_facts_145 ?_
  obtain ⟨g5, hf⟩ := oC_s hf
  obtain ⟨g6, hf⟩ := oC_s hf
  obtain ⟨h7, eh7, hf⟩ := oL_s hf
  refine n_zast b hE g5 rfl rfl g6 eh7 dX12_facts_146 (fun H locs hE => ?_)
  refine lv_aload_n b.1 b.2.1 dX12_facts_147 rfl (lv_at hl 0 rfl) ?_
  refine gM_210 b hE dX12_facts_148 ?_
  refine lv_iload_n b.1 b.2.1 dX12_facts_151 rfl (lv_at hl 1 rfl) ?_
  refine lv_iconst (v := 0) b.1 b.2.1 dX12_facts_152 (by decide) ?_
  obtain ⟨g8, hf⟩ := oC_s hf
  obtain ⟨h9, eh9, hf⟩ := oL_s hf
  refine n_zast b hE (by decide) rfl rfl g8 eh9 dX12_facts_153 (fun H locs hE => ?_)
  refine lv_aload_n b.1 b.2.1 dX12_facts_154 rfl (lv_at hl 0 rfl) ?_
  refine gM_192 b hE dX12_facts_155 ?_
  refine lv_iload_n b.1 b.2.1 dX12_facts_158 rfl (lv_at hl 1 rfl) ?_
  refine lv_iconst (v := (-1)) b.1 b.2.1 dX12_facts_159 (by decide) ?_
  obtain ⟨g10, hf⟩ := oC_s hf
  obtain ⟨h11, eh11, hf⟩ := oL_s hf
  refine n_iast b hE rfl rfl g10 eh11 dX12_facts_160 (fun H locs hE => ?_)
  refine lv_aload_n b.1 b.2.1 dX12_facts_161 rfl (lv_at hl 0 rfl) ?_
  refine gM_195 b hE dX12_facts_162 ?_
  refine lv_iload_n b.1 b.2.1 dX12_facts_165 rfl (lv_at hl 1 rfl) ?_
  refine lv_iconst (v := (-1)) b.1 b.2.1 dX12_facts_166 (by decide) ?_
  obtain ⟨g12, hf⟩ := oC_s hf
  obtain ⟨h13, eh13, hf⟩ := oL_s hf
  refine n_iast b hE rfl rfl g12 eh13 dX12_facts_167 (fun H locs hE => ?_)
  obtain ⟨y14, ey14, hf⟩ := oL_s hf
  refine lv_iinc (v := y14) (lv' := [(3, .int y14), (0, .ref (ad 116))]) b.1 b.2.1 dX12_facts_168 hl (k := 1) rfl (by rw [ey14]; rfl) (by decide) rfl (fun ls hl => ?_)
  refine lv_goto (tgt := 90) b.1 b.2.1 dX12_facts_171 (by decide) ?_
  exact H90 h13 y14 _ _ _ hf hE (lv_sub hl [1, 0] rfl)
def fX12_facts_90F (k90 : MS → Int32 → Option (MS)) (h : MS) (x3 : Int32) : Option (MS) :=
  if 600 ≤ x3 then (some (h)) else (oC (ix x3 (mlen 112)) (if (mA h 112 (Int32.toNatClampNeg x3)) < 3 then (fX12_facts_134 k90 h x3 0 x3) else (oC (ix x3 (mlen 112)) (oC (ix (x3 ^^^ 1) (mlen 112)) (if (mA h 112 (Int32.toNatClampNeg x3)) ≤ (mA h 112 (Int32.toNatClampNeg (x3 ^^^ 1))) then (fX12_facts_134 k90 h x3 0 x3) else (fX12_facts_134 k90 h x3 1 x3))))))
set_option maxHeartbeats 4000000 in
theorem wfX12_facts_90F {args : Array Value} (b : Bd p s m c cX12_facts 4 RX12 D aC) (hlk : meth.locks = false) (hr : meth.sig.returnType = none) {Z : State → Prop} (zs : Z s) (zk : ZOK Z (Rg ad)) {hz : MS} {k90 : MS → Int32 → Option (MS)} (H90 : ∀ (h : MS) (x3 : Int32), ∀ (H : Heap) (locs : List Loc) (ls : Array Slot), k90 h x3 = some hz → CE (EM D aC ad h) (Rg ad) s H locs → lv_has ls 4 [(0, .ref (ad 116)), (3, .int x3)] → W p l e (RM 0 0 0 0) s m args below meth c H locs 0 0 (MQ below (PQ (EM D aC ad hz) (Rg ad) none) args s 0 0 (Rg ad)) (F0 m 90 ls [])) {h : MS} {x3 : Int32}  {H : Heap} {locs : List Loc} {ls : Array Slot} (hf : fX12_facts_90F k90 h x3 = some hz) (hE : CE (EM D aC ad h) (Rg ad) s H locs) (hl : lv_has ls 4 [(0, .ref (ad 116)), (3, .int x3)]) : W p l e (RM 0 0 0 0) s m args below meth c H locs 0 0 (MQ below (PQ (EM D aC ad hz) (Rg ad) none) args s 0 0 (Rg ad)) (F0 m 90 ls []) := by
  unfold fX12_facts_90F at hf
  refine lv_iload_n b.1 b.2.1 dX12_facts_90 rfl (lv_at hl 1 rfl) ?_
  refine lv_sipush (v := 600) b.1 b.2.1 dX12_facts_91 (by decide) ?_
  refine lv_icmp_ge (tgt := 174) b.1 b.2.1 dX12_facts_94 (by decide) (fun c15 => ?_) (fun c15 => ?_)
  · have hf := oI_t c15 hf
    cases hf
    exact k_vret b hlk hr hE (Nat.le_refl _) (Nat.le_refl _) dX12_facts_174
  · have hf := oI_f c15 hf
    refine lv_aload_n b.1 b.2.1 dX12_facts_97 rfl (lv_at hl 0 rfl) ?_
    refine gM_204 b hE dX12_facts_98 ?_
    refine lv_iload_n b.1 b.2.1 dX12_facts_101 rfl (lv_at hl 1 rfl) ?_
    refine lv_aload_n b.1 b.2.1 dX12_facts_102 rfl (lv_at hl 0 rfl) ?_
    refine gM_243 b hE dX12_facts_103 ?_
    refine lv_iload_n b.1 b.2.1 dX12_facts_106 rfl (lv_at hl 1 rfl) ?_
    obtain ⟨g16, hf⟩ := oC_s hf
    refine m_iald b hE rfl rfl g16 dX12_facts_107 ?_
    refine lv_iconst (v := 3) b.1 b.2.1 dX12_facts_108 (by decide) ?_
    refine lv_icmp_lt (tgt := 133) b.1 b.2.1 dX12_facts_109 (by decide) (fun c17 => ?_) (fun c17 => ?_)
    · have hf := oI_t c17 hf
      refine lv_iconst (v := 0) b.1 b.2.1 dX12_facts_133 (by decide) ?_
      exact wfX12_facts_134 b hlk hr zs zk H90 hf hE (lv_sub hl [0, 1] rfl)
    · have hf := oI_f c17 hf
      refine lv_aload_n b.1 b.2.1 dX12_facts_112 rfl (lv_at hl 0 rfl) ?_
      refine gM_243 b hE dX12_facts_113 ?_
      refine lv_iload_n b.1 b.2.1 dX12_facts_116 rfl (lv_at hl 1 rfl) ?_
      obtain ⟨g18, hf⟩ := oC_s hf
      refine m_iald b hE rfl rfl g18 dX12_facts_117 ?_
      refine lv_aload_n b.1 b.2.1 dX12_facts_118 rfl (lv_at hl 0 rfl) ?_
      refine gM_243 b hE dX12_facts_119 ?_
      refine lv_iload_n b.1 b.2.1 dX12_facts_122 rfl (lv_at hl 1 rfl) ?_
      refine lv_iconst (v := 1) b.1 b.2.1 dX12_facts_123 (by decide) ?_
      refine lv_ixor b.1 b.2.1 dX12_facts_124 ?_
      obtain ⟨g19, hf⟩ := oC_s hf
      refine m_iald b hE rfl rfl g19 dX12_facts_125 ?_
      refine lv_icmp_le (tgt := 133) b.1 b.2.1 dX12_facts_126 (by decide) (fun c20 => ?_) (fun c20 => ?_)
      · have hf := oI_t c20 hf
        refine lv_iconst (v := 0) b.1 b.2.1 dX12_facts_133 (by decide) ?_
        exact wfX12_facts_134 b hlk hr zs zk H90 hf hE (lv_sub hl [0, 1] rfl)
      · have hf := oI_f c20 hf
        refine lv_iconst (v := 1) b.1 b.2.1 dX12_facts_129 (by decide) ?_
        refine lv_goto (tgt := 134) b.1 b.2.1 dX12_facts_130 (by decide) ?_
        exact wfX12_facts_134 b hlk hr zs zk H90 hf hE (lv_sub hl [0, 1] rfl)
def fX12_facts_90  : Nat → MS → Int32 → Option (MS)
  | 0 => fun _ _ => none
  | n + 1 => fX12_facts_90F  (fX12_facts_90  n)
set_option maxHeartbeats 4000000 in
theorem wfX12_facts_90 {args : Array Value} (b : Bd p s m c cX12_facts 4 RX12 D aC) (hlk : meth.locks = false) (hr : meth.sig.returnType = none) {Z : State → Prop} (zs : Z s) (zk : ZOK Z (Rg ad)) {hz : MS} : ∀ n : Nat, ∀ (h : MS) (x3 : Int32), ∀ (H : Heap) (locs : List Loc) (ls : Array Slot), fX12_facts_90  n h x3 = some hz → CE (EM D aC ad h) (Rg ad) s H locs → lv_has ls 4 [(0, .ref (ad 116)), (3, .int x3)] → W p l e (RM 0 0 0 0) s m args below meth c H locs 0 0 (MQ below (PQ (EM D aC ad hz) (Rg ad) none) args s 0 0 (Rg ad)) (F0 m 90 ls []) := by
  intro n
  induction n with
  | zero =>
    intro h x3 H locs ls hf
    have hf : (none : Option (MS)) = some _ := hf
    cases hf
  | succ n ih =>
    intro h x3 H locs ls hf hE hl
    exact wfX12_facts_90F b hlk hr zs zk  ih hf hE hl
def fX12_facts_82 (k24 : MS → Int32 → Int32 → Int32 → Option (MS)) (h : MS) (x1 : Int32) (x2 : Int32) (x3 : Int32) : Option (MS) :=
  oL (x3 + 1) (fun y21 => k24 h x1 x2 y21)
set_option maxHeartbeats 4000000 in
theorem wfX12_facts_82 {args : Array Value} (b : Bd p s m c cX12_facts 4 RX12 D aC) (hlk : meth.locks = false) (hr : meth.sig.returnType = none) {Z : State → Prop} (zs : Z s) (zk : ZOK Z (Rg ad)) {hz : MS} {k24 : MS → Int32 → Int32 → Int32 → Option (MS)} (H24 : ∀ (h : MS) (x1 : Int32) (x2 : Int32) (x3 : Int32), ∀ (H : Heap) (locs : List Loc) (ls : Array Slot), k24 h x1 x2 x3 = some hz → CE (EM D aC ad h) (Rg ad) s H locs → lv_has ls 4 [(0, .ref (ad 116)), (1, .int x1), (2, .int x2), (3, .int x3)] → W p l e (RM 0 0 0 0) s m args below meth c H locs 0 0 (MQ below (PQ (EM D aC ad hz) (Rg ad) none) args s 0 0 (Rg ad)) (F0 m 24 ls [])) {h : MS} {x1 : Int32} {x2 : Int32} {x3 : Int32}  {H : Heap} {locs : List Loc} {ls : Array Slot} (hf : fX12_facts_82 k24 h x1 x2 x3 = some hz) (hE : CE (EM D aC ad h) (Rg ad) s H locs) (hl : lv_has ls 4 [(0, .ref (ad 116)), (1, .int x1), (2, .int x2), (3, .int x3)]) : W p l e (RM 0 0 0 0) s m args below meth c H locs 0 0 (MQ below (PQ (EM D aC ad hz) (Rg ad) none) args s 0 0 (Rg ad)) (F0 m 82 ls []) := by
  unfold fX12_facts_82 at hf
  obtain ⟨y21, ey21, hf⟩ := oL_s hf
  refine lv_iinc (v := y21) (lv' := [(3, .int y21), (0, .ref (ad 116)), (1, .int x1), (2, .int x2)]) b.1 b.2.1 dX12_facts_82 hl (k := 3) rfl (by rw [ey21]; rfl) (by decide) rfl (fun ls hl => ?_)
  refine lv_goto (tgt := 24) b.1 b.2.1 dX12_facts_85 (by decide) ?_
  exact H24 h x1 x2 y21 _ _ _ hf hE (lv_sub hl [1, 2, 3, 0] rfl)
def fX12_facts_24F (k24 : MS → Int32 → Int32 → Int32 → Option (MS)) (h : MS) (x1 : Int32) (x2 : Int32) (x3 : Int32) : Option (MS) :=
  if (mI h 73) ≤ x3 then (fX12_facts_90  FU h 0) else (oC (ix x3 (mlen 74)) (if x1 < (mA h 74 (Int32.toNatClampNeg x3)) then (fX12_facts_82 k24 h x1 x2 x3) else (oC (ix x3 (mlen 76)) (if x2 < (mA h 76 (Int32.toNatClampNeg x3)) then (fX12_facts_82 k24 h x1 x2 x3) else (oC (ix x3 (mlen 77)) (if (mA h 77 (Int32.toNatClampNeg x3)) ≤ x2 then (fX12_facts_82 k24 h x1 x2 x3) else (oC (ix x3 (mlen 75)) (oC (ix (mA h 75 (Int32.toNatClampNeg x3)) (mlen 112)) (oC (ix x3 (mlen 78)) (oC (ix (mA h 75 (Int32.toNatClampNeg x3)) (mlen 112)) (oL (mSA h 112 (Int32.toNatClampNeg (mA h 75 (Int32.toNatClampNeg x3))) ((mA h 112 (Int32.toNatClampNeg (mA h 75 (Int32.toNatClampNeg x3)))) + (mA h 78 (Int32.toNatClampNeg x3)))) (fun h33 => fX12_facts_82 k24 h33 x1 x2 x3))))))))))))
set_option maxHeartbeats 4000000 in
theorem wfX12_facts_24F {args : Array Value} (b : Bd p s m c cX12_facts 4 RX12 D aC) (hlk : meth.locks = false) (hr : meth.sig.returnType = none) {Z : State → Prop} (zs : Z s) (zk : ZOK Z (Rg ad)) {hz : MS} {k24 : MS → Int32 → Int32 → Int32 → Option (MS)} (H24 : ∀ (h : MS) (x1 : Int32) (x2 : Int32) (x3 : Int32), ∀ (H : Heap) (locs : List Loc) (ls : Array Slot), k24 h x1 x2 x3 = some hz → CE (EM D aC ad h) (Rg ad) s H locs → lv_has ls 4 [(0, .ref (ad 116)), (1, .int x1), (2, .int x2), (3, .int x3)] → W p l e (RM 0 0 0 0) s m args below meth c H locs 0 0 (MQ below (PQ (EM D aC ad hz) (Rg ad) none) args s 0 0 (Rg ad)) (F0 m 24 ls [])) {h : MS} {x1 : Int32} {x2 : Int32} {x3 : Int32}  {H : Heap} {locs : List Loc} {ls : Array Slot} (hf : fX12_facts_24F k24 h x1 x2 x3 = some hz) (hE : CE (EM D aC ad h) (Rg ad) s H locs) (hl : lv_has ls 4 [(0, .ref (ad 116)), (1, .int x1), (2, .int x2), (3, .int x3)]) : W p l e (RM 0 0 0 0) s m args below meth c H locs 0 0 (MQ below (PQ (EM D aC ad hz) (Rg ad) none) args s 0 0 (Rg ad)) (F0 m 24 ls []) := by
  unfold fX12_facts_24F at hf
  refine lv_iload_n b.1 b.2.1 dX12_facts_24 rfl (lv_at hl 3 rfl) ?_
  refine lv_aload_n b.1 b.2.1 dX12_facts_25 rfl (lv_at hl 0 rfl) ?_
  refine gM_443 b hE dX12_facts_26 ?_
  refine lv_icmp_ge (tgt := 88) b.1 b.2.1 dX12_facts_29 (by decide) (fun c22 => ?_) (fun c22 => ?_)
  · have hf := oI_t c22 hf
    refine lv_iconst (v := 0) b.1 b.2.1 dX12_facts_88 (by decide) ?_
    refine lv_istore_n (lv' := [(3, .int 0), (0, .ref (ad 116)), (1, .int x1), (2, .int x2)]) b.1 b.2.1 dX12_facts_89 rfl hl (by decide) rfl (fun ls hl => ?_)
    have hl := lv_sub (l' := [(3, .int 0), (0, .ref (ad 116))]) hl [0, 1] rfl
    exact wfX12_facts_90 b hlk hr zs zk  FU h 0 _ _ _ hf hE (lv_sub hl [1, 0] rfl)
  · have hf := oI_f c22 hf
    refine lv_aload_n b.1 b.2.1 dX12_facts_32 rfl (lv_at hl 0 rfl) ?_
    refine gM_162 b hE dX12_facts_33 ?_
    refine lv_iload_n b.1 b.2.1 dX12_facts_36 rfl (lv_at hl 3 rfl) ?_
    obtain ⟨g23, hf⟩ := oC_s hf
    refine m_iald b hE rfl rfl g23 dX12_facts_37 ?_
    refine lv_iload_n b.1 b.2.1 dX12_facts_38 rfl (lv_at hl 1 rfl) ?_
    refine lv_icmp_gt (tgt := 82) b.1 b.2.1 dX12_facts_39 (by decide) (fun c24 => ?_) (fun c24 => ?_)
    · have hf := oI_t c24 hf
      exact wfX12_facts_82 b hlk hr zs zk H24 hf hE (lv_sub hl [0, 1, 2, 3] rfl)
    · have hf := oI_f c24 hf
      refine lv_aload_n b.1 b.2.1 dX12_facts_42 rfl (lv_at hl 0 rfl) ?_
      refine gM_168 b hE dX12_facts_43 ?_
      refine lv_iload_n b.1 b.2.1 dX12_facts_46 rfl (lv_at hl 3 rfl) ?_
      obtain ⟨g25, hf⟩ := oC_s hf
      refine m_iald b hE rfl rfl g25 dX12_facts_47 ?_
      refine lv_iload_n b.1 b.2.1 dX12_facts_48 rfl (lv_at hl 2 rfl) ?_
      refine lv_icmp_gt (tgt := 82) b.1 b.2.1 dX12_facts_49 (by decide) (fun c26 => ?_) (fun c26 => ?_)
      · have hf := oI_t c26 hf
        exact wfX12_facts_82 b hlk hr zs zk H24 hf hE (lv_sub hl [0, 1, 2, 3] rfl)
      · have hf := oI_f c26 hf
        refine lv_iload_n b.1 b.2.1 dX12_facts_52 rfl (lv_at hl 2 rfl) ?_
        refine lv_aload_n b.1 b.2.1 dX12_facts_53 rfl (lv_at hl 0 rfl) ?_
        refine gM_171 b hE dX12_facts_54 ?_
        refine lv_iload_n b.1 b.2.1 dX12_facts_57 rfl (lv_at hl 3 rfl) ?_
        obtain ⟨g27, hf⟩ := oC_s hf
        refine m_iald b hE rfl rfl g27 dX12_facts_58 ?_
        refine lv_icmp_ge (tgt := 82) b.1 b.2.1 dX12_facts_59 (by decide) (fun c28 => ?_) (fun c28 => ?_)
        · have hf := oI_t c28 hf
          exact wfX12_facts_82 b hlk hr zs zk H24 hf hE (lv_sub hl [0, 1, 2, 3] rfl)
        · have hf := oI_f c28 hf
          refine lv_aload_n b.1 b.2.1 dX12_facts_62 rfl (lv_at hl 0 rfl) ?_
          refine gM_243 b hE dX12_facts_63 ?_
          refine lv_aload_n b.1 b.2.1 dX12_facts_66 rfl (lv_at hl 0 rfl) ?_
          refine gM_165 b hE dX12_facts_67 ?_
          refine lv_iload_n b.1 b.2.1 dX12_facts_70 rfl (lv_at hl 3 rfl) ?_
          obtain ⟨g29, hf⟩ := oC_s hf
          refine m_iald b hE rfl rfl g29 dX12_facts_71 ?_
          refine lv_dup2_11 b.1 b.2.1 dX12_facts_72 rfl rfl ?_
          obtain ⟨g30, hf⟩ := oC_s hf
          refine m_iald b hE rfl rfl g30 dX12_facts_73 ?_
          refine lv_aload_n b.1 b.2.1 dX12_facts_74 rfl (lv_at hl 0 rfl) ?_
          refine gM_174 b hE dX12_facts_75 ?_
          refine lv_iload_n b.1 b.2.1 dX12_facts_78 rfl (lv_at hl 3 rfl) ?_
          obtain ⟨g31, hf⟩ := oC_s hf
          refine m_iald b hE rfl rfl g31 dX12_facts_79 ?_
          refine lv_iadd b.1 b.2.1 dX12_facts_80 ?_
          obtain ⟨g32, hf⟩ := oC_s hf
          obtain ⟨h33, eh33, hf⟩ := oL_s hf
          refine n_iast b hE rfl rfl g32 eh33 dX12_facts_81 (fun H locs hE => ?_)
          exact wfX12_facts_82 b hlk hr zs zk H24 hf hE (lv_sub hl [0, 1, 2, 3] rfl)
def fX12_facts_24  : Nat → MS → Int32 → Int32 → Int32 → Option (MS)
  | 0 => fun _ _ _ _ => none
  | n + 1 => fX12_facts_24F  (fX12_facts_24  n)
set_option maxHeartbeats 4000000 in
theorem wfX12_facts_24 {args : Array Value} (b : Bd p s m c cX12_facts 4 RX12 D aC) (hlk : meth.locks = false) (hr : meth.sig.returnType = none) {Z : State → Prop} (zs : Z s) (zk : ZOK Z (Rg ad)) {hz : MS} : ∀ n : Nat, ∀ (h : MS) (x1 : Int32) (x2 : Int32) (x3 : Int32), ∀ (H : Heap) (locs : List Loc) (ls : Array Slot), fX12_facts_24  n h x1 x2 x3 = some hz → CE (EM D aC ad h) (Rg ad) s H locs → lv_has ls 4 [(0, .ref (ad 116)), (1, .int x1), (2, .int x2), (3, .int x3)] → W p l e (RM 0 0 0 0) s m args below meth c H locs 0 0 (MQ below (PQ (EM D aC ad hz) (Rg ad) none) args s 0 0 (Rg ad)) (F0 m 24 ls []) := by
  intro n
  induction n with
  | zero =>
    intro h x1 x2 x3 H locs ls hf
    have hf : (none : Option (MS)) = some _ := hf
    cases hf
  | succ n ih =>
    intro h x1 x2 x3 H locs ls hf hE hl
    exact wfX12_facts_24F b hlk hr zs zk  ih hf hE hl
def fX12_facts_2F (k2 : MS → Int32 → Int32 → Int32 → Option (MS)) (h : MS) (x1 : Int32) (x2 : Int32) (x3 : Int32) : Option (MS) :=
  if 600 ≤ x3 then (fX12_facts_24  FU h x1 x2 0) else (oC (ix x3 (mlen 112)) (oL (mSA h 112 (Int32.toNatClampNeg x3) 0) (fun h36 => oL (x3 + 1) (fun y37 => k2 h36 x1 x2 y37))))
set_option maxHeartbeats 4000000 in
theorem wfX12_facts_2F {args : Array Value} (b : Bd p s m c cX12_facts 4 RX12 D aC) (hlk : meth.locks = false) (hr : meth.sig.returnType = none) {Z : State → Prop} (zs : Z s) (zk : ZOK Z (Rg ad)) {hz : MS} {k2 : MS → Int32 → Int32 → Int32 → Option (MS)} (H2 : ∀ (h : MS) (x1 : Int32) (x2 : Int32) (x3 : Int32), ∀ (H : Heap) (locs : List Loc) (ls : Array Slot), k2 h x1 x2 x3 = some hz → CE (EM D aC ad h) (Rg ad) s H locs → lv_has ls 4 [(0, .ref (ad 116)), (1, .int x1), (2, .int x2), (3, .int x3)] → W p l e (RM 0 0 0 0) s m args below meth c H locs 0 0 (MQ below (PQ (EM D aC ad hz) (Rg ad) none) args s 0 0 (Rg ad)) (F0 m 2 ls [])) {h : MS} {x1 : Int32} {x2 : Int32} {x3 : Int32}  {H : Heap} {locs : List Loc} {ls : Array Slot} (hf : fX12_facts_2F k2 h x1 x2 x3 = some hz) (hE : CE (EM D aC ad h) (Rg ad) s H locs) (hl : lv_has ls 4 [(0, .ref (ad 116)), (1, .int x1), (2, .int x2), (3, .int x3)]) : W p l e (RM 0 0 0 0) s m args below meth c H locs 0 0 (MQ below (PQ (EM D aC ad hz) (Rg ad) none) args s 0 0 (Rg ad)) (F0 m 2 ls []) := by
  unfold fX12_facts_2F at hf
  refine lv_iload_n b.1 b.2.1 dX12_facts_2 rfl (lv_at hl 3 rfl) ?_
  refine lv_sipush (v := 600) b.1 b.2.1 dX12_facts_3 (by decide) ?_
  refine lv_icmp_ge (tgt := 22) b.1 b.2.1 dX12_facts_6 (by decide) (fun c34 => ?_) (fun c34 => ?_)
  · have hf := oI_t c34 hf
    refine lv_iconst (v := 0) b.1 b.2.1 dX12_facts_22 (by decide) ?_
    refine lv_istore_n (lv' := [(3, .int 0), (0, .ref (ad 116)), (1, .int x1), (2, .int x2)]) b.1 b.2.1 dX12_facts_23 rfl hl (by decide) rfl (fun ls hl => ?_)
    exact wfX12_facts_24 b hlk hr zs zk  FU h x1 x2 0 _ _ _ hf hE (lv_sub hl [1, 2, 3, 0] rfl)
  · have hf := oI_f c34 hf
    refine lv_aload_n b.1 b.2.1 dX12_facts_9 rfl (lv_at hl 0 rfl) ?_
    refine gM_243 b hE dX12_facts_10 ?_
    refine lv_iload_n b.1 b.2.1 dX12_facts_13 rfl (lv_at hl 3 rfl) ?_
    refine lv_iconst (v := 0) b.1 b.2.1 dX12_facts_14 (by decide) ?_
    obtain ⟨g35, hf⟩ := oC_s hf
    obtain ⟨h36, eh36, hf⟩ := oL_s hf
    refine n_iast b hE rfl rfl g35 eh36 dX12_facts_15 (fun H locs hE => ?_)
    obtain ⟨y37, ey37, hf⟩ := oL_s hf
    refine lv_iinc (v := y37) (lv' := [(3, .int y37), (0, .ref (ad 116)), (1, .int x1), (2, .int x2)]) b.1 b.2.1 dX12_facts_16 hl (k := 3) rfl (by rw [ey37]; rfl) (by decide) rfl (fun ls hl => ?_)
    refine lv_goto (tgt := 2) b.1 b.2.1 dX12_facts_19 (by decide) ?_
    exact H2 h36 x1 x2 y37 _ _ _ hf hE (lv_sub hl [1, 2, 3, 0] rfl)
def fX12_facts_2  : Nat → MS → Int32 → Int32 → Int32 → Option (MS)
  | 0 => fun _ _ _ _ => none
  | n + 1 => fX12_facts_2F  (fX12_facts_2  n)
set_option maxHeartbeats 4000000 in
theorem wfX12_facts_2 {args : Array Value} (b : Bd p s m c cX12_facts 4 RX12 D aC) (hlk : meth.locks = false) (hr : meth.sig.returnType = none) {Z : State → Prop} (zs : Z s) (zk : ZOK Z (Rg ad)) {hz : MS} : ∀ n : Nat, ∀ (h : MS) (x1 : Int32) (x2 : Int32) (x3 : Int32), ∀ (H : Heap) (locs : List Loc) (ls : Array Slot), fX12_facts_2  n h x1 x2 x3 = some hz → CE (EM D aC ad h) (Rg ad) s H locs → lv_has ls 4 [(0, .ref (ad 116)), (1, .int x1), (2, .int x2), (3, .int x3)] → W p l e (RM 0 0 0 0) s m args below meth c H locs 0 0 (MQ below (PQ (EM D aC ad hz) (Rg ad) none) args s 0 0 (Rg ad)) (F0 m 2 ls []) := by
  intro n
  induction n with
  | zero =>
    intro h x1 x2 x3 H locs ls hf
    have hf : (none : Option (MS)) = some _ := hf
    cases hf
  | succ n ih =>
    intro h x1 x2 x3 H locs ls hf hE hl
    exact wfX12_facts_2F b hlk hr zs zk  ih hf hE hl
def fX12_facts_0  (h : MS) (x1 : Int32) (x2 : Int32) : Option (MS) :=
  fX12_facts_2  FU h x1 x2 0
set_option maxHeartbeats 4000000 in
theorem wfX12_facts_0 {args : Array Value} (b : Bd p s m c cX12_facts 4 RX12 D aC) (hlk : meth.locks = false) (hr : meth.sig.returnType = none) {Z : State → Prop} (zs : Z s) (zk : ZOK Z (Rg ad)) {hz : MS} {h : MS} {x1 : Int32} {x2 : Int32}  {H : Heap} {locs : List Loc} {ls : Array Slot} (hf : fX12_facts_0 h x1 x2 = some hz) (hE : CE (EM D aC ad h) (Rg ad) s H locs) (hl : lv_has ls 4 [(0, .ref (ad 116)), (1, .int x1), (2, .int x2)]) : W p l e (RM 0 0 0 0) s m args below meth c H locs 0 0 (MQ below (PQ (EM D aC ad hz) (Rg ad) none) args s 0 0 (Rg ad)) (F0 m 0 ls []) := by
  unfold fX12_facts_0 at hf
  refine lv_iconst (v := 0) b.1 b.2.1 dX12_facts_0 (by decide) ?_
  refine lv_istore_n (lv' := [(3, .int 0), (0, .ref (ad 116)), (1, .int x1), (2, .int x2)]) b.1 b.2.1 dX12_facts_1 rfl hl (by decide) rfl (fun ls hl => ?_)
  exact wfX12_facts_2 b hlk hr zs zk  FU h x1 x2 0 _ _ _ hf hE (lv_sub hl [1, 2, 3, 0] rfl)
def fX12_facts (h : MS) (x1 : Int32) (x2 : Int32) : Option (MS) := fX12_facts_0 h x1 x2
set_option maxHeartbeats 4000000 in
theorem CX12_facts (l : Launch) (D : va_G) (aC : Nat → ClassId) (ad : Nat → Nat) {Z : State → Prop} (zk : ZOK Z (Rg ad)) {h : MS} {x1 : Int32} {x2 : Int32} {hz : MS} (hf : fX12_facts h x1 x2 = some hz) : CM l D aC Z yX12_facts cX12_facts 4 (none) 0 0 0 0 (EM D aC ad h) [.ref (ad 116), .int x1, .int x2] (EM D aC ad hz) none (Rg ad) := by
  refine CM.of rfl ?_
  intro p e s m below meth c b hr hlk hin2 zs hE
  refine k_ent (Nat.le_of_ble_eq_true rfl) (fun ls hl => ?_)
  exact wfX12_facts_0 b hlk hr zs zk hf hE (lv_sub hl [0, 1, 2] rfl)
theorem dX12_instantiates_0 : decode cX12_instantiates 0 = .ok (.iconst 0, 1) := by decide +kernel
theorem dX12_instantiates_1 : decode cX12_instantiates 1 = .ok (.istore_n 3, 1) := by decide +kernel
theorem dX12_instantiates_2 : decode cX12_instantiates 2 = .ok (.iload_n 3, 1) := by decide +kernel
theorem dX12_instantiates_3 : decode cX12_instantiates 3 = .ok (.aload_n 0, 1) := by decide +kernel
theorem dX12_instantiates_4 : decode cX12_instantiates 4 = .ok (.getfield 350, 3) := by decide +kernel
theorem dX12_instantiates_7 : decode cX12_instantiates 7 = .ok (.if_icmp .ge 250, 3) := by decide +kernel
theorem dX12_instantiates_10 : decode cX12_instantiates 10 = .ok (.iconst 0, 1) := by decide +kernel
theorem dX12_instantiates_11 : decode cX12_instantiates 11 = .ok (.istore 4, 2) := by decide +kernel
theorem dX12_instantiates_13 : decode cX12_instantiates 13 = .ok (.iload 4, 2) := by decide +kernel
theorem dX12_instantiates_15 : decode cX12_instantiates 15 = .ok (.aload_n 0, 1) := by decide +kernel
theorem dX12_instantiates_16 : decode cX12_instantiates 16 = .ok (.getfield 350, 3) := by decide +kernel
theorem dX12_instantiates_19 : decode cX12_instantiates 19 = .ok (.if_icmp .ge 41, 3) := by decide +kernel
theorem dX12_instantiates_22 : decode cX12_instantiates 22 = .ok (.aload_n 0, 1) := by decide +kernel
theorem dX12_instantiates_23 : decode cX12_instantiates 23 = .ok (.getfield 213, 3) := by decide +kernel
theorem dX12_instantiates_26 : decode cX12_instantiates 26 = .ok (.bipush 30, 2) := by decide +kernel
theorem dX12_instantiates_28 : decode cX12_instantiates 28 = .ok (.iload_n 3, 1) := by decide +kernel
theorem dX12_instantiates_29 : decode cX12_instantiates 29 = .ok (.imul, 1) := by decide +kernel
theorem dX12_instantiates_30 : decode cX12_instantiates 30 = .ok (.iload 4, 2) := by decide +kernel
theorem dX12_instantiates_32 : decode cX12_instantiates 32 = .ok (.iadd, 1) := by decide +kernel
theorem dX12_instantiates_33 : decode cX12_instantiates 33 = .ok (.aload_n 0, 1) := by decide +kernel
theorem dX12_instantiates_34 : decode cX12_instantiates 34 = .ok (.aload_n 0, 1) := by decide +kernel
theorem dX12_instantiates_35 : decode cX12_instantiates 35 = .ok (.getfield 82, 3) := by decide +kernel
theorem dX12_instantiates_38 : decode cX12_instantiates 38 = .ok (.iload_n 3, 1) := by decide +kernel
theorem dX12_instantiates_39 : decode cX12_instantiates 39 = .ok (.iaload, 1) := by decide +kernel
theorem dX12_instantiates_40 : decode cX12_instantiates 40 = .ok (.aload_n 0, 1) := by decide +kernel
theorem dX12_instantiates_41 : decode cX12_instantiates 41 = .ok (.getfield 82, 3) := by decide +kernel
theorem dX12_instantiates_44 : decode cX12_instantiates 44 = .ok (.iload 4, 2) := by decide +kernel
theorem dX12_instantiates_46 : decode cX12_instantiates 46 = .ok (.iaload, 1) := by decide +kernel
theorem dX12_instantiates_47 : decode cX12_instantiates 47 = .ok (.iload_n 3, 1) := by decide +kernel
theorem dX12_instantiates_48 : decode cX12_instantiates 48 = .ok (.iload 4, 2) := by decide +kernel
theorem dX12_instantiates_50 : decode cX12_instantiates 50 = .ok (.invokevirtual 489, 3) := by decide +kernel
theorem dX12_instantiates_53 : decode cX12_instantiates 53 = .ok (.bastore, 1) := by decide +kernel
theorem dX12_instantiates_54 : decode cX12_instantiates 54 = .ok (.iinc 4 1, 3) := by decide +kernel
theorem dX12_instantiates_57 : decode cX12_instantiates 57 = .ok (.goto (-44), 3) := by decide +kernel
theorem dX12_instantiates_60 : decode cX12_instantiates 60 = .ok (.aload_n 0, 1) := by decide +kernel
theorem dX12_instantiates_61 : decode cX12_instantiates 61 = .ok (.iload_n 3, 1) := by decide +kernel
theorem dX12_instantiates_62 : decode cX12_instantiates 62 = .ok (.iload_n 1, 1) := by decide +kernel
theorem dX12_instantiates_63 : decode cX12_instantiates 63 = .ok (.iload_n 2, 1) := by decide +kernel
theorem dX12_instantiates_64 : decode cX12_instantiates 64 = .ok (.invokevirtual 542, 3) := by decide +kernel
theorem dX12_instantiates_67 : decode cX12_instantiates 67 = .ok (.istore 4, 2) := by decide +kernel
theorem dX12_instantiates_69 : decode cX12_instantiates 69 = .ok (.iconst 0, 1) := by decide +kernel
theorem dX12_instantiates_70 : decode cX12_instantiates 70 = .ok (.istore 5, 2) := by decide +kernel
theorem dX12_instantiates_72 : decode cX12_instantiates 72 = .ok (.iload 5, 2) := by decide +kernel
theorem dX12_instantiates_74 : decode cX12_instantiates 74 = .ok (.aload_n 0, 1) := by decide +kernel
theorem dX12_instantiates_75 : decode cX12_instantiates 75 = .ok (.iload_n 3, 1) := by decide +kernel
theorem dX12_instantiates_76 : decode cX12_instantiates 76 = .ok (.invokevirtual 530, 3) := by decide +kernel
theorem dX12_instantiates_79 : decode cX12_instantiates 79 = .ok (.if_icmp .ge 172, 3) := by decide +kernel
theorem dX12_instantiates_82 : decode cX12_instantiates 82 = .ok (.bipush 125, 2) := by decide +kernel
theorem dX12_instantiates_84 : decode cX12_instantiates 84 = .ok (.iload_n 3, 1) := by decide +kernel
theorem dX12_instantiates_85 : decode cX12_instantiates 85 = .ok (.imul, 1) := by decide +kernel
theorem dX12_instantiates_86 : decode cX12_instantiates 86 = .ok (.iload 5, 2) := by decide +kernel
theorem dX12_instantiates_88 : decode cX12_instantiates 88 = .ok (.iadd, 1) := by decide +kernel
theorem dX12_instantiates_89 : decode cX12_instantiates 89 = .ok (.istore 6, 2) := by decide +kernel
theorem dX12_instantiates_91 : decode cX12_instantiates 91 = .ok (.aload_n 0, 1) := by decide +kernel
theorem dX12_instantiates_92 : decode cX12_instantiates 92 = .ok (.iload_n 3, 1) := by decide +kernel
theorem dX12_instantiates_93 : decode cX12_instantiates 93 = .ok (.iload 5, 2) := by decide +kernel
theorem dX12_instantiates_95 : decode cX12_instantiates 95 = .ok (.invokevirtual 546, 3) := by decide +kernel
theorem dX12_instantiates_98 : decode cX12_instantiates 98 = .ok (.aload_n 0, 1) := by decide +kernel
theorem dX12_instantiates_99 : decode cX12_instantiates 99 = .ok (.getfield 183, 3) := by decide +kernel
theorem dX12_instantiates_102 : decode cX12_instantiates 102 = .ok (.iload 6, 2) := by decide +kernel
theorem dX12_instantiates_104 : decode cX12_instantiates 104 = .ok (.iload 4, 2) := by decide +kernel
theorem dX12_instantiates_106 : decode cX12_instantiates 106 = .ok (.ifCond .eq 15, 3) := by decide +kernel
theorem dX12_instantiates_109 : decode cX12_instantiates 109 = .ok (.aload_n 0, 1) := by decide +kernel
theorem dX12_instantiates_110 : decode cX12_instantiates 110 = .ok (.iload_n 3, 1) := by decide +kernel
theorem dX12_instantiates_111 : decode cX12_instantiates 111 = .ok (.invokevirtual 549, 3) := by decide +kernel
theorem dX12_instantiates_114 : decode cX12_instantiates 114 = .ok (.ifCond .eq 7, 3) := by decide +kernel
theorem dX12_instantiates_117 : decode cX12_instantiates 117 = .ok (.iconst 1, 1) := by decide +kernel
theorem dX12_instantiates_118 : decode cX12_instantiates 118 = .ok (.goto 4, 3) := by decide +kernel
theorem dX12_instantiates_121 : decode cX12_instantiates 121 = .ok (.iconst 0, 1) := by decide +kernel
theorem dX12_instantiates_122 : decode cX12_instantiates 122 = .ok (.bastore, 1) := by decide +kernel
theorem dX12_instantiates_123 : decode cX12_instantiates 123 = .ok (.aload_n 0, 1) := by decide +kernel
theorem dX12_instantiates_124 : decode cX12_instantiates 124 = .ok (.getfield 198, 3) := by decide +kernel
theorem dX12_instantiates_127 : decode cX12_instantiates 127 = .ok (.iload 6, 2) := by decide +kernel
theorem dX12_instantiates_129 : decode cX12_instantiates 129 = .ok (.iconst 0, 1) := by decide +kernel
theorem dX12_instantiates_130 : decode cX12_instantiates 130 = .ok (.bastore, 1) := by decide +kernel
theorem dX12_instantiates_131 : decode cX12_instantiates 131 = .ok (.aload_n 0, 1) := by decide +kernel
theorem dX12_instantiates_132 : decode cX12_instantiates 132 = .ok (.getfield 201, 3) := by decide +kernel
theorem dX12_instantiates_135 : decode cX12_instantiates 135 = .ok (.iload 6, 2) := by decide +kernel
theorem dX12_instantiates_137 : decode cX12_instantiates 137 = .ok (.iconst 0, 1) := by decide +kernel
theorem dX12_instantiates_138 : decode cX12_instantiates 138 = .ok (.bastore, 1) := by decide +kernel
theorem dX12_instantiates_139 : decode cX12_instantiates 139 = .ok (.aload_n 0, 1) := by decide +kernel
theorem dX12_instantiates_140 : decode cX12_instantiates 140 = .ok (.getfield 189, 3) := by decide +kernel
theorem dX12_instantiates_143 : decode cX12_instantiates 143 = .ok (.iload 6, 2) := by decide +kernel
theorem dX12_instantiates_145 : decode cX12_instantiates 145 = .ok (.iconst (-1), 1) := by decide +kernel
theorem dX12_instantiates_146 : decode cX12_instantiates 146 = .ok (.iastore, 1) := by decide +kernel
theorem dX12_instantiates_147 : decode cX12_instantiates 147 = .ok (.aload_n 0, 1) := by decide +kernel
theorem dX12_instantiates_148 : decode cX12_instantiates 148 = .ok (.getfield 85, 3) := by decide +kernel
theorem dX12_instantiates_151 : decode cX12_instantiates 151 = .ok (.iload_n 3, 1) := by decide +kernel
theorem dX12_instantiates_152 : decode cX12_instantiates 152 = .ok (.iaload, 1) := by decide +kernel
theorem dX12_instantiates_153 : decode cX12_instantiates 153 = .ok (.iconst 2, 1) := by decide +kernel
theorem dX12_instantiates_154 : decode cX12_instantiates 154 = .ok (.if_icmp .ne 6, 3) := by decide +kernel
theorem dX12_instantiates_157 : decode cX12_instantiates 157 = .ok (.goto 88, 3) := by decide +kernel
theorem dX12_instantiates_160 : decode cX12_instantiates 160 = .ok (.aload_n 0, 1) := by decide +kernel
theorem dX12_instantiates_161 : decode cX12_instantiates 161 = .ok (.aload_n 0, 1) := by decide +kernel
theorem dX12_instantiates_162 : decode cX12_instantiates 162 = .ok (.getfield 97, 3) := by decide +kernel
theorem dX12_instantiates_165 : decode cX12_instantiates 165 = .ok (.iload_n 3, 1) := by decide +kernel
theorem dX12_instantiates_166 : decode cX12_instantiates 166 = .ok (.iaload, 1) := by decide +kernel
theorem dX12_instantiates_167 : decode cX12_instantiates 167 = .ok (.aload_n 0, 1) := by decide +kernel
theorem dX12_instantiates_168 : decode cX12_instantiates 168 = .ok (.getfield 100, 3) := by decide +kernel
theorem dX12_instantiates_171 : decode cX12_instantiates 171 = .ok (.iload_n 3, 1) := by decide +kernel
theorem dX12_instantiates_172 : decode cX12_instantiates 172 = .ok (.baload, 1) := by decide +kernel
theorem dX12_instantiates_173 : decode cX12_instantiates 173 = .ok (.aload_n 0, 1) := by decide +kernel
theorem dX12_instantiates_174 : decode cX12_instantiates 174 = .ok (.getfield 104, 3) := by decide +kernel
theorem dX12_instantiates_177 : decode cX12_instantiates 177 = .ok (.iload_n 3, 1) := by decide +kernel
theorem dX12_instantiates_178 : decode cX12_instantiates 178 = .ok (.iaload, 1) := by decide +kernel
theorem dX12_instantiates_179 : decode cX12_instantiates 179 = .ok (.aload_n 0, 1) := by decide +kernel
theorem dX12_instantiates_180 : decode cX12_instantiates 180 = .ok (.getfield 107, 3) := by decide +kernel
theorem dX12_instantiates_183 : decode cX12_instantiates 183 = .ok (.iload_n 3, 1) := by decide +kernel
theorem dX12_instantiates_184 : decode cX12_instantiates 184 = .ok (.iaload, 1) := by decide +kernel
theorem dX12_instantiates_185 : decode cX12_instantiates 185 = .ok (.invokevirtual 552, 3) := by decide +kernel
theorem dX12_instantiates_188 : decode cX12_instantiates 188 = .ok (.istore 7, 2) := by decide +kernel
theorem dX12_instantiates_190 : decode cX12_instantiates 190 = .ok (.aload_n 0, 1) := by decide +kernel
theorem dX12_instantiates_191 : decode cX12_instantiates 191 = .ok (.getfield 186, 3) := by decide +kernel
theorem dX12_instantiates_194 : decode cX12_instantiates 194 = .ok (.iload 6, 2) := by decide +kernel
theorem dX12_instantiates_196 : decode cX12_instantiates 196 = .ok (.iload 7, 2) := by decide +kernel
theorem dX12_instantiates_198 : decode cX12_instantiates 198 = .ok (.iastore, 1) := by decide +kernel
theorem dX12_instantiates_199 : decode cX12_instantiates 199 = .ok (.aload_n 0, 1) := by decide +kernel
theorem dX12_instantiates_200 : decode cX12_instantiates 200 = .ok (.getfield 192, 3) := by decide +kernel
theorem dX12_instantiates_203 : decode cX12_instantiates 203 = .ok (.iload 7, 2) := by decide +kernel
theorem dX12_instantiates_205 : decode cX12_instantiates 205 = .ok (.iaload, 1) := by decide +kernel
theorem dX12_instantiates_206 : decode cX12_instantiates 206 = .ok (.iconst (-1), 1) := by decide +kernel
theorem dX12_instantiates_207 : decode cX12_instantiates 207 = .ok (.if_icmp .ne 15, 3) := by decide +kernel
theorem dX12_instantiates_210 : decode cX12_instantiates 210 = .ok (.aload_n 0, 1) := by decide +kernel
theorem dX12_instantiates_211 : decode cX12_instantiates 211 = .ok (.getfield 192, 3) := by decide +kernel
theorem dX12_instantiates_214 : decode cX12_instantiates 214 = .ok (.iload 7, 2) := by decide +kernel
theorem dX12_instantiates_216 : decode cX12_instantiates 216 = .ok (.iload 6, 2) := by decide +kernel
theorem dX12_instantiates_218 : decode cX12_instantiates 218 = .ok (.iastore, 1) := by decide +kernel
theorem dX12_instantiates_219 : decode cX12_instantiates 219 = .ok (.goto 17, 3) := by decide +kernel
theorem dX12_instantiates_222 : decode cX12_instantiates 222 = .ok (.aload_n 0, 1) := by decide +kernel
theorem dX12_instantiates_223 : decode cX12_instantiates 223 = .ok (.getfield 189, 3) := by decide +kernel
theorem dX12_instantiates_226 : decode cX12_instantiates 226 = .ok (.aload_n 0, 1) := by decide +kernel
theorem dX12_instantiates_227 : decode cX12_instantiates 227 = .ok (.getfield 195, 3) := by decide +kernel
theorem dX12_instantiates_230 : decode cX12_instantiates 230 = .ok (.iload 7, 2) := by decide +kernel
theorem dX12_instantiates_232 : decode cX12_instantiates 232 = .ok (.iaload, 1) := by decide +kernel
theorem dX12_instantiates_233 : decode cX12_instantiates 233 = .ok (.iload 6, 2) := by decide +kernel
theorem dX12_instantiates_235 : decode cX12_instantiates 235 = .ok (.iastore, 1) := by decide +kernel
theorem dX12_instantiates_236 : decode cX12_instantiates 236 = .ok (.aload_n 0, 1) := by decide +kernel
theorem dX12_instantiates_237 : decode cX12_instantiates 237 = .ok (.getfield 195, 3) := by decide +kernel
theorem dX12_instantiates_240 : decode cX12_instantiates 240 = .ok (.iload 7, 2) := by decide +kernel
theorem dX12_instantiates_242 : decode cX12_instantiates 242 = .ok (.iload 6, 2) := by decide +kernel
theorem dX12_instantiates_244 : decode cX12_instantiates 244 = .ok (.iastore, 1) := by decide +kernel
theorem dX12_instantiates_245 : decode cX12_instantiates 245 = .ok (.iinc 5 1, 3) := by decide +kernel
theorem dX12_instantiates_248 : decode cX12_instantiates 248 = .ok (.goto (-176), 3) := by decide +kernel
theorem dX12_instantiates_251 : decode cX12_instantiates 251 = .ok (.iinc 3 1, 3) := by decide +kernel
theorem dX12_instantiates_254 : decode cX12_instantiates 254 = .ok (.goto (-252), 3) := by decide +kernel
theorem dX12_instantiates_257 : decode cX12_instantiates 257 = .ok (.return_, 1) := by decide +kernel
def fX12_instantiates_245 (k2 : MS → Int32 → Int32 → Int32 → Option (MS)) (k72 : MS → Int32 → Int32 → Int32 → Int32 → Int32 → Option (MS)) (h : MS) (x1 : Int32) (x2 : Int32) (x3 : Int32) (x4 : Int32) (x5 : Int32) : Option (MS) :=
  oL (x5 + 1) (fun y1 => k72 h x1 x2 x3 x4 y1)
set_option maxHeartbeats 4000000 in
theorem wfX12_instantiates_245 {args : Array Value} (b : Bd p s m c cX12_instantiates 8 RX12 D aC) (hlk : meth.locks = false) (hr : meth.sig.returnType = none) {Z : State → Prop} (zs : Z s) (zk : ZOK Z (Rg ad)) {hz : MS} {k2 : MS → Int32 → Int32 → Int32 → Option (MS)} (H2 : ∀ (h : MS) (x1 : Int32) (x2 : Int32) (x3 : Int32), ∀ (H : Heap) (locs : List Loc) (ls : Array Slot), k2 h x1 x2 x3 = some hz → CE (EM D aC ad h) (Rg ad) s H locs → lv_has ls 8 [(0, .ref (ad 116)), (1, .int x1), (2, .int x2), (3, .int x3)] → W p l e (RM 6 159 0 0) s m args below meth c H locs 0 0 (MQ below (PQ (EM D aC ad hz) (Rg ad) none) args s 0 0 (Rg ad)) (F0 m 2 ls [])) {k72 : MS → Int32 → Int32 → Int32 → Int32 → Int32 → Option (MS)} (H72 : ∀ (h : MS) (x1 : Int32) (x2 : Int32) (x3 : Int32) (x4 : Int32) (x5 : Int32), ∀ (H : Heap) (locs : List Loc) (ls : Array Slot), k72 h x1 x2 x3 x4 x5 = some hz → CE (EM D aC ad h) (Rg ad) s H locs → lv_has ls 8 [(0, .ref (ad 116)), (1, .int x1), (2, .int x2), (3, .int x3), (4, .int x4), (5, .int x5)] → W p l e (RM 6 159 0 0) s m args below meth c H locs 0 0 (MQ below (PQ (EM D aC ad hz) (Rg ad) none) args s 0 0 (Rg ad)) (F0 m 72 ls [])) {h : MS} {x1 : Int32} {x2 : Int32} {x3 : Int32} {x4 : Int32} {x5 : Int32}  {H : Heap} {locs : List Loc} {ls : Array Slot} (hf : fX12_instantiates_245 k2 k72 h x1 x2 x3 x4 x5 = some hz) (hE : CE (EM D aC ad h) (Rg ad) s H locs) (hl : lv_has ls 8 [(0, .ref (ad 116)), (1, .int x1), (2, .int x2), (3, .int x3), (4, .int x4), (5, .int x5)]) : W p l e (RM 6 159 0 0) s m args below meth c H locs 0 0 (MQ below (PQ (EM D aC ad hz) (Rg ad) none) args s 0 0 (Rg ad)) (F0 m 245 ls []) := by
  unfold fX12_instantiates_245 at hf
  obtain ⟨y1, ey1, hf⟩ := oL_s hf
  refine lv_iinc (v := y1) (lv' := [(5, .int y1), (0, .ref (ad 116)), (1, .int x1), (2, .int x2), (3, .int x3), (4, .int x4)]) b.1 b.2.1 dX12_instantiates_245 hl (k := 5) rfl (by rw [ey1]; rfl) (by decide) rfl (fun ls hl => ?_)
  refine lv_goto (tgt := 72) b.1 b.2.1 dX12_instantiates_248 (by decide) ?_
  exact H72 h x1 x2 x3 x4 y1 _ _ _ hf hE (lv_sub hl [1, 2, 3, 4, 5, 0] rfl)
def fX12_instantiates_236 (k2 : MS → Int32 → Int32 → Int32 → Option (MS)) (k72 : MS → Int32 → Int32 → Int32 → Int32 → Int32 → Option (MS)) (h : MS) (x1 : Int32) (x2 : Int32) (x3 : Int32) (x4 : Int32) (x5 : Int32) (x6 : Int32) (x7 : Int32) : Option (MS) :=
  oC (ix x7 (mlen 88)) (oL (mSA h 88 (Int32.toNatClampNeg x7) x6) (fun h3 => fX12_instantiates_245 k2 k72 h3 x1 x2 x3 x4 x5))
set_option maxHeartbeats 4000000 in
theorem wfX12_instantiates_236 {args : Array Value} (b : Bd p s m c cX12_instantiates 8 RX12 D aC) (hlk : meth.locks = false) (hr : meth.sig.returnType = none) {Z : State → Prop} (zs : Z s) (zk : ZOK Z (Rg ad)) {hz : MS} {k2 : MS → Int32 → Int32 → Int32 → Option (MS)} (H2 : ∀ (h : MS) (x1 : Int32) (x2 : Int32) (x3 : Int32), ∀ (H : Heap) (locs : List Loc) (ls : Array Slot), k2 h x1 x2 x3 = some hz → CE (EM D aC ad h) (Rg ad) s H locs → lv_has ls 8 [(0, .ref (ad 116)), (1, .int x1), (2, .int x2), (3, .int x3)] → W p l e (RM 6 159 0 0) s m args below meth c H locs 0 0 (MQ below (PQ (EM D aC ad hz) (Rg ad) none) args s 0 0 (Rg ad)) (F0 m 2 ls [])) {k72 : MS → Int32 → Int32 → Int32 → Int32 → Int32 → Option (MS)} (H72 : ∀ (h : MS) (x1 : Int32) (x2 : Int32) (x3 : Int32) (x4 : Int32) (x5 : Int32), ∀ (H : Heap) (locs : List Loc) (ls : Array Slot), k72 h x1 x2 x3 x4 x5 = some hz → CE (EM D aC ad h) (Rg ad) s H locs → lv_has ls 8 [(0, .ref (ad 116)), (1, .int x1), (2, .int x2), (3, .int x3), (4, .int x4), (5, .int x5)] → W p l e (RM 6 159 0 0) s m args below meth c H locs 0 0 (MQ below (PQ (EM D aC ad hz) (Rg ad) none) args s 0 0 (Rg ad)) (F0 m 72 ls [])) {h : MS} {x1 : Int32} {x2 : Int32} {x3 : Int32} {x4 : Int32} {x5 : Int32} {x6 : Int32} {x7 : Int32}  {H : Heap} {locs : List Loc} {ls : Array Slot} (hf : fX12_instantiates_236 k2 k72 h x1 x2 x3 x4 x5 x6 x7 = some hz) (hE : CE (EM D aC ad h) (Rg ad) s H locs) (hl : lv_has ls 8 [(0, .ref (ad 116)), (1, .int x1), (2, .int x2), (3, .int x3), (4, .int x4), (5, .int x5), (6, .int x6), (7, .int x7)]) : W p l e (RM 6 159 0 0) s m args below meth c H locs 0 0 (MQ below (PQ (EM D aC ad hz) (Rg ad) none) args s 0 0 (Rg ad)) (F0 m 236 ls []) := by
  unfold fX12_instantiates_236 at hf
  refine lv_aload_n b.1 b.2.1 dX12_instantiates_236 rfl (lv_at hl 0 rfl) ?_
  refine gM_195 b hE dX12_instantiates_237 ?_
  refine lv_iload b.1 b.2.1 dX12_instantiates_240 (lv_at hl 7 rfl) ?_
  refine lv_iload b.1 b.2.1 dX12_instantiates_242 (lv_at hl 6 rfl) ?_
  obtain ⟨g2, hf⟩ := oC_s hf
  obtain ⟨h3, eh3, hf⟩ := oL_s hf
  refine n_iast b hE rfl rfl g2 eh3 dX12_instantiates_244 (fun H locs hE => ?_)
  exact wfX12_instantiates_245 b hlk hr zs zk H2 H72 hf hE (lv_sub hl [0, 1, 2, 3, 4, 5] rfl)
def fX12_instantiates_122 (k2 : MS → Int32 → Int32 → Int32 → Option (MS)) (k72 : MS → Int32 → Int32 → Int32 → Int32 → Int32 → Option (MS)) (h : MS) (x1 : Int32) (x2 : Int32) (x3 : Int32) (x4 : Int32) (x5 : Int32) (x6 : Int32) (s0 : Int32) (s1 : Int32) : Option (MS) :=
  oC (isB s0) (oC (ix s1 (mlen 84)) (oL (mSA h 84 (Int32.toNatClampNeg s1) s0) (fun h6 => oC (ix x6 (mlen 89)) (oL (mSA h6 89 (Int32.toNatClampNeg x6) 0) (fun h8 => oC (ix x6 (mlen 90)) (oL (mSA h8 90 (Int32.toNatClampNeg x6) 0) (fun h10 => oC (ix x6 (mlen 86)) (oL (mSA h10 86 (Int32.toNatClampNeg x6) (-1)) (fun h12 => oC (ix x3 (mlen 40)) (if (mA h12 40 (Int32.toNatClampNeg x3)) = 2 then (fX12_instantiates_245 k2 k72 h12 x1 x2 x3 x4 x5) else (oC (ix x3 (mlen 44)) (oC (ix x3 (mlen 45)) (oC (ix x3 (mlen 46)) (oC (ix x3 (mlen 47)) (oB (fX12_literalBy h12 (mA h12 44 (Int32.toNatClampNeg x3)) (mA h12 45 (Int32.toNatClampNeg x3)) (mA h12 46 (Int32.toNatClampNeg x3)) (mA h12 47 (Int32.toNatClampNeg x3))) (fun r20 => oC (ix x6 (mlen 85)) (oL (mSA h12 85 (Int32.toNatClampNeg x6) r20) (fun h22 => oC (ix r20 (mlen 87)) (if (mA h22 87 (Int32.toNatClampNeg r20)) = (-1) then (oC (ix r20 (mlen 87)) (oL (mSA h22 87 (Int32.toNatClampNeg r20) x6) (fun h29 => fX12_instantiates_236 k2 k72 h29 x1 x2 x3 x4 x5 x6 r20))) else (oC (ix r20 (mlen 88)) (oC (ix (mA h22 88 (Int32.toNatClampNeg r20)) (mlen 86)) (oL (mSA h22 86 (Int32.toNatClampNeg (mA h22 88 (Int32.toNatClampNeg r20))) x6) (fun h27 => fX12_instantiates_236 k2 k72 h27 x1 x2 x3 x4 x5 x6 r20)))))))))))))))))))))))
set_option maxHeartbeats 4000000 in
theorem wfX12_instantiates_122 {args : Array Value} (b : Bd p s m c cX12_instantiates 8 RX12 D aC) (hlk : meth.locks = false) (hr : meth.sig.returnType = none) {Z : State → Prop} (zs : Z s) (zk : ZOK Z (Rg ad)) {hz : MS} {k2 : MS → Int32 → Int32 → Int32 → Option (MS)} (H2 : ∀ (h : MS) (x1 : Int32) (x2 : Int32) (x3 : Int32), ∀ (H : Heap) (locs : List Loc) (ls : Array Slot), k2 h x1 x2 x3 = some hz → CE (EM D aC ad h) (Rg ad) s H locs → lv_has ls 8 [(0, .ref (ad 116)), (1, .int x1), (2, .int x2), (3, .int x3)] → W p l e (RM 6 159 0 0) s m args below meth c H locs 0 0 (MQ below (PQ (EM D aC ad hz) (Rg ad) none) args s 0 0 (Rg ad)) (F0 m 2 ls [])) {k72 : MS → Int32 → Int32 → Int32 → Int32 → Int32 → Option (MS)} (H72 : ∀ (h : MS) (x1 : Int32) (x2 : Int32) (x3 : Int32) (x4 : Int32) (x5 : Int32), ∀ (H : Heap) (locs : List Loc) (ls : Array Slot), k72 h x1 x2 x3 x4 x5 = some hz → CE (EM D aC ad h) (Rg ad) s H locs → lv_has ls 8 [(0, .ref (ad 116)), (1, .int x1), (2, .int x2), (3, .int x3), (4, .int x4), (5, .int x5)] → W p l e (RM 6 159 0 0) s m args below meth c H locs 0 0 (MQ below (PQ (EM D aC ad hz) (Rg ad) none) args s 0 0 (Rg ad)) (F0 m 72 ls [])) {h : MS} {x1 : Int32} {x2 : Int32} {x3 : Int32} {x4 : Int32} {x5 : Int32} {x6 : Int32} {s0 : Int32} {s1 : Int32}  {H : Heap} {locs : List Loc} {ls : Array Slot} (hf : fX12_instantiates_122 k2 k72 h x1 x2 x3 x4 x5 x6 s0 s1 = some hz) (hE : CE (EM D aC ad h) (Rg ad) s H locs) (hl : lv_has ls 8 [(0, .ref (ad 116)), (1, .int x1), (2, .int x2), (3, .int x3), (4, .int x4), (5, .int x5), (6, .int x6)]) : W p l e (RM 6 159 0 0) s m args below meth c H locs 0 0 (MQ below (PQ (EM D aC ad hz) (Rg ad) none) args s 0 0 (Rg ad)) (F0 m 122 ls [.int s0, .int s1, .ref (ad 84)]) := by
  unfold fX12_instantiates_122 at hf
  obtain ⟨g4, hf⟩ := oC_s hf
  obtain ⟨g5, hf⟩ := oC_s hf
  obtain ⟨h6, eh6, hf⟩ := oL_s hf
  refine n_zast b hE g4 rfl rfl g5 eh6 dX12_instantiates_122 (fun H locs hE => ?_)
  refine lv_aload_n b.1 b.2.1 dX12_instantiates_123 rfl (lv_at hl 0 rfl) ?_
  refine gM_198 b hE dX12_instantiates_124 ?_
  refine lv_iload b.1 b.2.1 dX12_instantiates_127 (lv_at hl 6 rfl) ?_
  refine lv_iconst (v := 0) b.1 b.2.1 dX12_instantiates_129 (by decide) ?_
  obtain ⟨g7, hf⟩ := oC_s hf
  obtain ⟨h8, eh8, hf⟩ := oL_s hf
  refine n_zast b hE (by decide) rfl rfl g7 eh8 dX12_instantiates_130 (fun H locs hE => ?_)
  refine lv_aload_n b.1 b.2.1 dX12_instantiates_131 rfl (lv_at hl 0 rfl) ?_
  refine gM_201 b hE dX12_instantiates_132 ?_
  refine lv_iload b.1 b.2.1 dX12_instantiates_135 (lv_at hl 6 rfl) ?_
  refine lv_iconst (v := 0) b.1 b.2.1 dX12_instantiates_137 (by decide) ?_
  obtain ⟨g9, hf⟩ := oC_s hf
  obtain ⟨h10, eh10, hf⟩ := oL_s hf
  refine n_zast b hE (by decide) rfl rfl g9 eh10 dX12_instantiates_138 (fun H locs hE => ?_)
  refine lv_aload_n b.1 b.2.1 dX12_instantiates_139 rfl (lv_at hl 0 rfl) ?_
  refine gM_189 b hE dX12_instantiates_140 ?_
  refine lv_iload b.1 b.2.1 dX12_instantiates_143 (lv_at hl 6 rfl) ?_
  refine lv_iconst (v := (-1)) b.1 b.2.1 dX12_instantiates_145 (by decide) ?_
  obtain ⟨g11, hf⟩ := oC_s hf
  obtain ⟨h12, eh12, hf⟩ := oL_s hf
  refine n_iast b hE rfl rfl g11 eh12 dX12_instantiates_146 (fun H locs hE => ?_)
  refine lv_aload_n b.1 b.2.1 dX12_instantiates_147 rfl (lv_at hl 0 rfl) ?_
  refine gM_85 b hE dX12_instantiates_148 ?_
  refine lv_iload_n b.1 b.2.1 dX12_instantiates_151 rfl (lv_at hl 3 rfl) ?_
  obtain ⟨g13, hf⟩ := oC_s hf
  refine m_iald b hE rfl rfl g13 dX12_instantiates_152 ?_
  refine lv_iconst (v := 2) b.1 b.2.1 dX12_instantiates_153 (by decide) ?_
  refine lv_icmp_ne (tgt := 160) b.1 b.2.1 dX12_instantiates_154 (by decide) (fun c14 => ?_) (fun c14 => ?_)
  · have hf := oI_f c14 hf
    refine lv_aload_n b.1 b.2.1 dX12_instantiates_160 rfl (lv_at hl 0 rfl) ?_
    refine lv_aload_n b.1 b.2.1 dX12_instantiates_161 rfl (lv_at hl 0 rfl) ?_
    refine gM_97 b hE dX12_instantiates_162 ?_
    refine lv_iload_n b.1 b.2.1 dX12_instantiates_165 rfl (lv_at hl 3 rfl) ?_
    obtain ⟨g15, hf⟩ := oC_s hf
    refine m_iald b hE rfl rfl g15 dX12_instantiates_166 ?_
    refine lv_aload_n b.1 b.2.1 dX12_instantiates_167 rfl (lv_at hl 0 rfl) ?_
    refine gM_100 b hE dX12_instantiates_168 ?_
    refine lv_iload_n b.1 b.2.1 dX12_instantiates_171 rfl (lv_at hl 3 rfl) ?_
    obtain ⟨g16, hf⟩ := oC_s hf
    refine m_zald b hE rfl rfl g16 dX12_instantiates_172 ?_
    refine lv_aload_n b.1 b.2.1 dX12_instantiates_173 rfl (lv_at hl 0 rfl) ?_
    refine gM_104 b hE dX12_instantiates_174 ?_
    refine lv_iload_n b.1 b.2.1 dX12_instantiates_177 rfl (lv_at hl 3 rfl) ?_
    obtain ⟨g17, hf⟩ := oC_s hf
    refine m_iald b hE rfl rfl g17 dX12_instantiates_178 ?_
    refine lv_aload_n b.1 b.2.1 dX12_instantiates_179 rfl (lv_at hl 0 rfl) ?_
    refine gM_107 b hE dX12_instantiates_180 ?_
    refine lv_iload_n b.1 b.2.1 dX12_instantiates_183 rfl (lv_at hl 3 rfl) ?_
    obtain ⟨g18, hf⟩ := oC_s hf
    refine m_iald b hE rfl rfl g18 dX12_instantiates_184 ?_
    obtain ⟨r20, hc19, hf⟩ := oB_s hf
    refine k_callV0 (C := RX12) b zs zk hE (CX12_literalBy l D aC ad zk hc19) mc_X12_literalBy (in8 48 rfl rfl) mi_X12_literalBy ms_X12_literalBy ini_RX12 ok_X12_literalBy (m_recv b hE) ⟨Nat.le_of_ble_eq_true rfl, Nat.le_of_ble_eq_true rfl⟩ rfl hl.1 rfl (k_room _ (by exact Nat.le_of_ble_eq_true rfl)) ⟨Nat.le_refl _, Nat.le_refl _⟩ dX12_instantiates_185 (fun H locs hE => ?_)
    refine lv_istore (lv' := [(7, .int r20), (0, .ref (ad 116)), (1, .int x1), (2, .int x2), (3, .int x3), (4, .int x4), (5, .int x5), (6, .int x6)]) b.1 b.2.1 dX12_instantiates_188 hl (by decide) rfl (fun ls hl => ?_)
    refine lv_aload_n b.1 b.2.1 dX12_instantiates_190 rfl (lv_at hl 1 rfl) ?_
    refine gM_186 b hE dX12_instantiates_191 ?_
    refine lv_iload b.1 b.2.1 dX12_instantiates_194 (lv_at hl 7 rfl) ?_
    refine lv_iload b.1 b.2.1 dX12_instantiates_196 (lv_at hl 0 rfl) ?_
    obtain ⟨g21, hf⟩ := oC_s hf
    obtain ⟨h22, eh22, hf⟩ := oL_s hf
    refine n_iast b hE rfl rfl g21 eh22 dX12_instantiates_198 (fun H locs hE => ?_)
    refine lv_aload_n b.1 b.2.1 dX12_instantiates_199 rfl (lv_at hl 1 rfl) ?_
    refine gM_192 b hE dX12_instantiates_200 ?_
    refine lv_iload b.1 b.2.1 dX12_instantiates_203 (lv_at hl 0 rfl) ?_
    obtain ⟨g23, hf⟩ := oC_s hf
    refine m_iald b hE rfl rfl g23 dX12_instantiates_205 ?_
    refine lv_iconst (v := (-1)) b.1 b.2.1 dX12_instantiates_206 (by decide) ?_
    refine lv_icmp_ne (tgt := 222) b.1 b.2.1 dX12_instantiates_207 (by decide) (fun c24 => ?_) (fun c24 => ?_)
    · have hf := oI_f c24 hf
      refine lv_aload_n b.1 b.2.1 dX12_instantiates_222 rfl (lv_at hl 1 rfl) ?_
      refine gM_189 b hE dX12_instantiates_223 ?_
      refine lv_aload_n b.1 b.2.1 dX12_instantiates_226 rfl (lv_at hl 1 rfl) ?_
      refine gM_195 b hE dX12_instantiates_227 ?_
      refine lv_iload b.1 b.2.1 dX12_instantiates_230 (lv_at hl 0 rfl) ?_
      obtain ⟨g25, hf⟩ := oC_s hf
      refine m_iald b hE rfl rfl g25 dX12_instantiates_232 ?_
      refine lv_iload b.1 b.2.1 dX12_instantiates_233 (lv_at hl 7 rfl) ?_
      obtain ⟨g26, hf⟩ := oC_s hf
      obtain ⟨h27, eh27, hf⟩ := oL_s hf
      refine n_iast b hE rfl rfl g26 eh27 dX12_instantiates_235 (fun H locs hE => ?_)
      exact wfX12_instantiates_236 b hlk hr zs zk H2 H72 hf hE (lv_sub hl [1, 2, 3, 4, 5, 6, 7, 0] rfl)
    · have hf := oI_t c24 hf
      refine lv_aload_n b.1 b.2.1 dX12_instantiates_210 rfl (lv_at hl 1 rfl) ?_
      refine gM_192 b hE dX12_instantiates_211 ?_
      refine lv_iload b.1 b.2.1 dX12_instantiates_214 (lv_at hl 0 rfl) ?_
      refine lv_iload b.1 b.2.1 dX12_instantiates_216 (lv_at hl 7 rfl) ?_
      obtain ⟨g28, hf⟩ := oC_s hf
      obtain ⟨h29, eh29, hf⟩ := oL_s hf
      refine n_iast b hE rfl rfl g28 eh29 dX12_instantiates_218 (fun H locs hE => ?_)
      refine lv_goto (tgt := 236) b.1 b.2.1 dX12_instantiates_219 (by decide) ?_
      exact wfX12_instantiates_236 b hlk hr zs zk H2 H72 hf hE (lv_sub hl [1, 2, 3, 4, 5, 6, 7, 0] rfl)
  · have hf := oI_t c14 hf
    refine lv_goto (tgt := 245) b.1 b.2.1 dX12_instantiates_157 (by decide) ?_
    exact wfX12_instantiates_245 b hlk hr zs zk H2 H72 hf hE (lv_sub hl [0, 1, 2, 3, 4, 5] rfl)
def fX12_instantiates_72F (k2 : MS → Int32 → Int32 → Int32 → Option (MS)) (k72 : MS → Int32 → Int32 → Int32 → Int32 → Int32 → Option (MS)) (h : MS) (x1 : Int32) (x2 : Int32) (x3 : Int32) (x4 : Int32) (x5 : Int32) : Option (MS) :=
  oB (fX12_instances h x3) (fun r31 => if r31 ≤ x5 then (oL (x3 + 1) (fun y33 => k2 h x1 x2 y33)) else (oL ((125 * x3) + x5) (fun y34 => oB (fX12_gives h x3 x5) (fun h36 => if x4 = 0 then (fX12_instantiates_122 k2 k72 h36 x1 x2 x3 x4 x5 y34 0 y34) else (oB2 (fX12_standing h36 x3) (fun h40 r39 => if r39 = 0 then (fX12_instantiates_122 k2 k72 h40 x1 x2 x3 x4 x5 y34 0 y34) else (fX12_instantiates_122 k2 k72 h40 x1 x2 x3 x4 x5 y34 1 y34)))))))
set_option maxHeartbeats 4000000 in
theorem wfX12_instantiates_72F {args : Array Value} (b : Bd p s m c cX12_instantiates 8 RX12 D aC) (hlk : meth.locks = false) (hr : meth.sig.returnType = none) {Z : State → Prop} (zs : Z s) (zk : ZOK Z (Rg ad)) {hz : MS} {k2 : MS → Int32 → Int32 → Int32 → Option (MS)} (H2 : ∀ (h : MS) (x1 : Int32) (x2 : Int32) (x3 : Int32), ∀ (H : Heap) (locs : List Loc) (ls : Array Slot), k2 h x1 x2 x3 = some hz → CE (EM D aC ad h) (Rg ad) s H locs → lv_has ls 8 [(0, .ref (ad 116)), (1, .int x1), (2, .int x2), (3, .int x3)] → W p l e (RM 6 159 0 0) s m args below meth c H locs 0 0 (MQ below (PQ (EM D aC ad hz) (Rg ad) none) args s 0 0 (Rg ad)) (F0 m 2 ls [])) {k72 : MS → Int32 → Int32 → Int32 → Int32 → Int32 → Option (MS)} (H72 : ∀ (h : MS) (x1 : Int32) (x2 : Int32) (x3 : Int32) (x4 : Int32) (x5 : Int32), ∀ (H : Heap) (locs : List Loc) (ls : Array Slot), k72 h x1 x2 x3 x4 x5 = some hz → CE (EM D aC ad h) (Rg ad) s H locs → lv_has ls 8 [(0, .ref (ad 116)), (1, .int x1), (2, .int x2), (3, .int x3), (4, .int x4), (5, .int x5)] → W p l e (RM 6 159 0 0) s m args below meth c H locs 0 0 (MQ below (PQ (EM D aC ad hz) (Rg ad) none) args s 0 0 (Rg ad)) (F0 m 72 ls [])) {h : MS} {x1 : Int32} {x2 : Int32} {x3 : Int32} {x4 : Int32} {x5 : Int32}  {H : Heap} {locs : List Loc} {ls : Array Slot} (hf : fX12_instantiates_72F k2 k72 h x1 x2 x3 x4 x5 = some hz) (hE : CE (EM D aC ad h) (Rg ad) s H locs) (hl : lv_has ls 8 [(0, .ref (ad 116)), (1, .int x1), (2, .int x2), (3, .int x3), (4, .int x4), (5, .int x5)]) : W p l e (RM 6 159 0 0) s m args below meth c H locs 0 0 (MQ below (PQ (EM D aC ad hz) (Rg ad) none) args s 0 0 (Rg ad)) (F0 m 72 ls []) := by
  unfold fX12_instantiates_72F at hf
  refine lv_iload b.1 b.2.1 dX12_instantiates_72 (lv_at hl 5 rfl) ?_
  refine lv_aload_n b.1 b.2.1 dX12_instantiates_74 rfl (lv_at hl 0 rfl) ?_
  refine lv_iload_n b.1 b.2.1 dX12_instantiates_75 rfl (lv_at hl 3 rfl) ?_
  obtain ⟨r31, hc30, hf⟩ := oB_s hf
  refine k_callV0 (C := RX12) b zs zk hE (CX12_instances l D aC ad zk hc30) mc_X12_instances (in8 9 rfl rfl) mi_X12_instances ms_X12_instances ini_RX12 ok_X12_instances (m_recv b hE) ⟨Nat.le_of_ble_eq_true rfl, Nat.le_of_ble_eq_true rfl⟩ rfl hl.1 rfl (k_room _ (by exact Nat.le_of_ble_eq_true rfl)) ⟨Nat.le_refl _, Nat.le_refl _⟩ dX12_instantiates_76 (fun H locs hE => ?_)
  refine lv_icmp_ge (tgt := 251) b.1 b.2.1 dX12_instantiates_79 (by decide) (fun c32 => ?_) (fun c32 => ?_)
  · have hf := oI_t c32 hf
    obtain ⟨y33, ey33, hf⟩ := oL_s hf
    refine lv_iinc (v := y33) (lv' := [(3, .int y33), (0, .ref (ad 116)), (1, .int x1), (2, .int x2), (4, .int x4), (5, .int x5)]) b.1 b.2.1 dX12_instantiates_251 hl (k := 3) rfl (by rw [ey33]; rfl) (by decide) rfl (fun ls hl => ?_)
    refine lv_goto (tgt := 2) b.1 b.2.1 dX12_instantiates_254 (by decide) ?_
    exact H2 h x1 x2 y33 _ _ _ hf hE (lv_sub hl [1, 2, 3, 0] rfl)
  · have hf := oI_f c32 hf
    refine lv_bipush (v := 125) b.1 b.2.1 dX12_instantiates_82 (by decide) ?_
    refine lv_iload_n b.1 b.2.1 dX12_instantiates_84 rfl (lv_at hl 3 rfl) ?_
    refine lv_imul b.1 b.2.1 dX12_instantiates_85 ?_
    refine lv_iload b.1 b.2.1 dX12_instantiates_86 (lv_at hl 5 rfl) ?_
    refine lv_iadd b.1 b.2.1 dX12_instantiates_88 ?_
    obtain ⟨y34, ey34, hf⟩ := oL_s hf
    refine k_nmI ey34 ?_
    refine lv_istore (lv' := [(6, .int y34), (0, .ref (ad 116)), (1, .int x1), (2, .int x2), (3, .int x3), (4, .int x4), (5, .int x5)]) b.1 b.2.1 dX12_instantiates_89 hl (by decide) rfl (fun ls hl => ?_)
    refine lv_aload_n b.1 b.2.1 dX12_instantiates_91 rfl (lv_at hl 1 rfl) ?_
    refine lv_iload_n b.1 b.2.1 dX12_instantiates_92 rfl (lv_at hl 4 rfl) ?_
    refine lv_iload b.1 b.2.1 dX12_instantiates_93 (lv_at hl 6 rfl) ?_
    obtain ⟨h36, hc35, hf⟩ := oB_s hf
    refine k_callV0 (C := RX12) b zs zk hE (CX12_gives l D aC ad zk hc35) mc_X12_gives (in8 13 rfl rfl) mi_X12_gives ms_X12_gives ini_RX12 ok_X12_gives (m_recv b hE) ⟨Nat.le_of_ble_eq_true rfl, Nat.le_of_ble_eq_true rfl⟩ rfl hl.1 rfl (k_room _ (by exact Nat.le_of_ble_eq_true rfl)) ⟨Nat.le_refl _, Nat.le_refl _⟩ dX12_instantiates_95 (fun H locs hE => ?_)
    refine lv_aload_n b.1 b.2.1 dX12_instantiates_98 rfl (lv_at hl 1 rfl) ?_
    refine gM_183 b hE dX12_instantiates_99 ?_
    refine lv_iload b.1 b.2.1 dX12_instantiates_102 (lv_at hl 0 rfl) ?_
    refine lv_iload b.1 b.2.1 dX12_instantiates_104 (lv_at hl 5 rfl) ?_
    refine lv_if_eq (tgt := 121) b.1 b.2.1 dX12_instantiates_106 (by decide) (fun c37 => ?_) (fun c37 => ?_)
    · have hf := oI_t c37 hf
      refine lv_iconst (v := 0) b.1 b.2.1 dX12_instantiates_121 (by decide) ?_
      exact wfX12_instantiates_122 b hlk hr zs zk H2 H72 hf hE (lv_sub hl [1, 2, 3, 4, 5, 6, 0] rfl)
    · have hf := oI_f c37 hf
      refine lv_aload_n b.1 b.2.1 dX12_instantiates_109 rfl (lv_at hl 1 rfl) ?_
      refine lv_iload_n b.1 b.2.1 dX12_instantiates_110 rfl (lv_at hl 4 rfl) ?_
      obtain ⟨h40, r39, hc38, hf⟩ := oB2_s hf
      refine k_callV0 (C := RX12) b zs zk hE (CX12_standing l D aC ad zk hc38) mc_X12_standing (in8 17 rfl rfl) mi_X12_standing ms_X12_standing ini_RX12 ok_X12_standing (m_recv b hE) ⟨Nat.le_of_ble_eq_true rfl, Nat.le_of_ble_eq_true rfl⟩ rfl hl.1 rfl (k_room _ (by exact Nat.le_of_ble_eq_true rfl)) ⟨Nat.le_refl _, Nat.le_refl _⟩ dX12_instantiates_111 (fun H locs hE => ?_)
      refine lv_if_eq (tgt := 121) b.1 b.2.1 dX12_instantiates_114 (by decide) (fun c41 => ?_) (fun c41 => ?_)
      · have hf := oI_t c41 hf
        refine lv_iconst (v := 0) b.1 b.2.1 dX12_instantiates_121 (by decide) ?_
        exact wfX12_instantiates_122 b hlk hr zs zk H2 H72 hf hE (lv_sub hl [1, 2, 3, 4, 5, 6, 0] rfl)
      · have hf := oI_f c41 hf
        refine lv_iconst (v := 1) b.1 b.2.1 dX12_instantiates_117 (by decide) ?_
        refine lv_goto (tgt := 122) b.1 b.2.1 dX12_instantiates_118 (by decide) ?_
        exact wfX12_instantiates_122 b hlk hr zs zk H2 H72 hf hE (lv_sub hl [1, 2, 3, 4, 5, 6, 0] rfl)
def fX12_instantiates_72 (k2 : MS → Int32 → Int32 → Int32 → Option (MS)) : Nat → MS → Int32 → Int32 → Int32 → Int32 → Int32 → Option (MS)
  | 0 => fun _ _ _ _ _ _ => none
  | n + 1 => fX12_instantiates_72F k2 (fX12_instantiates_72 k2 n)
set_option maxHeartbeats 4000000 in
theorem wfX12_instantiates_72 {args : Array Value} (b : Bd p s m c cX12_instantiates 8 RX12 D aC) (hlk : meth.locks = false) (hr : meth.sig.returnType = none) {Z : State → Prop} (zs : Z s) (zk : ZOK Z (Rg ad)) {hz : MS} {k2 : MS → Int32 → Int32 → Int32 → Option (MS)} (H2 : ∀ (h : MS) (x1 : Int32) (x2 : Int32) (x3 : Int32), ∀ (H : Heap) (locs : List Loc) (ls : Array Slot), k2 h x1 x2 x3 = some hz → CE (EM D aC ad h) (Rg ad) s H locs → lv_has ls 8 [(0, .ref (ad 116)), (1, .int x1), (2, .int x2), (3, .int x3)] → W p l e (RM 6 159 0 0) s m args below meth c H locs 0 0 (MQ below (PQ (EM D aC ad hz) (Rg ad) none) args s 0 0 (Rg ad)) (F0 m 2 ls [])) : ∀ n : Nat, ∀ (h : MS) (x1 : Int32) (x2 : Int32) (x3 : Int32) (x4 : Int32) (x5 : Int32), ∀ (H : Heap) (locs : List Loc) (ls : Array Slot), fX12_instantiates_72 k2 n h x1 x2 x3 x4 x5 = some hz → CE (EM D aC ad h) (Rg ad) s H locs → lv_has ls 8 [(0, .ref (ad 116)), (1, .int x1), (2, .int x2), (3, .int x3), (4, .int x4), (5, .int x5)] → W p l e (RM 6 159 0 0) s m args below meth c H locs 0 0 (MQ below (PQ (EM D aC ad hz) (Rg ad) none) args s 0 0 (Rg ad)) (F0 m 72 ls []) := by
  intro n
  induction n with
  | zero =>
    intro h x1 x2 x3 x4 x5 H locs ls hf
    have hf : (none : Option (MS)) = some _ := hf
    cases hf
  | succ n ih =>
    intro h x1 x2 x3 x4 x5 H locs ls hf hE hl
    exact wfX12_instantiates_72F b hlk hr zs zk H2 ih hf hE hl
def fX12_instantiates_13F (k2 : MS → Int32 → Int32 → Int32 → Option (MS)) (k13 : MS → Int32 → Int32 → Int32 → Int32 → Option (MS)) (h : MS) (x1 : Int32) (x2 : Int32) (x3 : Int32) (x4 : Int32) : Option (MS) :=
  if (mI h 22) ≤ x4 then (oB (fX12_isInForce h x3 x1 x2) (fun r44 => fX12_instantiates_72 k2 FU h x1 x2 x3 r44 0)) else (oC (ix x3 (mlen 39)) (oC (ix x4 (mlen 39)) (oB (fX12_isHigher h (mA h 39 (Int32.toNatClampNeg x3)) (mA h 39 (Int32.toNatClampNeg x4)) x3 x4) (fun r48 => oC (isB r48) (oC (ix ((30 * x3) + x4) (mlen 94)) (oL (mSA h 94 (Int32.toNatClampNeg ((30 * x3) + x4)) r48) (fun h51 => oL (x4 + 1) (fun y52 => k13 h51 x1 x2 x3 y52))))))))
set_option maxHeartbeats 4000000 in
theorem wfX12_instantiates_13F {args : Array Value} (b : Bd p s m c cX12_instantiates 8 RX12 D aC) (hlk : meth.locks = false) (hr : meth.sig.returnType = none) {Z : State → Prop} (zs : Z s) (zk : ZOK Z (Rg ad)) {hz : MS} {k2 : MS → Int32 → Int32 → Int32 → Option (MS)} (H2 : ∀ (h : MS) (x1 : Int32) (x2 : Int32) (x3 : Int32), ∀ (H : Heap) (locs : List Loc) (ls : Array Slot), k2 h x1 x2 x3 = some hz → CE (EM D aC ad h) (Rg ad) s H locs → lv_has ls 8 [(0, .ref (ad 116)), (1, .int x1), (2, .int x2), (3, .int x3)] → W p l e (RM 6 159 0 0) s m args below meth c H locs 0 0 (MQ below (PQ (EM D aC ad hz) (Rg ad) none) args s 0 0 (Rg ad)) (F0 m 2 ls [])) {k13 : MS → Int32 → Int32 → Int32 → Int32 → Option (MS)} (H13 : ∀ (h : MS) (x1 : Int32) (x2 : Int32) (x3 : Int32) (x4 : Int32), ∀ (H : Heap) (locs : List Loc) (ls : Array Slot), k13 h x1 x2 x3 x4 = some hz → CE (EM D aC ad h) (Rg ad) s H locs → lv_has ls 8 [(0, .ref (ad 116)), (1, .int x1), (2, .int x2), (3, .int x3), (4, .int x4)] → W p l e (RM 6 159 0 0) s m args below meth c H locs 0 0 (MQ below (PQ (EM D aC ad hz) (Rg ad) none) args s 0 0 (Rg ad)) (F0 m 13 ls [])) {h : MS} {x1 : Int32} {x2 : Int32} {x3 : Int32} {x4 : Int32}  {H : Heap} {locs : List Loc} {ls : Array Slot} (hf : fX12_instantiates_13F k2 k13 h x1 x2 x3 x4 = some hz) (hE : CE (EM D aC ad h) (Rg ad) s H locs) (hl : lv_has ls 8 [(0, .ref (ad 116)), (1, .int x1), (2, .int x2), (3, .int x3), (4, .int x4)]) : W p l e (RM 6 159 0 0) s m args below meth c H locs 0 0 (MQ below (PQ (EM D aC ad hz) (Rg ad) none) args s 0 0 (Rg ad)) (F0 m 13 ls []) := by
  unfold fX12_instantiates_13F at hf
  refine lv_iload b.1 b.2.1 dX12_instantiates_13 (lv_at hl 4 rfl) ?_
  refine lv_aload_n b.1 b.2.1 dX12_instantiates_15 rfl (lv_at hl 0 rfl) ?_
  refine gM_350 b hE dX12_instantiates_16 ?_
  refine lv_icmp_ge (tgt := 60) b.1 b.2.1 dX12_instantiates_19 (by decide) (fun c42 => ?_) (fun c42 => ?_)
  · have hf := oI_t c42 hf
    refine lv_aload_n b.1 b.2.1 dX12_instantiates_60 rfl (lv_at hl 0 rfl) ?_
    refine lv_iload_n b.1 b.2.1 dX12_instantiates_61 rfl (lv_at hl 3 rfl) ?_
    refine lv_iload_n b.1 b.2.1 dX12_instantiates_62 rfl (lv_at hl 1 rfl) ?_
    refine lv_iload_n b.1 b.2.1 dX12_instantiates_63 rfl (lv_at hl 2 rfl) ?_
    obtain ⟨r44, hc43, hf⟩ := oB_s hf
    refine k_callV0 (C := RX12) b zs zk hE (CX12_isInForce l D aC ad zk hc43) mc_X12_isInForce (in8 5 rfl rfl) mi_X12_isInForce ms_X12_isInForce ini_RX12 ok_X12_isInForce (m_recv b hE) ⟨Nat.le_of_ble_eq_true rfl, Nat.le_of_ble_eq_true rfl⟩ rfl hl.1 rfl (k_room _ (by exact Nat.le_of_ble_eq_true rfl)) ⟨Nat.le_refl _, Nat.le_refl _⟩ dX12_instantiates_64 (fun H locs hE => ?_)
    refine lv_istore (lv' := [(4, .int r44), (0, .ref (ad 116)), (1, .int x1), (2, .int x2), (3, .int x3)]) b.1 b.2.1 dX12_instantiates_67 hl (by decide) rfl (fun ls hl => ?_)
    refine lv_iconst (v := 0) b.1 b.2.1 dX12_instantiates_69 (by decide) ?_
    refine lv_istore (lv' := [(5, .int 0), (4, .int r44), (0, .ref (ad 116)), (1, .int x1), (2, .int x2), (3, .int x3)]) b.1 b.2.1 dX12_instantiates_70 hl (by decide) rfl (fun ls hl => ?_)
    exact wfX12_instantiates_72 b hlk hr zs zk H2 FU h x1 x2 x3 r44 0 _ _ _ hf hE (lv_sub hl [2, 3, 4, 5, 1, 0] rfl)
  · have hf := oI_f c42 hf
    refine lv_aload_n b.1 b.2.1 dX12_instantiates_22 rfl (lv_at hl 0 rfl) ?_
    refine gM_213 b hE dX12_instantiates_23 ?_
    refine lv_bipush (v := 30) b.1 b.2.1 dX12_instantiates_26 (by decide) ?_
    refine lv_iload_n b.1 b.2.1 dX12_instantiates_28 rfl (lv_at hl 3 rfl) ?_
    refine lv_imul b.1 b.2.1 dX12_instantiates_29 ?_
    refine lv_iload b.1 b.2.1 dX12_instantiates_30 (lv_at hl 4 rfl) ?_
    refine lv_iadd b.1 b.2.1 dX12_instantiates_32 ?_
    refine lv_aload_n b.1 b.2.1 dX12_instantiates_33 rfl (lv_at hl 0 rfl) ?_
    refine lv_aload_n b.1 b.2.1 dX12_instantiates_34 rfl (lv_at hl 0 rfl) ?_
    refine gM_82 b hE dX12_instantiates_35 ?_
    refine lv_iload_n b.1 b.2.1 dX12_instantiates_38 rfl (lv_at hl 3 rfl) ?_
    obtain ⟨g45, hf⟩ := oC_s hf
    refine m_iald b hE rfl rfl g45 dX12_instantiates_39 ?_
    refine lv_aload_n b.1 b.2.1 dX12_instantiates_40 rfl (lv_at hl 0 rfl) ?_
    refine gM_82 b hE dX12_instantiates_41 ?_
    refine lv_iload b.1 b.2.1 dX12_instantiates_44 (lv_at hl 4 rfl) ?_
    obtain ⟨g46, hf⟩ := oC_s hf
    refine m_iald b hE rfl rfl g46 dX12_instantiates_46 ?_
    refine lv_iload_n b.1 b.2.1 dX12_instantiates_47 rfl (lv_at hl 3 rfl) ?_
    refine lv_iload b.1 b.2.1 dX12_instantiates_48 (lv_at hl 4 rfl) ?_
    obtain ⟨r48, hc47, hf⟩ := oB_s hf
    refine k_callV0 (C := RX12) b zs zk hE (CX12_isHigher l D aC ad zk hc47) mc_X12_isHigher (in7 229 rfl rfl) mi_X12_isHigher ms_X12_isHigher ini_RX12 ok_X12_isHigher (m_recv b hE) ⟨Nat.le_of_ble_eq_true rfl, Nat.le_of_ble_eq_true rfl⟩ rfl hl.1 rfl (k_room _ (by exact Nat.le_of_ble_eq_true rfl)) ⟨Nat.le_refl _, Nat.le_refl _⟩ dX12_instantiates_50 (fun H locs hE => ?_)
    obtain ⟨g49, hf⟩ := oC_s hf
    obtain ⟨g50, hf⟩ := oC_s hf
    obtain ⟨h51, eh51, hf⟩ := oL_s hf
    refine n_zast b hE g49 rfl rfl g50 eh51 dX12_instantiates_53 (fun H locs hE => ?_)
    obtain ⟨y52, ey52, hf⟩ := oL_s hf
    refine lv_iinc (v := y52) (lv' := [(4, .int y52), (0, .ref (ad 116)), (1, .int x1), (2, .int x2), (3, .int x3)]) b.1 b.2.1 dX12_instantiates_54 hl (k := 4) rfl (by rw [ey52]; rfl) (by decide) rfl (fun ls hl => ?_)
    refine lv_goto (tgt := 13) b.1 b.2.1 dX12_instantiates_57 (by decide) ?_
    exact H13 h51 x1 x2 x3 y52 _ _ _ hf hE (lv_sub hl [1, 2, 3, 4, 0] rfl)
def fX12_instantiates_13 (k2 : MS → Int32 → Int32 → Int32 → Option (MS)) : Nat → MS → Int32 → Int32 → Int32 → Int32 → Option (MS)
  | 0 => fun _ _ _ _ _ => none
  | n + 1 => fX12_instantiates_13F k2 (fX12_instantiates_13 k2 n)
set_option maxHeartbeats 4000000 in
theorem wfX12_instantiates_13 {args : Array Value} (b : Bd p s m c cX12_instantiates 8 RX12 D aC) (hlk : meth.locks = false) (hr : meth.sig.returnType = none) {Z : State → Prop} (zs : Z s) (zk : ZOK Z (Rg ad)) {hz : MS} {k2 : MS → Int32 → Int32 → Int32 → Option (MS)} (H2 : ∀ (h : MS) (x1 : Int32) (x2 : Int32) (x3 : Int32), ∀ (H : Heap) (locs : List Loc) (ls : Array Slot), k2 h x1 x2 x3 = some hz → CE (EM D aC ad h) (Rg ad) s H locs → lv_has ls 8 [(0, .ref (ad 116)), (1, .int x1), (2, .int x2), (3, .int x3)] → W p l e (RM 6 159 0 0) s m args below meth c H locs 0 0 (MQ below (PQ (EM D aC ad hz) (Rg ad) none) args s 0 0 (Rg ad)) (F0 m 2 ls [])) : ∀ n : Nat, ∀ (h : MS) (x1 : Int32) (x2 : Int32) (x3 : Int32) (x4 : Int32), ∀ (H : Heap) (locs : List Loc) (ls : Array Slot), fX12_instantiates_13 k2 n h x1 x2 x3 x4 = some hz → CE (EM D aC ad h) (Rg ad) s H locs → lv_has ls 8 [(0, .ref (ad 116)), (1, .int x1), (2, .int x2), (3, .int x3), (4, .int x4)] → W p l e (RM 6 159 0 0) s m args below meth c H locs 0 0 (MQ below (PQ (EM D aC ad hz) (Rg ad) none) args s 0 0 (Rg ad)) (F0 m 13 ls []) := by
  intro n
  induction n with
  | zero =>
    intro h x1 x2 x3 x4 H locs ls hf
    have hf : (none : Option (MS)) = some _ := hf
    cases hf
  | succ n ih =>
    intro h x1 x2 x3 x4 H locs ls hf hE hl
    exact wfX12_instantiates_13F b hlk hr zs zk H2 ih hf hE hl
def fX12_instantiates_2F (k2 : MS → Int32 → Int32 → Int32 → Option (MS)) (h : MS) (x1 : Int32) (x2 : Int32) (x3 : Int32) : Option (MS) :=
  if (mI h 22) ≤ x3 then (some (h)) else (fX12_instantiates_13 k2 FU h x1 x2 x3 0)
set_option maxHeartbeats 4000000 in
theorem wfX12_instantiates_2F {args : Array Value} (b : Bd p s m c cX12_instantiates 8 RX12 D aC) (hlk : meth.locks = false) (hr : meth.sig.returnType = none) {Z : State → Prop} (zs : Z s) (zk : ZOK Z (Rg ad)) {hz : MS} {k2 : MS → Int32 → Int32 → Int32 → Option (MS)} (H2 : ∀ (h : MS) (x1 : Int32) (x2 : Int32) (x3 : Int32), ∀ (H : Heap) (locs : List Loc) (ls : Array Slot), k2 h x1 x2 x3 = some hz → CE (EM D aC ad h) (Rg ad) s H locs → lv_has ls 8 [(0, .ref (ad 116)), (1, .int x1), (2, .int x2), (3, .int x3)] → W p l e (RM 6 159 0 0) s m args below meth c H locs 0 0 (MQ below (PQ (EM D aC ad hz) (Rg ad) none) args s 0 0 (Rg ad)) (F0 m 2 ls [])) {h : MS} {x1 : Int32} {x2 : Int32} {x3 : Int32}  {H : Heap} {locs : List Loc} {ls : Array Slot} (hf : fX12_instantiates_2F k2 h x1 x2 x3 = some hz) (hE : CE (EM D aC ad h) (Rg ad) s H locs) (hl : lv_has ls 8 [(0, .ref (ad 116)), (1, .int x1), (2, .int x2), (3, .int x3)]) : W p l e (RM 6 159 0 0) s m args below meth c H locs 0 0 (MQ below (PQ (EM D aC ad hz) (Rg ad) none) args s 0 0 (Rg ad)) (F0 m 2 ls []) := by
  unfold fX12_instantiates_2F at hf
  refine lv_iload_n b.1 b.2.1 dX12_instantiates_2 rfl (lv_at hl 3 rfl) ?_
  refine lv_aload_n b.1 b.2.1 dX12_instantiates_3 rfl (lv_at hl 0 rfl) ?_
  refine gM_350 b hE dX12_instantiates_4 ?_
  refine lv_icmp_ge (tgt := 257) b.1 b.2.1 dX12_instantiates_7 (by decide) (fun c53 => ?_) (fun c53 => ?_)
  · have hf := oI_t c53 hf
    cases hf
    exact k_vret b hlk hr hE (Nat.le_refl _) (Nat.le_refl _) dX12_instantiates_257
  · have hf := oI_f c53 hf
    refine lv_iconst (v := 0) b.1 b.2.1 dX12_instantiates_10 (by decide) ?_
    refine lv_istore (lv' := [(4, .int 0), (0, .ref (ad 116)), (1, .int x1), (2, .int x2), (3, .int x3)]) b.1 b.2.1 dX12_instantiates_11 hl (by decide) rfl (fun ls hl => ?_)
    exact wfX12_instantiates_13 b hlk hr zs zk H2 FU h x1 x2 x3 0 _ _ _ hf hE (lv_sub hl [1, 2, 3, 4, 0] rfl)
def fX12_instantiates_2  : Nat → MS → Int32 → Int32 → Int32 → Option (MS)
  | 0 => fun _ _ _ _ => none
  | n + 1 => fX12_instantiates_2F  (fX12_instantiates_2  n)
set_option maxHeartbeats 4000000 in
theorem wfX12_instantiates_2 {args : Array Value} (b : Bd p s m c cX12_instantiates 8 RX12 D aC) (hlk : meth.locks = false) (hr : meth.sig.returnType = none) {Z : State → Prop} (zs : Z s) (zk : ZOK Z (Rg ad)) {hz : MS} : ∀ n : Nat, ∀ (h : MS) (x1 : Int32) (x2 : Int32) (x3 : Int32), ∀ (H : Heap) (locs : List Loc) (ls : Array Slot), fX12_instantiates_2  n h x1 x2 x3 = some hz → CE (EM D aC ad h) (Rg ad) s H locs → lv_has ls 8 [(0, .ref (ad 116)), (1, .int x1), (2, .int x2), (3, .int x3)] → W p l e (RM 6 159 0 0) s m args below meth c H locs 0 0 (MQ below (PQ (EM D aC ad hz) (Rg ad) none) args s 0 0 (Rg ad)) (F0 m 2 ls []) := by
  intro n
  induction n with
  | zero =>
    intro h x1 x2 x3 H locs ls hf
    have hf : (none : Option (MS)) = some _ := hf
    cases hf
  | succ n ih =>
    intro h x1 x2 x3 H locs ls hf hE hl
    exact wfX12_instantiates_2F b hlk hr zs zk  ih hf hE hl
def fX12_instantiates_0  (h : MS) (x1 : Int32) (x2 : Int32) : Option (MS) :=
  fX12_instantiates_2  FU h x1 x2 0
set_option maxHeartbeats 4000000 in
theorem wfX12_instantiates_0 {args : Array Value} (b : Bd p s m c cX12_instantiates 8 RX12 D aC) (hlk : meth.locks = false) (hr : meth.sig.returnType = none) {Z : State → Prop} (zs : Z s) (zk : ZOK Z (Rg ad)) {hz : MS} {h : MS} {x1 : Int32} {x2 : Int32}  {H : Heap} {locs : List Loc} {ls : Array Slot} (hf : fX12_instantiates_0 h x1 x2 = some hz) (hE : CE (EM D aC ad h) (Rg ad) s H locs) (hl : lv_has ls 8 [(0, .ref (ad 116)), (1, .int x1), (2, .int x2)]) : W p l e (RM 6 159 0 0) s m args below meth c H locs 0 0 (MQ below (PQ (EM D aC ad hz) (Rg ad) none) args s 0 0 (Rg ad)) (F0 m 0 ls []) := by
  unfold fX12_instantiates_0 at hf
  refine lv_iconst (v := 0) b.1 b.2.1 dX12_instantiates_0 (by decide) ?_
  refine lv_istore_n (lv' := [(3, .int 0), (0, .ref (ad 116)), (1, .int x1), (2, .int x2)]) b.1 b.2.1 dX12_instantiates_1 rfl hl (by decide) rfl (fun ls hl => ?_)
  exact wfX12_instantiates_2 b hlk hr zs zk  FU h x1 x2 0 _ _ _ hf hE (lv_sub hl [1, 2, 3, 0] rfl)
def fX12_instantiates (h : MS) (x1 : Int32) (x2 : Int32) : Option (MS) := fX12_instantiates_0 h x1 x2
set_option maxHeartbeats 4000000 in
theorem CX12_instantiates (l : Launch) (D : va_G) (aC : Nat → ClassId) (ad : Nat → Nat) {Z : State → Prop} (zk : ZOK Z (Rg ad)) {h : MS} {x1 : Int32} {x2 : Int32} {hz : MS} (hf : fX12_instantiates h x1 x2 = some hz) : CM l D aC Z yX12_instantiates cX12_instantiates 8 (none) 6 159 0 0 (EM D aC ad h) [.ref (ad 116), .int x1, .int x2] (EM D aC ad hz) none (Rg ad) := by
  refine CM.of rfl ?_
  intro p e s m below meth c b hr hlk hin2 zs hE
  refine k_ent (Nat.le_of_ble_eq_true rfl) (fun ls hl => ?_)
  exact wfX12_instantiates_0 b hlk hr zs zk hf hE (lv_sub hl [0, 1, 2] rfl)
end
