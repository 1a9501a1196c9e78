section
variable {p : Program} {l : Launch} {e : Env} {s : State} {m : MethodId} {below : List Frame} {meth : Method} {c : Code} {D : va_G} {aC : Nat → ClassId} {ad : Nat → Nat}
theorem dX12_text_0 : decode cX12_text 0 = .ok (.aload_n 0, 1) := by decide +kernel
theorem dX12_text_1 : decode cX12_text 1 = .ok (.getfield 515, 3) := by decide +kernel
theorem dX12_text_4 : decode cX12_text 4 = .ok (.ifCond .ne 5, 3) := by decide +kernel
theorem dX12_text_7 : decode cX12_text 7 = .ok (.iconst (-1), 1) := by decide +kernel
theorem dX12_text_8 : decode cX12_text 8 = .ok (.ireturn, 1) := by decide +kernel
theorem dX12_text_9 : decode cX12_text 9 = .ok (.aload_n 0, 1) := by decide +kernel
theorem dX12_text_10 : decode cX12_text 10 = .ok (.iconst 0, 1) := by decide +kernel
theorem dX12_text_11 : decode cX12_text 11 = .ok (.putfield 567, 3) := by decide +kernel
theorem dX12_text_14 : decode cX12_text 14 = .ok (.iconst 0, 1) := by decide +kernel
theorem dX12_text_15 : decode cX12_text 15 = .ok (.istore_n 1, 1) := by decide +kernel
theorem dX12_text_16 : decode cX12_text 16 = .ok (.iload_n 1, 1) := by decide +kernel
theorem dX12_text_17 : decode cX12_text 17 = .ok (.bipush 50, 2) := by decide +kernel
theorem dX12_text_19 : decode cX12_text 19 = .ok (.aload_n 0, 1) := by decide +kernel
theorem dX12_text_20 : decode cX12_text 20 = .ok (.getfield 509, 3) := by decide +kernel
theorem dX12_text_23 : decode cX12_text 23 = .ok (.imul, 1) := by decide +kernel
theorem dX12_text_24 : decode cX12_text 24 = .ok (.if_icmp .ge 14, 3) := by decide +kernel
theorem dX12_text_27 : decode cX12_text 27 = .ok (.aload_n 0, 1) := by decide +kernel
theorem dX12_text_28 : decode cX12_text 28 = .ok (.iload_n 1, 1) := by decide +kernel
theorem dX12_text_29 : decode cX12_text 29 = .ok (.invokevirtual 577, 3) := by decide +kernel
theorem dX12_text_32 : decode cX12_text 32 = .ok (.iinc 1 1, 3) := by decide +kernel
theorem dX12_text_35 : decode cX12_text 35 = .ok (.goto (-19), 3) := by decide +kernel
theorem dX12_text_38 : decode cX12_text 38 = .ok (.iconst 0, 1) := by decide +kernel
theorem dX12_text_39 : decode cX12_text 39 = .ok (.istore_n 1, 1) := by decide +kernel
theorem dX12_text_40 : decode cX12_text 40 = .ok (.iload_n 1, 1) := by decide +kernel
theorem dX12_text_41 : decode cX12_text 41 = .ok (.aload_n 0, 1) := by decide +kernel
theorem dX12_text_42 : decode cX12_text 42 = .ok (.getfield 512, 3) := by decide +kernel
theorem dX12_text_45 : decode cX12_text 45 = .ok (.if_icmp .ge 152, 3) := by decide +kernel
theorem dX12_text_48 : decode cX12_text 48 = .ok (.iconst 0, 1) := by decide +kernel
theorem dX12_text_49 : decode cX12_text 49 = .ok (.istore_n 2, 1) := by decide +kernel
theorem dX12_text_50 : decode cX12_text 50 = .ok (.iload_n 2, 1) := by decide +kernel
theorem dX12_text_51 : decode cX12_text 51 = .ok (.aload_n 0, 1) := by decide +kernel
theorem dX12_text_52 : decode cX12_text 52 = .ok (.getfield 506, 3) := by decide +kernel
theorem dX12_text_55 : decode cX12_text 55 = .ok (.if_icmp .ge 136, 3) := by decide +kernel
theorem dX12_text_58 : decode cX12_text 58 = .ok (.iconst 5, 1) := by decide +kernel
theorem dX12_text_59 : decode cX12_text 59 = .ok (.iload_n 1, 1) := by decide +kernel
theorem dX12_text_60 : decode cX12_text 60 = .ok (.imul, 1) := by decide +kernel
theorem dX12_text_61 : decode cX12_text 61 = .ok (.iload_n 2, 1) := by decide +kernel
theorem dX12_text_62 : decode cX12_text 62 = .ok (.iadd, 1) := by decide +kernel
theorem dX12_text_63 : decode cX12_text 63 = .ok (.istore_n 3, 1) := by decide +kernel
theorem dX12_text_64 : decode cX12_text 64 = .ok (.aload_n 0, 1) := by decide +kernel
theorem dX12_text_65 : decode cX12_text 65 = .ok (.getfield 237, 3) := by decide +kernel
theorem dX12_text_68 : decode cX12_text 68 = .ok (.iload_n 3, 1) := by decide +kernel
theorem dX12_text_69 : decode cX12_text 69 = .ok (.iaload, 1) := by decide +kernel
theorem dX12_text_70 : decode cX12_text 70 = .ok (.ifCond .ne 6, 3) := by decide +kernel
theorem dX12_text_73 : decode cX12_text 73 = .ok (.goto 112, 3) := by decide +kernel
theorem dX12_text_76 : decode cX12_text 76 = .ok (.aload_n 0, 1) := by decide +kernel
theorem dX12_text_77 : decode cX12_text 77 = .ok (.aload_n 0, 1) := by decide +kernel
theorem dX12_text_78 : decode cX12_text 78 = .ok (.getfield 52, 3) := by decide +kernel
theorem dX12_text_81 : decode cX12_text 81 = .ok (.iload_n 1, 1) := by decide +kernel
theorem dX12_text_82 : decode cX12_text 82 = .ok (.laload, 1) := by decide +kernel
theorem dX12_text_83 : decode cX12_text 83 = .ok (.invokevirtual 580, 3) := by decide +kernel
theorem dX12_text_86 : decode cX12_text 86 = .ok (.aload_n 0, 1) := by decide +kernel
theorem dX12_text_87 : decode cX12_text 87 = .ok (.bipush 40, 2) := by decide +kernel
theorem dX12_text_89 : decode cX12_text 89 = .ok (.invokevirtual 570, 3) := by decide +kernel
theorem dX12_text_92 : decode cX12_text 92 = .ok (.aload_n 0, 1) := by decide +kernel
theorem dX12_text_93 : decode cX12_text 93 = .ok (.aload_n 0, 1) := by decide +kernel
theorem dX12_text_94 : decode cX12_text 94 = .ok (.getfield 40, 3) := by decide +kernel
theorem dX12_text_97 : decode cX12_text 97 = .ok (.iload_n 2, 1) := by decide +kernel
theorem dX12_text_98 : decode cX12_text 98 = .ok (.laload, 1) := by decide +kernel
theorem dX12_text_99 : decode cX12_text 99 = .ok (.invokevirtual 580, 3) := by decide +kernel
theorem dX12_text_102 : decode cX12_text 102 = .ok (.aload_n 0, 1) := by decide +kernel
theorem dX12_text_103 : decode cX12_text 103 = .ok (.bipush 41, 2) := by decide +kernel
theorem dX12_text_105 : decode cX12_text 105 = .ok (.invokevirtual 570, 3) := by decide +kernel
theorem dX12_text_108 : decode cX12_text 108 = .ok (.aload_n 0, 1) := by decide +kernel
theorem dX12_text_109 : decode cX12_text 109 = .ok (.bipush 32, 2) := by decide +kernel
theorem dX12_text_111 : decode cX12_text 111 = .ok (.invokevirtual 570, 3) := by decide +kernel
theorem dX12_text_114 : decode cX12_text 114 = .ok (.aload_n 0, 1) := by decide +kernel
theorem dX12_text_115 : decode cX12_text 115 = .ok (.getfield 240, 3) := by decide +kernel
theorem dX12_text_118 : decode cX12_text 118 = .ok (.iload_n 3, 1) := by decide +kernel
theorem dX12_text_119 : decode cX12_text 119 = .ok (.baload, 1) := by decide +kernel
theorem dX12_text_120 : decode cX12_text 120 = .ok (.ifCond .eq 22, 3) := by decide +kernel
theorem dX12_text_123 : decode cX12_text 123 = .ok (.aload_n 0, 1) := by decide +kernel
theorem dX12_text_124 : decode cX12_text 124 = .ok (.bipush 98, 2) := by decide +kernel
theorem dX12_text_126 : decode cX12_text 126 = .ok (.bipush 114, 2) := by decide +kernel
theorem dX12_text_128 : decode cX12_text 128 = .ok (.bipush 111, 2) := by decide +kernel
theorem dX12_text_130 : decode cX12_text 130 = .ok (.bipush 107, 2) := by decide +kernel
theorem dX12_text_132 : decode cX12_text 132 = .ok (.bipush 101, 2) := by decide +kernel
theorem dX12_text_134 : decode cX12_text 134 = .ok (.bipush 110, 2) := by decide +kernel
theorem dX12_text_136 : decode cX12_text 136 = .ok (.invokevirtual 584, 3) := by decide +kernel
theorem dX12_text_139 : decode cX12_text 139 = .ok (.goto 40, 3) := by decide +kernel
theorem dX12_text_142 : decode cX12_text 142 = .ok (.aload_n 0, 1) := by decide +kernel
theorem dX12_text_143 : decode cX12_text 143 = .ok (.aload_n 0, 1) := by decide +kernel
theorem dX12_text_144 : decode cX12_text 144 = .ok (.getfield 231, 3) := by decide +kernel
theorem dX12_text_147 : decode cX12_text 147 = .ok (.iload_n 3, 1) := by decide +kernel
theorem dX12_text_148 : decode cX12_text 148 = .ok (.laload, 1) := by decide +kernel
theorem dX12_text_149 : decode cX12_text 149 = .ok (.invokevirtual 588, 3) := by decide +kernel
theorem dX12_text_152 : decode cX12_text 152 = .ok (.aload_n 0, 1) := by decide +kernel
theorem dX12_text_153 : decode cX12_text 153 = .ok (.getfield 234, 3) := by decide +kernel
theorem dX12_text_156 : decode cX12_text 156 = .ok (.iload_n 3, 1) := by decide +kernel
theorem dX12_text_157 : decode cX12_text 157 = .ok (.laload, 1) := by decide +kernel
theorem dX12_text_158 : decode cX12_text 158 = .ok (.lconst 1, 1) := by decide +kernel
theorem dX12_text_159 : decode cX12_text 159 = .ok (.lcmp, 1) := by decide +kernel
theorem dX12_text_160 : decode cX12_text 160 = .ok (.ifCond .le 19, 3) := by decide +kernel
theorem dX12_text_163 : decode cX12_text 163 = .ok (.aload_n 0, 1) := by decide +kernel
theorem dX12_text_164 : decode cX12_text 164 = .ok (.bipush 47, 2) := by decide +kernel
theorem dX12_text_166 : decode cX12_text 166 = .ok (.invokevirtual 570, 3) := by decide +kernel
theorem dX12_text_169 : decode cX12_text 169 = .ok (.aload_n 0, 1) := by decide +kernel
theorem dX12_text_170 : decode cX12_text 170 = .ok (.aload_n 0, 1) := by decide +kernel
theorem dX12_text_171 : decode cX12_text 171 = .ok (.getfield 234, 3) := by decide +kernel
theorem dX12_text_174 : decode cX12_text 174 = .ok (.iload_n 3, 1) := by decide +kernel
theorem dX12_text_175 : decode cX12_text 175 = .ok (.laload, 1) := by decide +kernel
theorem dX12_text_176 : decode cX12_text 176 = .ok (.invokevirtual 588, 3) := by decide +kernel
theorem dX12_text_179 : decode cX12_text 179 = .ok (.aload_n 0, 1) := by decide +kernel
theorem dX12_text_180 : decode cX12_text 180 = .ok (.bipush 10, 2) := by decide +kernel
theorem dX12_text_182 : decode cX12_text 182 = .ok (.invokevirtual 570, 3) := by decide +kernel
theorem dX12_text_185 : decode cX12_text 185 = .ok (.iinc 2 1, 3) := by decide +kernel
theorem dX12_text_188 : decode cX12_text 188 = .ok (.goto (-138), 3) := by decide +kernel
theorem dX12_text_191 : decode cX12_text 191 = .ok (.iinc 1 1, 3) := by decide +kernel
theorem dX12_text_194 : decode cX12_text 194 = .ok (.goto (-154), 3) := by decide +kernel
theorem dX12_text_197 : decode cX12_text 197 = .ok (.aload_n 0, 1) := by decide +kernel
theorem dX12_text_198 : decode cX12_text 198 = .ok (.getfield 567, 3) := by decide +kernel
theorem dX12_text_201 : decode cX12_text 201 = .ok (.ireturn, 1) := by decide +kernel
def fX12_text_185 (k40 : MS → Int32 → Option (MS × Int32)) (k50 : MS → Int32 → Int32 → Option (MS × Int32)) (h : MS) (x1 : Int32) (x2 : Int32) : Option (MS × Int32) :=
  oL (x2 + 1) (fun y1 => k50 h x1 y1)
set_option maxHeartbeats 4000000 in
theorem wfX12_text_185 {args : Array Value} (b : Bd p s m c cX12_text 4 RX12 D aC) (hlk : meth.locks = false) (hr : meth.sig.returnType = some .int) {Z : State → Prop} (zs : Z s) (zk : ZOK Z (Rg ad)) {hz : MS} {rz : Int32} {k40 : MS → Int32 → Option (MS × Int32)} (H40 : ∀ (h : MS) (x1 : Int32), ∀ (H : Heap) (locs : List Loc) (ls : Array Slot), k40 h x1 = some (hz, rz) → CE (EM D aC ad h) (Rg ad) s H locs → lv_has ls 4 [(0, .ref (ad 116)), (1, .int x1)] → W p l e (RM 3 73 0 0) s m args below meth c H locs 0 0 (MQ below (PQ (EM D aC ad hz) (Rg ad) (some (.int rz))) args s 0 0 (Rg ad)) (F0 m 40 ls [])) {k50 : MS → Int32 → Int32 → Option (MS × Int32)} (H50 : ∀ (h : MS) (x1 : Int32) (x2 : Int32), ∀ (H : Heap) (locs : List Loc) (ls : Array Slot), k50 h x1 x2 = some (hz, rz) → CE (EM D aC ad h) (Rg ad) s H locs → lv_has ls 4 [(0, .ref (ad 116)), (1, .int x1), (2, .int x2)] → W p l e (RM 3 73 0 0) s m args below meth c H locs 0 0 (MQ below (PQ (EM D aC ad hz) (Rg ad) (some (.int rz))) args s 0 0 (Rg ad)) (F0 m 50 ls [])) {h : MS} {x1 : Int32} {x2 : Int32}  {H : Heap} {locs : List Loc} {ls : Array Slot} (hf : fX12_text_185 k40 k50 h x1 x2 = some (hz, rz)) (hE : CE (EM D aC ad h) (Rg ad) s H locs) (hl : lv_has ls 4 [(0, .ref (ad 116)), (1, .int x1), (2, .int x2)]) : W p l e (RM 3 73 0 0) s m args below meth c H locs 0 0 (MQ below (PQ (EM D aC ad hz) (Rg ad) (some (.int rz))) args s 0 0 (Rg ad)) (F0 m 185 ls []) := by
  unfold fX12_text_185 at hf
  obtain ⟨y1, ey1, hf⟩ := oL_s hf
  refine lv_iinc (v := y1) (lv' := [(2, .int y1), (0, .ref (ad 116)), (1, .int x1)]) b.1 b.2.1 dX12_text_185 hl (k := 2) rfl (by rw [ey1]; rfl) (by decide) rfl (fun ls hl => ?_)
  refine lv_goto (tgt := 50) b.1 b.2.1 dX12_text_188 (by decide) ?_
  exact H50 h x1 y1 _ _ _ hf hE (lv_sub hl [1, 2, 0] rfl)
def fX12_text_179 (k40 : MS → Int32 → Option (MS × Int32)) (k50 : MS → Int32 → Int32 → Option (MS × Int32)) (h : MS) (x1 : Int32) (x2 : Int32) : Option (MS × Int32) :=
  oB (fX12_byteOut h 10) (fun h3 => fX12_text_185 k40 k50 h3 x1 x2)
set_option maxHeartbeats 4000000 in
theorem wfX12_text_179 {args : Array Value} (b : Bd p s m c cX12_text 4 RX12 D aC) (hlk : meth.locks = false) (hr : meth.sig.returnType = some .int) {Z : State → Prop} (zs : Z s) (zk : ZOK Z (Rg ad)) {hz : MS} {rz : Int32} {k40 : MS → Int32 → Option (MS × Int32)} (H40 : ∀ (h : MS) (x1 : Int32), ∀ (H : Heap) (locs : List Loc) (ls : Array Slot), k40 h x1 = some (hz, rz) → CE (EM D aC ad h) (Rg ad) s H locs → lv_has ls 4 [(0, .ref (ad 116)), (1, .int x1)] → W p l e (RM 3 73 0 0) s m args below meth c H locs 0 0 (MQ below (PQ (EM D aC ad hz) (Rg ad) (some (.int rz))) args s 0 0 (Rg ad)) (F0 m 40 ls [])) {k50 : MS → Int32 → Int32 → Option (MS × Int32)} (H50 : ∀ (h : MS) (x1 : Int32) (x2 : Int32), ∀ (H : Heap) (locs : List Loc) (ls : Array Slot), k50 h x1 x2 = some (hz, rz) → CE (EM D aC ad h) (Rg ad) s H locs → lv_has ls 4 [(0, .ref (ad 116)), (1, .int x1), (2, .int x2)] → W p l e (RM 3 73 0 0) s m args below meth c H locs 0 0 (MQ below (PQ (EM D aC ad hz) (Rg ad) (some (.int rz))) args s 0 0 (Rg ad)) (F0 m 50 ls [])) {h : MS} {x1 : Int32} {x2 : Int32}  {H : Heap} {locs : List Loc} {ls : Array Slot} (hf : fX12_text_179 k40 k50 h x1 x2 = some (hz, rz)) (hE : CE (EM D aC ad h) (Rg ad) s H locs) (hl : lv_has ls 4 [(0, .ref (ad 116)), (1, .int x1), (2, .int x2)]) : W p l e (RM 3 73 0 0) s m args below meth c H locs 0 0 (MQ below (PQ (EM D aC ad hz) (Rg ad) (some (.int rz))) args s 0 0 (Rg ad)) (F0 m 179 ls []) := by
  unfold fX12_text_179 at hf
  refine lv_aload_n b.1 b.2.1 dX12_text_179 rfl (lv_at hl 0 rfl) ?_
  refine lv_bipush (v := 10) b.1 b.2.1 dX12_text_180 (by decide) ?_
  obtain ⟨h3, hc2, hf⟩ := oB_s hf
  refine k_callV0 (C := RX12) b zs zk hE (CX12_byteOut l D aC ad zk hc2) mc_X12_byteOut (in8 109 rfl rfl) mi_X12_byteOut ms_X12_byteOut ini_RX12 ok_X12_byteOut (m_recv b hE) ⟨Nat.le_of_ble_eq_true rfl, Nat.le_of_ble_eq_true rfl⟩ rfl hl.1 rfl (k_room _ (by exact Nat.le_of_ble_eq_true rfl)) ⟨Nat.le_refl _, Nat.le_refl _⟩ dX12_text_182 (fun H locs hE => ?_)
  exact wfX12_text_185 b hlk hr zs zk H40 H50 hf hE (lv_sub hl [0, 1, 2] rfl)
def fX12_text_50F (k40 : MS → Int32 → Option (MS × Int32)) (k50 : MS → Int32 → Int32 → Option (MS × Int32)) (h : MS) (x1 : Int32) (x2 : Int32) : Option (MS × Int32) :=
  if (mI h 97) ≤ x2 then (oL (x1 + 1) (fun y5 => k40 h y5)) else (oL ((5 * x1) + x2) (fun y6 => oC (ix y6 (mlen 110)) (if (mA h 110 (Int32.toNatClampNeg y6)) = 0 then (fX12_text_185 k40 k50 h x1 x2) else (oC (ix x1 (mlen 29)) (oB (fX12_nameOut h (mB h 29 (Int32.toNatClampNeg x1))) (fun h11 => oB (fX12_byteOut h11 40) (fun h13 => oC (ix x2 (mlen 25)) (oB (fX12_nameOut h13 (mB h13 25 (Int32.toNatClampNeg x2))) (fun h16 => oB (fX12_byteOut h16 41) (fun h18 => oB (fX12_byteOut h18 32) (fun h20 => oC (ix y6 (mlen 111)) (if (mA h20 111 (Int32.toNatClampNeg y6)) = 0 then (oC (ix y6 (mlen 108)) (oB (fX12_numberOut h20 (mB h20 108 (Int32.toNatClampNeg y6))) (fun h25 => oC (ix y6 (mlen 109)) (if (lg_cmp (mB h25 109 (Int32.toNatClampNeg y6)) 1) ≤ 0 then (fX12_text_179 k40 k50 h25 x1 x2) else (oB (fX12_byteOut h25 47) (fun h29 => oC (ix y6 (mlen 109)) (oB (fX12_numberOut h29 (mB h29 109 (Int32.toNatClampNeg y6))) (fun h32 => fX12_text_179 k40 k50 h32 x1 x2)))))))) else (oB (fX12_wordOut h20 98 114 111 107 101 110) (fun h34 => fX12_text_179 k40 k50 h34 x1 x2))))))))))))))
set_option maxHeartbeats 4000000 in
theorem wfX12_text_50F {args : Array Value} (b : Bd p s m c cX12_text 4 RX12 D aC) (hlk : meth.locks = false) (hr : meth.sig.returnType = some .int) {Z : State → Prop} (zs : Z s) (zk : ZOK Z (Rg ad)) {hz : MS} {rz : Int32} {k40 : MS → Int32 → Option (MS × Int32)} (H40 : ∀ (h : MS) (x1 : Int32), ∀ (H : Heap) (locs : List Loc) (ls : Array Slot), k40 h x1 = some (hz, rz) → CE (EM D aC ad h) (Rg ad) s H locs → lv_has ls 4 [(0, .ref (ad 116)), (1, .int x1)] → W p l e (RM 3 73 0 0) s m args below meth c H locs 0 0 (MQ below (PQ (EM D aC ad hz) (Rg ad) (some (.int rz))) args s 0 0 (Rg ad)) (F0 m 40 ls [])) {k50 : MS → Int32 → Int32 → Option (MS × Int32)} (H50 : ∀ (h : MS) (x1 : Int32) (x2 : Int32), ∀ (H : Heap) (locs : List Loc) (ls : Array Slot), k50 h x1 x2 = some (hz, rz) → CE (EM D aC ad h) (Rg ad) s H locs → lv_has ls 4 [(0, .ref (ad 116)), (1, .int x1), (2, .int x2)] → W p l e (RM 3 73 0 0) s m args below meth c H locs 0 0 (MQ below (PQ (EM D aC ad hz) (Rg ad) (some (.int rz))) args s 0 0 (Rg ad)) (F0 m 50 ls [])) {h : MS} {x1 : Int32} {x2 : Int32}  {H : Heap} {locs : List Loc} {ls : Array Slot} (hf : fX12_text_50F k40 k50 h x1 x2 = some (hz, rz)) (hE : CE (EM D aC ad h) (Rg ad) s H locs) (hl : lv_has ls 4 [(0, .ref (ad 116)), (1, .int x1), (2, .int x2)]) : W p l e (RM 3 73 0 0) s m args below meth c H locs 0 0 (MQ below (PQ (EM D aC ad hz) (Rg ad) (some (.int rz))) args s 0 0 (Rg ad)) (F0 m 50 ls []) := by
  unfold fX12_text_50F at hf
  refine lv_iload_n b.1 b.2.1 dX12_text_50 rfl (lv_at hl 2 rfl) ?_
  refine lv_aload_n b.1 b.2.1 dX12_text_51 rfl (lv_at hl 0 rfl) ?_
  refine gM_506 b hE dX12_text_52 ?_
  refine lv_icmp_ge (tgt := 191) b.1 b.2.1 dX12_text_55 (by decide) (fun c4 => ?_) (fun c4 => ?_)
  · have hf := oI_t c4 hf
    obtain ⟨y5, ey5, hf⟩ := oL_s hf
    refine lv_iinc (v := y5) (lv' := [(1, .int y5), (0, .ref (ad 116)), (2, .int x2)]) b.1 b.2.1 dX12_text_191 hl (k := 1) rfl (by rw [ey5]; rfl) (by decide) rfl (fun ls hl => ?_)
    refine lv_goto (tgt := 40) b.1 b.2.1 dX12_text_194 (by decide) ?_
    exact H40 h y5 _ _ _ hf hE (lv_sub hl [1, 0] rfl)
  · have hf := oI_f c4 hf
    refine lv_iconst (v := 5) b.1 b.2.1 dX12_text_58 (by decide) ?_
    refine lv_iload_n b.1 b.2.1 dX12_text_59 rfl (lv_at hl 1 rfl) ?_
    refine lv_imul b.1 b.2.1 dX12_text_60 ?_
    refine lv_iload_n b.1 b.2.1 dX12_text_61 rfl (lv_at hl 2 rfl) ?_
    refine lv_iadd b.1 b.2.1 dX12_text_62 ?_
    obtain ⟨y6, ey6, hf⟩ := oL_s hf
    refine k_nmI ey6 ?_
    refine lv_istore_n (lv' := [(3, .int y6), (0, .ref (ad 116)), (1, .int x1), (2, .int x2)]) b.1 b.2.1 dX12_text_63 rfl hl (by decide) rfl (fun ls hl => ?_)
    refine lv_aload_n b.1 b.2.1 dX12_text_64 rfl (lv_at hl 1 rfl) ?_
    refine gM_237 b hE dX12_text_65 ?_
    refine lv_iload_n b.1 b.2.1 dX12_text_68 rfl (lv_at hl 0 rfl) ?_
    obtain ⟨g7, hf⟩ := oC_s hf
    refine m_iald b hE rfl rfl g7 dX12_text_69 ?_
    refine lv_if_ne (tgt := 76) b.1 b.2.1 dX12_text_70 (by decide) (fun c8 => ?_) (fun c8 => ?_)
    · have hf := oI_f c8 hf
      refine lv_aload_n b.1 b.2.1 dX12_text_76 rfl (lv_at hl 1 rfl) ?_
      refine lv_aload_n b.1 b.2.1 dX12_text_77 rfl (lv_at hl 1 rfl) ?_
      refine gM_52 b hE dX12_text_78 ?_
      refine lv_iload_n b.1 b.2.1 dX12_text_81 rfl (lv_at hl 2 rfl) ?_
      obtain ⟨g9, hf⟩ := oC_s hf
      refine m_lald b hE rfl rfl g9 dX12_text_82 ?_
      obtain ⟨h11, hc10, hf⟩ := oB_s hf
      refine k_callV0 (C := RX12) b zs zk hE (CX12_nameOut l D aC ad zk hc10) mc_X12_nameOut (in8 113 rfl rfl) mi_X12_nameOut ms_X12_nameOut ini_RX12 ok_X12_nameOut (m_recv b hE) ⟨Nat.le_of_ble_eq_true rfl, Nat.le_of_ble_eq_true rfl⟩ rfl hl.1 rfl (k_room _ (by exact Nat.le_of_ble_eq_true rfl)) ⟨Nat.le_refl _, Nat.le_refl _⟩ dX12_text_83 (fun H locs hE => ?_)
      refine lv_aload_n b.1 b.2.1 dX12_text_86 rfl (lv_at hl 1 rfl) ?_
      refine lv_bipush (v := 40) b.1 b.2.1 dX12_text_87 (by decide) ?_
      obtain ⟨h13, hc12, hf⟩ := oB_s hf
      refine k_callV0 (C := RX12) b zs zk hE (CX12_byteOut l D aC ad zk hc12) mc_X12_byteOut (in8 109 rfl rfl) mi_X12_byteOut ms_X12_byteOut ini_RX12 ok_X12_byteOut (m_recv b hE) ⟨Nat.le_of_ble_eq_true rfl, Nat.le_of_ble_eq_true rfl⟩ rfl hl.1 rfl (k_room _ (by exact Nat.le_of_ble_eq_true rfl)) ⟨Nat.le_refl _, Nat.le_refl _⟩ dX12_text_89 (fun H locs hE => ?_)
      refine lv_aload_n b.1 b.2.1 dX12_text_92 rfl (lv_at hl 1 rfl) ?_
      refine lv_aload_n b.1 b.2.1 dX12_text_93 rfl (lv_at hl 1 rfl) ?_
      refine gM_40 b hE dX12_text_94 ?_
      refine lv_iload_n b.1 b.2.1 dX12_text_97 rfl (lv_at hl 3 rfl) ?_
      obtain ⟨g14, hf⟩ := oC_s hf
      refine m_lald b hE rfl rfl g14 dX12_text_98 ?_
      obtain ⟨h16, hc15, hf⟩ := oB_s hf
      refine k_callV0 (C := RX12) b zs zk hE (CX12_nameOut l D aC ad zk hc15) mc_X12_nameOut (in8 113 rfl rfl) mi_X12_nameOut ms_X12_nameOut ini_RX12 ok_X12_nameOut (m_recv b hE) ⟨Nat.le_of_ble_eq_true rfl, Nat.le_of_ble_eq_true rfl⟩ rfl hl.1 rfl (k_room _ (by exact Nat.le_of_ble_eq_true rfl)) ⟨Nat.le_refl _, Nat.le_refl _⟩ dX12_text_99 (fun H locs hE => ?_)
      refine lv_aload_n b.1 b.2.1 dX12_text_102 rfl (lv_at hl 1 rfl) ?_
      refine lv_bipush (v := 41) b.1 b.2.1 dX12_text_103 (by decide) ?_
      obtain ⟨h18, hc17, hf⟩ := oB_s hf
      refine k_callV0 (C := RX12) b zs zk hE (CX12_byteOut l D aC ad zk hc17) mc_X12_byteOut (in8 109 rfl rfl) mi_X12_byteOut ms_X12_byteOut ini_RX12 ok_X12_byteOut (m_recv b hE) ⟨Nat.le_of_ble_eq_true rfl, Nat.le_of_ble_eq_true rfl⟩ rfl hl.1 rfl (k_room _ (by exact Nat.le_of_ble_eq_true rfl)) ⟨Nat.le_refl _, Nat.le_refl _⟩ dX12_text_105 (fun H locs hE => ?_)
      refine lv_aload_n b.1 b.2.1 dX12_text_108 rfl (lv_at hl 1 rfl) ?_
      refine lv_bipush (v := 32) b.1 b.2.1 dX12_text_109 (by decide) ?_
      obtain ⟨h20, hc19, hf⟩ := oB_s hf
      refine k_callV0 (C := RX12) b zs zk hE (CX12_byteOut l D aC ad zk hc19) mc_X12_byteOut (in8 109 rfl rfl) mi_X12_byteOut ms_X12_byteOut ini_RX12 ok_X12_byteOut (m_recv b hE) ⟨Nat.le_of_ble_eq_true rfl, Nat.le_of_ble_eq_true rfl⟩ rfl hl.1 rfl (k_room _ (by exact Nat.le_of_ble_eq_true rfl)) ⟨Nat.le_refl _, Nat.le_refl _⟩ dX12_text_111 (fun H locs hE => ?_)
      refine lv_aload_n b.1 b.2.1 dX12_text_114 rfl (lv_at hl 1 rfl) ?_
      refine gM_240 b hE dX12_text_115 ?_
      refine lv_iload_n b.1 b.2.1 dX12_text_118 rfl (lv_at hl 0 rfl) ?_
      obtain ⟨g21, hf⟩ := oC_s hf
      refine m_zald b hE rfl rfl g21 dX12_text_119 ?_
      refine lv_if_eq (tgt := 142) b.1 b.2.1 dX12_text_120 (by decide) (fun c22 => ?_) (fun c22 => ?_)
      · have hf := oI_t c22 hf
        refine lv_aload_n b.1 b.2.1 dX12_text_142 rfl (lv_at hl 1 rfl) ?_
        refine lv_aload_n b.1 b.2.1 dX12_text_143 rfl (lv_at hl 1 rfl) ?_
        refine gM_231 b hE dX12_text_144 ?_
        refine lv_iload_n b.1 b.2.1 dX12_text_147 rfl (lv_at hl 0 rfl) ?_
        obtain ⟨g23, hf⟩ := oC_s hf
        refine m_lald b hE rfl rfl g23 dX12_text_148 ?_
        obtain ⟨h25, hc24, hf⟩ := oB_s hf
        refine k_callV0 (C := RX12) b zs zk hE (CX12_numberOut l D aC ad zk hc24) mc_X12_numberOut (in8 117 rfl rfl) mi_X12_numberOut ms_X12_numberOut ini_RX12 ok_X12_numberOut (m_recv b hE) ⟨Nat.le_of_ble_eq_true rfl, Nat.le_of_ble_eq_true rfl⟩ rfl hl.1 rfl (k_room _ (by exact Nat.le_of_ble_eq_true rfl)) ⟨Nat.le_refl _, Nat.le_refl _⟩ dX12_text_149 (fun H locs hE => ?_)
        refine lv_aload_n b.1 b.2.1 dX12_text_152 rfl (lv_at hl 1 rfl) ?_
        refine gM_234 b hE dX12_text_153 ?_
        refine lv_iload_n b.1 b.2.1 dX12_text_156 rfl (lv_at hl 0 rfl) ?_
        obtain ⟨g26, hf⟩ := oC_s hf
        refine m_lald b hE rfl rfl g26 dX12_text_157 ?_
        refine lv_lconst (v := 1) b.1 b.2.1 dX12_text_158 rfl ?_
        refine W.lcmp b.1 b.2.1 dX12_text_159 ?_
        refine lv_if_le (tgt := 179) b.1 b.2.1 dX12_text_160 (by decide) (fun c27 => ?_) (fun c27 => ?_)
        · have hf := oI_t c27 hf
          exact wfX12_text_179 b hlk hr zs zk H40 H50 hf hE (lv_sub hl [1, 2, 3] rfl)
        · have hf := oI_f c27 hf
          refine lv_aload_n b.1 b.2.1 dX12_text_163 rfl (lv_at hl 1 rfl) ?_
          refine lv_bipush (v := 47) b.1 b.2.1 dX12_text_164 (by decide) ?_
          obtain ⟨h29, hc28, hf⟩ := oB_s hf
          refine k_callV0 (C := RX12) b zs zk hE (CX12_byteOut l D aC ad zk hc28) mc_X12_byteOut (in8 109 rfl rfl) mi_X12_byteOut ms_X12_byteOut ini_RX12 ok_X12_byteOut (m_recv b hE) ⟨Nat.le_of_ble_eq_true rfl, Nat.le_of_ble_eq_true rfl⟩ rfl hl.1 rfl (k_room _ (by exact Nat.le_of_ble_eq_true rfl)) ⟨Nat.le_refl _, Nat.le_refl _⟩ dX12_text_166 (fun H locs hE => ?_)
          refine lv_aload_n b.1 b.2.1 dX12_text_169 rfl (lv_at hl 1 rfl) ?_
          refine lv_aload_n b.1 b.2.1 dX12_text_170 rfl (lv_at hl 1 rfl) ?_
          refine gM_234 b hE dX12_text_171 ?_
          refine lv_iload_n b.1 b.2.1 dX12_text_174 rfl (lv_at hl 0 rfl) ?_
          obtain ⟨g30, hf⟩ := oC_s hf
          refine m_lald b hE rfl rfl g30 dX12_text_175 ?_
          obtain ⟨h32, hc31, hf⟩ := oB_s hf
          refine k_callV0 (C := RX12) b zs zk hE (CX12_numberOut l D aC ad zk hc31) mc_X12_numberOut (in8 117 rfl rfl) mi_X12_numberOut ms_X12_numberOut ini_RX12 ok_X12_numberOut (m_recv b hE) ⟨Nat.le_of_ble_eq_true rfl, Nat.le_of_ble_eq_true rfl⟩ rfl hl.1 rfl (k_room _ (by exact Nat.le_of_ble_eq_true rfl)) ⟨Nat.le_refl _, Nat.le_refl _⟩ dX12_text_176 (fun H locs hE => ?_)
          exact wfX12_text_179 b hlk hr zs zk H40 H50 hf hE (lv_sub hl [1, 2, 3] rfl)
      · have hf := oI_f c22 hf
        refine lv_aload_n b.1 b.2.1 dX12_text_123 rfl (lv_at hl 1 rfl) ?_
        refine lv_bipush (v := 98) b.1 b.2.1 dX12_text_124 (by decide) ?_
        refine lv_bipush (v := 114) b.1 b.2.1 dX12_text_126 (by decide) ?_
        refine lv_bipush (v := 111) b.1 b.2.1 dX12_text_128 (by decide) ?_
        refine lv_bipush (v := 107) b.1 b.2.1 dX12_text_130 (by decide) ?_
        refine lv_bipush (v := 101) b.1 b.2.1 dX12_text_132 (by decide) ?_
        refine lv_bipush (v := 110) b.1 b.2.1 dX12_text_134 (by decide) ?_
        obtain ⟨h34, hc33, hf⟩ := oB_s hf
        refine k_callV0 (C := RX12) b zs zk hE (CX12_wordOut l D aC ad zk hc33) mc_X12_wordOut (in8 105 rfl rfl) mi_X12_wordOut ms_X12_wordOut ini_RX12 ok_X12_wordOut (m_recv b hE) ⟨Nat.le_of_ble_eq_true rfl, Nat.le_of_ble_eq_true rfl⟩ rfl hl.1 rfl (k_room _ (by exact Nat.le_of_ble_eq_true rfl)) ⟨Nat.le_refl _, Nat.le_refl _⟩ dX12_text_136 (fun H locs hE => ?_)
        refine lv_goto (tgt := 179) b.1 b.2.1 dX12_text_139 (by decide) ?_
        exact wfX12_text_179 b hlk hr zs zk H40 H50 hf hE (lv_sub hl [1, 2, 3] rfl)
    · have hf := oI_t c8 hf
      refine lv_goto (tgt := 185) b.1 b.2.1 dX12_text_73 (by decide) ?_
      exact wfX12_text_185 b hlk hr zs zk H40 H50 hf hE (lv_sub hl [1, 2, 3] rfl)
def fX12_text_50 (k40 : MS → Int32 → Option (MS × Int32)) : Nat → MS → Int32 → Int32 → Option (MS × Int32)
  | 0 => fun _ _ _ => none
  | n + 1 => fX12_text_50F k40 (fX12_text_50 k40 n)
set_option maxHeartbeats 4000000 in
theorem wfX12_text_50 {args : Array Value} (b : Bd p s m c cX12_text 4 RX12 D aC) (hlk : meth.locks = false) (hr : meth.sig.returnType = some .int) {Z : State → Prop} (zs : Z s) (zk : ZOK Z (Rg ad)) {hz : MS} {rz : Int32} {k40 : MS → Int32 → Option (MS × Int32)} (H40 : ∀ (h : MS) (x1 : Int32), ∀ (H : Heap) (locs : List Loc) (ls : Array Slot), k40 h x1 = some (hz, rz) → CE (EM D aC ad h) (Rg ad) s H locs → lv_has ls 4 [(0, .ref (ad 116)), (1, .int x1)] → W p l e (RM 3 73 0 0) s m args below meth c H locs 0 0 (MQ below (PQ (EM D aC ad hz) (Rg ad) (some (.int rz))) args s 0 0 (Rg ad)) (F0 m 40 ls [])) : ∀ n : Nat, ∀ (h : MS) (x1 : Int32) (x2 : Int32), ∀ (H : Heap) (locs : List Loc) (ls : Array Slot), fX12_text_50 k40 n h x1 x2 = some (hz, rz) → CE (EM D aC ad h) (Rg ad) s H locs → lv_has ls 4 [(0, .ref (ad 116)), (1, .int x1), (2, .int x2)] → W p l e (RM 3 73 0 0) s m args below meth c H locs 0 0 (MQ below (PQ (EM D aC ad hz) (Rg ad) (some (.int rz))) args s 0 0 (Rg ad)) (F0 m 50 ls []) := by
  intro n
  induction n with
  | zero =>
    intro h x1 x2 H locs ls hf
    have hf : (none : Option (MS × Int32)) = some _ := hf
    cases hf
  | succ n ih =>
    intro h x1 x2 H locs ls hf hE hl
    exact wfX12_text_50F b hlk hr zs zk H40 ih hf hE hl
def fX12_text_40F (k40 : MS → Int32 → Option (MS × Int32)) (h : MS) (x1 : Int32) : Option (MS × Int32) :=
  if (mI h 99) ≤ x1 then (some (h, (mI h 113))) else (fX12_text_50 k40 FU h x1 0)
set_option maxHeartbeats 4000000 in
theorem wfX12_text_40F {args : Array Value} (b : Bd p s m c cX12_text 4 RX12 D aC) (hlk : meth.locks = false) (hr : meth.sig.returnType = some .int) {Z : State → Prop} (zs : Z s) (zk : ZOK Z (Rg ad)) {hz : MS} {rz : Int32} {k40 : MS → Int32 → Option (MS × Int32)} (H40 : ∀ (h : MS) (x1 : Int32), ∀ (H : Heap) (locs : List Loc) (ls : Array Slot), k40 h x1 = some (hz, rz) → CE (EM D aC ad h) (Rg ad) s H locs → lv_has ls 4 [(0, .ref (ad 116)), (1, .int x1)] → W p l e (RM 3 73 0 0) s m args below meth c H locs 0 0 (MQ below (PQ (EM D aC ad hz) (Rg ad) (some (.int rz))) args s 0 0 (Rg ad)) (F0 m 40 ls [])) {h : MS} {x1 : Int32}  {H : Heap} {locs : List Loc} {ls : Array Slot} (hf : fX12_text_40F k40 h x1 = some (hz, rz)) (hE : CE (EM D aC ad h) (Rg ad) s H locs) (hl : lv_has ls 4 [(0, .ref (ad 116)), (1, .int x1)]) : W p l e (RM 3 73 0 0) s m args below meth c H locs 0 0 (MQ below (PQ (EM D aC ad hz) (Rg ad) (some (.int rz))) args s 0 0 (Rg ad)) (F0 m 40 ls []) := by
  unfold fX12_text_40F at hf
  refine lv_iload_n b.1 b.2.1 dX12_text_40 rfl (lv_at hl 1 rfl) ?_
  refine lv_aload_n b.1 b.2.1 dX12_text_41 rfl (lv_at hl 0 rfl) ?_
  refine gM_512 b hE dX12_text_42 ?_
  refine lv_icmp_ge (tgt := 197) b.1 b.2.1 dX12_text_45 (by decide) (fun c35 => ?_) (fun c35 => ?_)
  · have hf := oI_t c35 hf
    refine lv_aload_n b.1 b.2.1 dX12_text_197 rfl (lv_at hl 0 rfl) ?_
    refine gM_567 b hE dX12_text_198 ?_
    cases hf
    exact k_iret b hlk hr hE (Nat.le_refl _) (Nat.le_refl _) dX12_text_201
  · have hf := oI_f c35 hf
    refine lv_iconst (v := 0) b.1 b.2.1 dX12_text_48 (by decide) ?_
    refine lv_istore_n (lv' := [(2, .int 0), (0, .ref (ad 116)), (1, .int x1)]) b.1 b.2.1 dX12_text_49 rfl hl (by decide) rfl (fun ls hl => ?_)
    exact wfX12_text_50 b hlk hr zs zk H40 FU h x1 0 _ _ _ hf hE (lv_sub hl [1, 2, 0] rfl)
def fX12_text_40  : Nat → MS → Int32 → Option (MS × Int32)
  | 0 => fun _ _ => none
  | n + 1 => fX12_text_40F  (fX12_text_40  n)
set_option maxHeartbeats 4000000 in
theorem wfX12_text_40 {args : Array Value} (b : Bd p s m c cX12_text 4 RX12 D aC) (hlk : meth.locks = false) (hr : meth.sig.returnType = some .int) {Z : State → Prop} (zs : Z s) (zk : ZOK Z (Rg ad)) {hz : MS} {rz : Int32} : ∀ n : Nat, ∀ (h : MS) (x1 : Int32), ∀ (H : Heap) (locs : List Loc) (ls : Array Slot), fX12_text_40  n h x1 = some (hz, rz) → CE (EM D aC ad h) (Rg ad) s H locs → lv_has ls 4 [(0, .ref (ad 116)), (1, .int x1)] → W p l e (RM 3 73 0 0) s m args below meth c H locs 0 0 (MQ below (PQ (EM D aC ad hz) (Rg ad) (some (.int rz))) args s 0 0 (Rg ad)) (F0 m 40 ls []) := by
  intro n
  induction n with
  | zero =>
    intro h x1 H locs ls hf
    have hf : (none : Option (MS × Int32)) = some _ := hf
    cases hf
  | succ n ih =>
    intro h x1 H locs ls hf hE hl
    exact wfX12_text_40F b hlk hr zs zk  ih hf hE hl
def fX12_text_16F (k16 : MS → Int32 → Option (MS × Int32)) (h : MS) (x1 : Int32) : Option (MS × Int32) :=
  if (50 * (mI h 98)) ≤ x1 then (fX12_text_40  FU h 0) else (oB (fX12_lineOf h x1) (fun h38 => oL (x1 + 1) (fun y39 => k16 h38 y39)))
set_option maxHeartbeats 4000000 in
theorem wfX12_text_16F {args : Array Value} (b : Bd p s m c cX12_text 4 RX12 D aC) (hlk : meth.locks = false) (hr : meth.sig.returnType = some .int) {Z : State → Prop} (zs : Z s) (zk : ZOK Z (Rg ad)) {hz : MS} {rz : Int32} {k16 : MS → Int32 → Option (MS × Int32)} (H16 : ∀ (h : MS) (x1 : Int32), ∀ (H : Heap) (locs : List Loc) (ls : Array Slot), k16 h x1 = some (hz, rz) → CE (EM D aC ad h) (Rg ad) s H locs → lv_has ls 4 [(0, .ref (ad 116)), (1, .int x1)] → W p l e (RM 3 73 0 0) s m args below meth c H locs 0 0 (MQ below (PQ (EM D aC ad hz) (Rg ad) (some (.int rz))) args s 0 0 (Rg ad)) (F0 m 16 ls [])) {h : MS} {x1 : Int32}  {H : Heap} {locs : List Loc} {ls : Array Slot} (hf : fX12_text_16F k16 h x1 = some (hz, rz)) (hE : CE (EM D aC ad h) (Rg ad) s H locs) (hl : lv_has ls 4 [(0, .ref (ad 116)), (1, .int x1)]) : W p l e (RM 3 73 0 0) s m args below meth c H locs 0 0 (MQ below (PQ (EM D aC ad hz) (Rg ad) (some (.int rz))) args s 0 0 (Rg ad)) (F0 m 16 ls []) := by
  unfold fX12_text_16F at hf
  refine lv_iload_n b.1 b.2.1 dX12_text_16 rfl (lv_at hl 1 rfl) ?_
  refine lv_bipush (v := 50) b.1 b.2.1 dX12_text_17 (by decide) ?_
  refine lv_aload_n b.1 b.2.1 dX12_text_19 rfl (lv_at hl 0 rfl) ?_
  refine gM_509 b hE dX12_text_20 ?_
  refine lv_imul b.1 b.2.1 dX12_text_23 ?_
  refine lv_icmp_ge (tgt := 38) b.1 b.2.1 dX12_text_24 (by decide) (fun c36 => ?_) (fun c36 => ?_)
  · have hf := oI_t c36 hf
    refine lv_iconst (v := 0) b.1 b.2.1 dX12_text_38 (by decide) ?_
    refine lv_istore_n (lv' := [(1, .int 0), (0, .ref (ad 116))]) b.1 b.2.1 dX12_text_39 rfl hl (by decide) rfl (fun ls hl => ?_)
    exact wfX12_text_40 b hlk hr zs zk  FU h 0 _ _ _ hf hE (lv_sub hl [1, 0] rfl)
  · have hf := oI_f c36 hf
    refine lv_aload_n b.1 b.2.1 dX12_text_27 rfl (lv_at hl 0 rfl) ?_
    refine lv_iload_n b.1 b.2.1 dX12_text_28 rfl (lv_at hl 1 rfl) ?_
    obtain ⟨h38, hc37, hf⟩ := oB_s hf
    refine k_callV0 (C := RX12) b zs zk hE (CX12_lineOf l D aC ad zk hc37) mc_X12_lineOf (in8 101 rfl rfl) mi_X12_lineOf ms_X12_lineOf ini_RX12 ok_X12_lineOf (m_recv b hE) ⟨Nat.le_of_ble_eq_true rfl, Nat.le_of_ble_eq_true rfl⟩ rfl hl.1 rfl (k_room _ (by exact Nat.le_of_ble_eq_true rfl)) ⟨Nat.le_refl _, Nat.le_refl _⟩ dX12_text_29 (fun H locs hE => ?_)
    obtain ⟨y39, ey39, hf⟩ := oL_s hf
    refine lv_iinc (v := y39) (lv' := [(1, .int y39), (0, .ref (ad 116))]) b.1 b.2.1 dX12_text_32 hl (k := 1) rfl (by rw [ey39]; rfl) (by decide) rfl (fun ls hl => ?_)
    refine lv_goto (tgt := 16) b.1 b.2.1 dX12_text_35 (by decide) ?_
    exact H16 h38 y39 _ _ _ hf hE (lv_sub hl [1, 0] rfl)
def fX12_text_16  : Nat → MS → Int32 → Option (MS × Int32)
  | 0 => fun _ _ => none
  | n + 1 => fX12_text_16F  (fX12_text_16  n)
set_option maxHeartbeats 4000000 in
theorem wfX12_text_16 {args : Array Value} (b : Bd p s m c cX12_text 4 RX12 D aC) (hlk : meth.locks = false) (hr : meth.sig.returnType = some .int) {Z : State → Prop} (zs : Z s) (zk : ZOK Z (Rg ad)) {hz : MS} {rz : Int32} : ∀ n : Nat, ∀ (h : MS) (x1 : Int32), ∀ (H : Heap) (locs : List Loc) (ls : Array Slot), fX12_text_16  n h x1 = some (hz, rz) → CE (EM D aC ad h) (Rg ad) s H locs → lv_has ls 4 [(0, .ref (ad 116)), (1, .int x1)] → W p l e (RM 3 73 0 0) s m args below meth c H locs 0 0 (MQ below (PQ (EM D aC ad hz) (Rg ad) (some (.int rz))) args s 0 0 (Rg ad)) (F0 m 16 ls []) := by
  intro n
  induction n with
  | zero =>
    intro h x1 H locs ls hf
    have hf : (none : Option (MS × Int32)) = some _ := hf
    cases hf
  | succ n ih =>
    intro h x1 H locs ls hf hE hl
    exact wfX12_text_16F b hlk hr zs zk  ih hf hE hl
def fX12_text_0  (h : MS) : Option (MS × Int32) :=
  if (mI h 96) = 0 then (some (h, (-1))) else (oL (mSI h 113 0) (fun h41 => fX12_text_16  FU h41 0))
set_option maxHeartbeats 4000000 in
theorem wfX12_text_0 {args : Array Value} (b : Bd p s m c cX12_text 4 RX12 D aC) (hlk : meth.locks = false) (hr : meth.sig.returnType = some .int) {Z : State → Prop} (zs : Z s) (zk : ZOK Z (Rg ad)) {hz : MS} {rz : Int32} {h : MS}  {H : Heap} {locs : List Loc} {ls : Array Slot} (hf : fX12_text_0 h = some (hz, rz)) (hE : CE (EM D aC ad h) (Rg ad) s H locs) (hl : lv_has ls 4 [(0, .ref (ad 116))]) : W p l e (RM 3 73 0 0) s m args below meth c H locs 0 0 (MQ below (PQ (EM D aC ad hz) (Rg ad) (some (.int rz))) args s 0 0 (Rg ad)) (F0 m 0 ls []) := by
  unfold fX12_text_0 at hf
  refine lv_aload_n b.1 b.2.1 dX12_text_0 rfl (lv_at hl 0 rfl) ?_
  refine gM_515 b hE dX12_text_1 ?_
  refine lv_if_ne (tgt := 9) b.1 b.2.1 dX12_text_4 (by decide) (fun c40 => ?_) (fun c40 => ?_)
  · have hf := oI_f c40 hf
    refine lv_aload_n b.1 b.2.1 dX12_text_9 rfl (lv_at hl 0 rfl) ?_
    refine lv_iconst (v := 0) b.1 b.2.1 dX12_text_10 (by decide) ?_
    obtain ⟨h41, eh41, hf⟩ := oL_s hf
    refine pM_567 b hE eh41 dX12_text_11 (fun H locs hE => ?_)
    refine lv_iconst (v := 0) b.1 b.2.1 dX12_text_14 (by decide) ?_
    refine lv_istore_n (lv' := [(1, .int 0), (0, .ref (ad 116))]) b.1 b.2.1 dX12_text_15 rfl hl (by decide) rfl (fun ls hl => ?_)
    exact wfX12_text_16 b hlk hr zs zk  FU h41 0 _ _ _ hf hE (lv_sub hl [1, 0] rfl)
  · have hf := oI_t c40 hf
    refine lv_iconst (v := (-1)) b.1 b.2.1 dX12_text_7 (by decide) ?_
    cases hf
    exact k_iret b hlk hr hE (Nat.le_refl _) (Nat.le_refl _) dX12_text_8
def fX12_text (h : MS) : Option (MS × Int32) := fX12_text_0 h 
set_option maxHeartbeats 4000000 in
theorem CX12_text (l : Launch) (D : va_G) (aC : Nat → ClassId) (ad : Nat → Nat) {Z : State → Prop} (zk : ZOK Z (Rg ad)) {h : MS} {hz : MS} {rz : Int32} (hf : fX12_text h = some (hz, rz)) : CM l D aC Z yX12_text cX12_text 4 (some .int) 3 73 0 0 (EM D aC ad h) [.ref (ad 116)] (EM D aC ad hz) (some (.int rz)) (Rg ad) := by
  refine CM.of rfl ?_
  intro p e s m below meth c b hr hlk hin2 zs hE
  refine k_ent (Nat.le_of_ble_eq_true rfl) (fun ls hl => ?_)
  exact wfX12_text_0 b hlk hr zs zk hf hE (lv_sub hl [0] rfl)
theorem dX12_out_0 : decode cX12_out 0 = .ok (.iload_n 1, 1) := by decide +kernel
theorem dX12_out_1 : decode cX12_out 1 = .ok (.ifCond .lt 27, 3) := by decide +kernel
theorem dX12_out_4 : decode cX12_out 4 = .ok (.iload_n 1, 1) := by decide +kernel
theorem dX12_out_5 : decode cX12_out 5 = .ok (.aload_n 0, 1) := by decide +kernel
theorem dX12_out_6 : decode cX12_out 6 = .ok (.getfield 567, 3) := by decide +kernel
theorem dX12_out_9 : decode cX12_out 9 = .ok (.if_icmp .ge 19, 3) := by decide +kernel
theorem dX12_out_12 : decode cX12_out 12 = .ok (.iload_n 1, 1) := by decide +kernel
theorem dX12_out_13 : decode cX12_out 13 = .ok (.sipush 4000, 3) := by decide +kernel
theorem dX12_out_16 : decode cX12_out 16 = .ok (.if_icmp .ge 12, 3) := by decide +kernel
theorem dX12_out_19 : decode cX12_out 19 = .ok (.aload_n 0, 1) := by decide +kernel
theorem dX12_out_20 : decode cX12_out 20 = .ok (.getfield 246, 3) := by decide +kernel
theorem dX12_out_23 : decode cX12_out 23 = .ok (.iload_n 1, 1) := by decide +kernel
theorem dX12_out_24 : decode cX12_out 24 = .ok (.baload, 1) := by decide +kernel
theorem dX12_out_25 : decode cX12_out 25 = .ok (.goto 4, 3) := by decide +kernel
theorem dX12_out_28 : decode cX12_out 28 = .ok (.iconst (-1), 1) := by decide +kernel
theorem dX12_out_29 : decode cX12_out 29 = .ok (.ireturn, 1) := by decide +kernel
def fX12_out_0  (h : MS) (x1 : Int32) : Option (Int32) :=
  if x1 < 0 then (some ((-1))) else (if (mI h 113) ≤ x1 then (some ((-1))) else (if 4000 ≤ x1 then (some ((-1))) else (oC (ix x1 (mlen 114)) (some ((mA h 114 (Int32.toNatClampNeg x1)))))))
set_option maxHeartbeats 4000000 in
theorem wfX12_out_0 {args : Array Value} (b : Bd p s m c cX12_out 2 RX12 D aC) (hlk : meth.locks = false) (hr : meth.sig.returnType = some .int) {Z : State → Prop} (zs : Z s) (zk : ZOK Z (Rg ad)) {rz : Int32} {h : MS} {x1 : Int32}  {H : Heap} {locs : List Loc} {ls : Array Slot} (hf : fX12_out_0 h x1 = some rz) (hE : CE (EM D aC ad h) (Rg ad) s H locs) (hl : lv_has ls 2 [(0, .ref (ad 116)), (1, .int x1)]) : W p l e (RM 0 0 0 0) s m args below meth c H locs 0 0 (MQ below (PQ (EM D aC ad h) (Rg ad) (some (.int rz))) args s 0 0 (Rg ad)) (F0 m 0 ls []) := by
  unfold fX12_out_0 at hf
  refine lv_iload_n b.1 b.2.1 dX12_out_0 rfl (lv_at hl 1 rfl) ?_
  refine lv_if_lt (tgt := 28) b.1 b.2.1 dX12_out_1 (by decide) (fun c1 => ?_) (fun c1 => ?_)
  · have hf := oI_t c1 hf
    refine lv_iconst (v := (-1)) b.1 b.2.1 dX12_out_28 (by decide) ?_
    cases hf
    exact k_iret b hlk hr hE (Nat.le_refl _) (Nat.le_refl _) dX12_out_29
  · have hf := oI_f c1 hf
    refine lv_iload_n b.1 b.2.1 dX12_out_4 rfl (lv_at hl 1 rfl) ?_
    refine lv_aload_n b.1 b.2.1 dX12_out_5 rfl (lv_at hl 0 rfl) ?_
    refine gM_567 b hE dX12_out_6 ?_
    refine lv_icmp_ge (tgt := 28) b.1 b.2.1 dX12_out_9 (by decide) (fun c2 => ?_) (fun c2 => ?_)
    · have hf := oI_t c2 hf
      refine lv_iconst (v := (-1)) b.1 b.2.1 dX12_out_28 (by decide) ?_
      cases hf
      exact k_iret b hlk hr hE (Nat.le_refl _) (Nat.le_refl _) dX12_out_29
    · have hf := oI_f c2 hf
      refine lv_iload_n b.1 b.2.1 dX12_out_12 rfl (lv_at hl 1 rfl) ?_
      refine lv_sipush (v := 4000) b.1 b.2.1 dX12_out_13 (by decide) ?_
      refine lv_icmp_ge (tgt := 28) b.1 b.2.1 dX12_out_16 (by decide) (fun c3 => ?_) (fun c3 => ?_)
      · have hf := oI_t c3 hf
        refine lv_iconst (v := (-1)) b.1 b.2.1 dX12_out_28 (by decide) ?_
        cases hf
        exact k_iret b hlk hr hE (Nat.le_refl _) (Nat.le_refl _) dX12_out_29
      · have hf := oI_f c3 hf
        refine lv_aload_n b.1 b.2.1 dX12_out_19 rfl (lv_at hl 0 rfl) ?_
        refine gM_246 b hE dX12_out_20 ?_
        refine lv_iload_n b.1 b.2.1 dX12_out_23 rfl (lv_at hl 1 rfl) ?_
        obtain ⟨g4, hf⟩ := oC_s hf
        refine m_bald b hE rfl rfl g4 dX12_out_24 ?_
        refine lv_goto (tgt := 29) b.1 b.2.1 dX12_out_25 (by decide) ?_
        cases hf
        exact k_iret b hlk hr hE (Nat.le_refl _) (Nat.le_refl _) dX12_out_29
def fX12_out (h : MS) (x1 : Int32) : Option (Int32) := fX12_out_0 h x1
set_option maxHeartbeats 4000000 in
theorem CX12_out (l : Launch) (D : va_G) (aC : Nat → ClassId) (ad : Nat → Nat) {Z : State → Prop} (zk : ZOK Z (Rg ad)) {h : MS} {x1 : Int32} {rz : Int32} (hf : fX12_out h x1 = some rz) : CM l D aC Z yX12_out cX12_out 2 (some .int) 0 0 0 0 (EM D aC ad h) [.ref (ad 116), .int x1] (EM D aC ad h) (some (.int rz)) (Rg ad) := by
  refine CM.of rfl ?_
  intro p e s m below meth c b hr hlk hin2 zs hE
  refine k_ent (Nat.le_of_ble_eq_true rfl) (fun ls hl => ?_)
  exact wfX12_out_0 b hlk hr zs zk hf hE (lv_sub hl [0, 1] rfl)
theorem dX12_rule_0 : decode cX12_rule 0 = .ok (.iload_n 1, 1) := by decide +kernel
theorem dX12_rule_1 : decode cX12_rule 1 = .ok (.aload_n 0, 1) := by decide +kernel
theorem dX12_rule_2 : decode cX12_rule 2 = .ok (.getfield 350, 3) := by decide +kernel
theorem dX12_rule_5 : decode cX12_rule 5 = .ok (.invokestatic 435, 3) := by decide +kernel
theorem dX12_rule_8 : decode cX12_rule 8 = .ok (.ifCond .ne 5, 3) := by decide +kernel
theorem dX12_rule_11 : decode cX12_rule 11 = .ok (.iconst (-1), 1) := by decide +kernel
theorem dX12_rule_12 : decode cX12_rule 12 = .ok (.ireturn, 1) := by decide +kernel
theorem dX12_rule_13 : decode cX12_rule 13 = .ok (.iload_n 2, 1) := by decide +kernel
theorem dX12_rule_14 : decode cX12_rule 14 = .ok (.tableswitch 88 0 5 #[38, 45, 52, 59, 66, 73], 38) := by decide +kernel
theorem dX12_rule_52 : decode cX12_rule 52 = .ok (.aload_n 0, 1) := by decide +kernel
theorem dX12_rule_53 : decode cX12_rule 53 = .ok (.getfield 82, 3) := by decide +kernel
theorem dX12_rule_56 : decode cX12_rule 56 = .ok (.iload_n 1, 1) := by decide +kernel
theorem dX12_rule_57 : decode cX12_rule 57 = .ok (.iaload, 1) := by decide +kernel
theorem dX12_rule_58 : decode cX12_rule 58 = .ok (.ireturn, 1) := by decide +kernel
theorem dX12_rule_59 : decode cX12_rule 59 = .ok (.aload_n 0, 1) := by decide +kernel
theorem dX12_rule_60 : decode cX12_rule 60 = .ok (.getfield 85, 3) := by decide +kernel
theorem dX12_rule_63 : decode cX12_rule 63 = .ok (.iload_n 1, 1) := by decide +kernel
theorem dX12_rule_64 : decode cX12_rule 64 = .ok (.iaload, 1) := by decide +kernel
theorem dX12_rule_65 : decode cX12_rule 65 = .ok (.ireturn, 1) := by decide +kernel
theorem dX12_rule_66 : decode cX12_rule 66 = .ok (.aload_n 0, 1) := by decide +kernel
theorem dX12_rule_67 : decode cX12_rule 67 = .ok (.getfield 88, 3) := by decide +kernel
theorem dX12_rule_70 : decode cX12_rule 70 = .ok (.iload_n 1, 1) := by decide +kernel
theorem dX12_rule_71 : decode cX12_rule 71 = .ok (.iaload, 1) := by decide +kernel
theorem dX12_rule_72 : decode cX12_rule 72 = .ok (.ireturn, 1) := by decide +kernel
theorem dX12_rule_73 : decode cX12_rule 73 = .ok (.aload_n 0, 1) := by decide +kernel
theorem dX12_rule_74 : decode cX12_rule 74 = .ok (.getfield 91, 3) := by decide +kernel
theorem dX12_rule_77 : decode cX12_rule 77 = .ok (.iload_n 1, 1) := by decide +kernel
theorem dX12_rule_78 : decode cX12_rule 78 = .ok (.iaload, 1) := by decide +kernel
theorem dX12_rule_79 : decode cX12_rule 79 = .ok (.ireturn, 1) := by decide +kernel
theorem dX12_rule_80 : decode cX12_rule 80 = .ok (.aload_n 0, 1) := by decide +kernel
theorem dX12_rule_81 : decode cX12_rule 81 = .ok (.getfield 97, 3) := by decide +kernel
theorem dX12_rule_84 : decode cX12_rule 84 = .ok (.iload_n 1, 1) := by decide +kernel
theorem dX12_rule_85 : decode cX12_rule 85 = .ok (.iaload, 1) := by decide +kernel
theorem dX12_rule_86 : decode cX12_rule 86 = .ok (.ireturn, 1) := by decide +kernel
theorem dX12_rule_87 : decode cX12_rule 87 = .ok (.aload_n 0, 1) := by decide +kernel
theorem dX12_rule_88 : decode cX12_rule 88 = .ok (.getfield 100, 3) := by decide +kernel
theorem dX12_rule_91 : decode cX12_rule 91 = .ok (.iload_n 1, 1) := by decide +kernel
theorem dX12_rule_92 : decode cX12_rule 92 = .ok (.baload, 1) := by decide +kernel
theorem dX12_rule_93 : decode cX12_rule 93 = .ok (.ifCond .eq 7, 3) := by decide +kernel
theorem dX12_rule_96 : decode cX12_rule 96 = .ok (.iconst 1, 1) := by decide +kernel
theorem dX12_rule_97 : decode cX12_rule 97 = .ok (.goto 4, 3) := by decide +kernel
theorem dX12_rule_100 : decode cX12_rule 100 = .ok (.iconst 0, 1) := by decide +kernel
theorem dX12_rule_101 : decode cX12_rule 101 = .ok (.ireturn, 1) := by decide +kernel
theorem dX12_rule_102 : decode cX12_rule 102 = .ok (.iconst (-1), 1) := by decide +kernel
theorem dX12_rule_103 : decode cX12_rule 103 = .ok (.ireturn, 1) := by decide +kernel
def fX12_rule_0  (h : MS) (x1 : Int32) (x2 : Int32) : Option (Int32) :=
  oB (fX12_isOne x1 (mI h 22)) (fun r2 => if r2 = 0 then (some ((-1))) else (if x2 = 0 then (oC (ix x1 (mlen 39)) (some ((mA h 39 (Int32.toNatClampNeg x1))))) else (if x2 = 1 then (oC (ix x1 (mlen 40)) (some ((mA h 40 (Int32.toNatClampNeg x1))))) else (if x2 = 2 then (oC (ix x1 (mlen 41)) (some ((mA h 41 (Int32.toNatClampNeg x1))))) else (if x2 = 3 then (oC (ix x1 (mlen 42)) (some ((mA h 42 (Int32.toNatClampNeg x1))))) else (if x2 = 4 then (oC (ix x1 (mlen 44)) (some ((mA h 44 (Int32.toNatClampNeg x1))))) else (if x2 = 5 then (oC (ix x1 (mlen 45)) (if (mA h 45 (Int32.toNatClampNeg x1)) = 0 then (some (0)) else (some (1)))) else (some ((-1))))))))))
set_option maxHeartbeats 4000000 in
theorem wfX12_rule_0 {args : Array Value} (b : Bd p s m c cX12_rule 3 RX12 D aC) (hlk : meth.locks = false) (hr : meth.sig.returnType = some .int) {Z : State → Prop} (zs : Z s) (zk : ZOK Z (Rg ad)) {rz : Int32} {h : MS} {x1 : Int32} {x2 : Int32}  {H : Heap} {locs : List Loc} {ls : Array Slot} (hf : fX12_rule_0 h x1 x2 = some rz) (hE : CE (EM D aC ad h) (Rg ad) s H locs) (hl : lv_has ls 3 [(0, .ref (ad 116)), (1, .int x1), (2, .int x2)]) : W p l e (RM 1 21 0 0) s m args below meth c H locs 0 0 (MQ below (PQ (EM D aC ad h) (Rg ad) (some (.int rz))) args s 0 0 (Rg ad)) (F0 m 0 ls []) := by
  unfold fX12_rule_0 at hf
  refine lv_iload_n b.1 b.2.1 dX12_rule_0 rfl (lv_at hl 1 rfl) ?_
  refine lv_aload_n b.1 b.2.1 dX12_rule_1 rfl (lv_at hl 0 rfl) ?_
  refine gM_350 b hE dX12_rule_2 ?_
  obtain ⟨r2, hc1, hf⟩ := oB_s hf
  refine k_callS0 b zs zk hE (CX12_isOne l D aC zk hc1) mc_X12_isOne (in7 216 rfl rfl) mt_X12_isOne ini_RX12 ok_X12_isOne ⟨Nat.le_of_ble_eq_true rfl, Nat.le_of_ble_eq_true rfl⟩ rfl hl.1 rfl (k_room _ (by exact Nat.le_of_ble_eq_true rfl)) ⟨Nat.le_refl _, Nat.le_refl _⟩ dX12_rule_5 (fun H locs hE => ?_)
  refine lv_if_ne (tgt := 13) b.1 b.2.1 dX12_rule_8 (by decide) (fun c3 => ?_) (fun c3 => ?_)
  · have hf := oI_f c3 hf
    refine lv_iload_n b.1 b.2.1 dX12_rule_13 rfl (lv_at hl 2 rfl) ?_
    rcases Decidable.em (x2 = 0) with c4 | c4
    · have hf := oI_t c4 hf
      refine lv_tableIn (tgt := 52) b.1 b.2.1 dX12_rule_14 (off := 38) (by rw [c4]; decide) (by rw [c4]; decide) (by rw [c4] <;> rfl) (by decide) ?_
      refine lv_aload_n b.1 b.2.1 dX12_rule_52 rfl (lv_at hl 0 rfl) ?_
      refine gM_82 b hE dX12_rule_53 ?_
      refine lv_iload_n b.1 b.2.1 dX12_rule_56 rfl (lv_at hl 1 rfl) ?_
      obtain ⟨g5, hf⟩ := oC_s hf
      refine m_iald b hE rfl rfl g5 dX12_rule_57 ?_
      cases hf
      exact k_iret b hlk hr hE (Nat.le_refl _) (Nat.le_refl _) dX12_rule_58
    have hf := oI_f c4 hf
    rcases Decidable.em (x2 = 1) with c6 | c6
    · have hf := oI_t c6 hf
      refine lv_tableIn (tgt := 59) b.1 b.2.1 dX12_rule_14 (off := 45) (by rw [c6]; decide) (by rw [c6]; decide) (by rw [c6] <;> rfl) (by decide) ?_
      refine lv_aload_n b.1 b.2.1 dX12_rule_59 rfl (lv_at hl 0 rfl) ?_
      refine gM_85 b hE dX12_rule_60 ?_
      refine lv_iload_n b.1 b.2.1 dX12_rule_63 rfl (lv_at hl 1 rfl) ?_
      obtain ⟨g7, hf⟩ := oC_s hf
      refine m_iald b hE rfl rfl g7 dX12_rule_64 ?_
      cases hf
      exact k_iret b hlk hr hE (Nat.le_refl _) (Nat.le_refl _) dX12_rule_65
    have hf := oI_f c6 hf
    rcases Decidable.em (x2 = 2) with c8 | c8
    · have hf := oI_t c8 hf
      refine lv_tableIn (tgt := 66) b.1 b.2.1 dX12_rule_14 (off := 52) (by rw [c8]; decide) (by rw [c8]; decide) (by rw [c8] <;> rfl) (by decide) ?_
      refine lv_aload_n b.1 b.2.1 dX12_rule_66 rfl (lv_at hl 0 rfl) ?_
      refine gM_88 b hE dX12_rule_67 ?_
      refine lv_iload_n b.1 b.2.1 dX12_rule_70 rfl (lv_at hl 1 rfl) ?_
      obtain ⟨g9, hf⟩ := oC_s hf
      refine m_iald b hE rfl rfl g9 dX12_rule_71 ?_
      cases hf
      exact k_iret b hlk hr hE (Nat.le_refl _) (Nat.le_refl _) dX12_rule_72
    have hf := oI_f c8 hf
    rcases Decidable.em (x2 = 3) with c10 | c10
    · have hf := oI_t c10 hf
      refine lv_tableIn (tgt := 73) b.1 b.2.1 dX12_rule_14 (off := 59) (by rw [c10]; decide) (by rw [c10]; decide) (by rw [c10] <;> rfl) (by decide) ?_
      refine lv_aload_n b.1 b.2.1 dX12_rule_73 rfl (lv_at hl 0 rfl) ?_
      refine gM_91 b hE dX12_rule_74 ?_
      refine lv_iload_n b.1 b.2.1 dX12_rule_77 rfl (lv_at hl 1 rfl) ?_
      obtain ⟨g11, hf⟩ := oC_s hf
      refine m_iald b hE rfl rfl g11 dX12_rule_78 ?_
      cases hf
      exact k_iret b hlk hr hE (Nat.le_refl _) (Nat.le_refl _) dX12_rule_79
    have hf := oI_f c10 hf
    rcases Decidable.em (x2 = 4) with c12 | c12
    · have hf := oI_t c12 hf
      refine lv_tableIn (tgt := 80) b.1 b.2.1 dX12_rule_14 (off := 66) (by rw [c12]; decide) (by rw [c12]; decide) (by rw [c12] <;> rfl) (by decide) ?_
      refine lv_aload_n b.1 b.2.1 dX12_rule_80 rfl (lv_at hl 0 rfl) ?_
      refine gM_97 b hE dX12_rule_81 ?_
      refine lv_iload_n b.1 b.2.1 dX12_rule_84 rfl (lv_at hl 1 rfl) ?_
      obtain ⟨g13, hf⟩ := oC_s hf
      refine m_iald b hE rfl rfl g13 dX12_rule_85 ?_
      cases hf
      exact k_iret b hlk hr hE (Nat.le_refl _) (Nat.le_refl _) dX12_rule_86
    have hf := oI_f c12 hf
    rcases Decidable.em (x2 = 5) with c14 | c14
    · have hf := oI_t c14 hf
      refine lv_tableIn (tgt := 87) b.1 b.2.1 dX12_rule_14 (off := 73) (by rw [c14]; decide) (by rw [c14]; decide) (by rw [c14] <;> rfl) (by decide) ?_
      refine lv_aload_n b.1 b.2.1 dX12_rule_87 rfl (lv_at hl 0 rfl) ?_
      refine gM_100 b hE dX12_rule_88 ?_
      refine lv_iload_n b.1 b.2.1 dX12_rule_91 rfl (lv_at hl 1 rfl) ?_
      obtain ⟨g15, hf⟩ := oC_s hf
      refine m_zald b hE rfl rfl g15 dX12_rule_92 ?_
      refine lv_if_eq (tgt := 100) b.1 b.2.1 dX12_rule_93 (by decide) (fun c16 => ?_) (fun c16 => ?_)
      · have hf := oI_t c16 hf
        refine lv_iconst (v := 0) b.1 b.2.1 dX12_rule_100 (by decide) ?_
        cases hf
        exact k_iret b hlk hr hE (Nat.le_refl _) (Nat.le_refl _) dX12_rule_101
      · have hf := oI_f c16 hf
        refine lv_iconst (v := 1) b.1 b.2.1 dX12_rule_96 (by decide) ?_
        refine lv_goto (tgt := 101) b.1 b.2.1 dX12_rule_97 (by decide) ?_
        cases hf
        exact k_iret b hlk hr hE (Nat.le_refl _) (Nat.le_refl _) dX12_rule_101
    have hf := oI_f c14 hf
    have c4 := lv_neT (a := 0) c4 (by decide)
    have c6 := lv_neT (a := 1) c6 (by decide)
    have c8 := lv_neT (a := 2) c8 (by decide)
    have c10 := lv_neT (a := 3) c10 (by decide)
    have c12 := lv_neT (a := 4) c12 (by decide)
    have c14 := lv_neT (a := 5) c14 (by decide)
    refine lv_tableOut (tgt := 102) b.1 b.2.1 dX12_rule_14 (by omega) (by decide) ?_
    refine lv_iconst (v := (-1)) b.1 b.2.1 dX12_rule_102 (by decide) ?_
    cases hf
    exact k_iret b hlk hr hE (Nat.le_refl _) (Nat.le_refl _) dX12_rule_103
  · have hf := oI_t c3 hf
    refine lv_iconst (v := (-1)) b.1 b.2.1 dX12_rule_11 (by decide) ?_
    cases hf
    exact k_iret b hlk hr hE (Nat.le_refl _) (Nat.le_refl _) dX12_rule_12
def fX12_rule (h : MS) (x1 : Int32) (x2 : Int32) : Option (Int32) := fX12_rule_0 h x1 x2
set_option maxHeartbeats 4000000 in
theorem CX12_rule (l : Launch) (D : va_G) (aC : Nat → ClassId) (ad : Nat → Nat) {Z : State → Prop} (zk : ZOK Z (Rg ad)) {h : MS} {x1 : Int32} {x2 : Int32} {rz : Int32} (hf : fX12_rule h x1 x2 = some rz) : CM l D aC Z yX12_rule cX12_rule 3 (some .int) 1 21 0 0 (EM D aC ad h) [.ref (ad 116), .int x1, .int x2] (EM D aC ad h) (some (.int rz)) (Rg ad) := by
  refine CM.of rfl ?_
  intro p e s m below meth c b hr hlk hin2 zs hE
  refine k_ent (Nat.le_of_ble_eq_true rfl) (fun ls hl => ?_)
  exact wfX12_rule_0 b hlk hr zs zk hf hE (lv_sub hl [0, 1, 2] rfl)
theorem dX12_law_0 : decode cX12_law 0 = .ok (.iload_n 1, 1) := by decide +kernel
theorem dX12_law_1 : decode cX12_law 1 = .ok (.aload_n 0, 1) := by decide +kernel
theorem dX12_law_2 : decode cX12_law 2 = .ok (.getfield 347, 3) := by decide +kernel
theorem dX12_law_5 : decode cX12_law 5 = .ok (.invokestatic 435, 3) := by decide +kernel
theorem dX12_law_8 : decode cX12_law 8 = .ok (.ifCond .ne 5, 3) := by decide +kernel
theorem dX12_law_11 : decode cX12_law 11 = .ok (.iconst (-1), 1) := by decide +kernel
theorem dX12_law_12 : decode cX12_law 12 = .ok (.ireturn, 1) := by decide +kernel
theorem dX12_law_13 : decode cX12_law 13 = .ok (.iload_n 2, 1) := by decide +kernel
theorem dX12_law_14 : decode cX12_law 14 = .ok (.tableswitch 69 0 4 #[34, 41, 48, 55, 62], 34) := by decide +kernel
theorem dX12_law_48 : decode cX12_law 48 = .ok (.aload_n 0, 1) := by decide +kernel
theorem dX12_law_49 : decode cX12_law 49 = .ok (.getfield 58, 3) := by decide +kernel
theorem dX12_law_52 : decode cX12_law 52 = .ok (.iload_n 1, 1) := by decide +kernel
theorem dX12_law_53 : decode cX12_law 53 = .ok (.iaload, 1) := by decide +kernel
theorem dX12_law_54 : decode cX12_law 54 = .ok (.ireturn, 1) := by decide +kernel
theorem dX12_law_55 : decode cX12_law 55 = .ok (.aload_n 0, 1) := by decide +kernel
theorem dX12_law_56 : decode cX12_law 56 = .ok (.getfield 61, 3) := by decide +kernel
theorem dX12_law_59 : decode cX12_law 59 = .ok (.iload_n 1, 1) := by decide +kernel
theorem dX12_law_60 : decode cX12_law 60 = .ok (.iaload, 1) := by decide +kernel
theorem dX12_law_61 : decode cX12_law 61 = .ok (.ireturn, 1) := by decide +kernel
theorem dX12_law_62 : decode cX12_law 62 = .ok (.aload_n 0, 1) := by decide +kernel
theorem dX12_law_63 : decode cX12_law 63 = .ok (.getfield 64, 3) := by decide +kernel
theorem dX12_law_66 : decode cX12_law 66 = .ok (.iload_n 1, 1) := by decide +kernel
theorem dX12_law_67 : decode cX12_law 67 = .ok (.iaload, 1) := by decide +kernel
theorem dX12_law_68 : decode cX12_law 68 = .ok (.ireturn, 1) := by decide +kernel
theorem dX12_law_69 : decode cX12_law 69 = .ok (.aload_n 0, 1) := by decide +kernel
theorem dX12_law_70 : decode cX12_law 70 = .ok (.getfield 67, 3) := by decide +kernel
theorem dX12_law_73 : decode cX12_law 73 = .ok (.iload_n 1, 1) := by decide +kernel
theorem dX12_law_74 : decode cX12_law 74 = .ok (.iaload, 1) := by decide +kernel
theorem dX12_law_75 : decode cX12_law 75 = .ok (.ireturn, 1) := by decide +kernel
theorem dX12_law_76 : decode cX12_law 76 = .ok (.aload_n 0, 1) := by decide +kernel
theorem dX12_law_77 : decode cX12_law 77 = .ok (.getfield 70, 3) := by decide +kernel
theorem dX12_law_80 : decode cX12_law 80 = .ok (.iload_n 1, 1) := by decide +kernel
theorem dX12_law_81 : decode cX12_law 81 = .ok (.iaload, 1) := by decide +kernel
theorem dX12_law_82 : decode cX12_law 82 = .ok (.ireturn, 1) := by decide +kernel
theorem dX12_law_83 : decode cX12_law 83 = .ok (.iconst (-1), 1) := by decide +kernel
theorem dX12_law_84 : decode cX12_law 84 = .ok (.ireturn, 1) := by decide +kernel
def fX12_law_0  (h : MS) (x1 : Int32) (x2 : Int32) : Option (Int32) :=
  oB (fX12_isOne x1 (mI h 21)) (fun r2 => if r2 = 0 then (some ((-1))) else (if x2 = 0 then (oC (ix x1 (mlen 31)) (some ((mA h 31 (Int32.toNatClampNeg x1))))) else (if x2 = 1 then (oC (ix x1 (mlen 32)) (some ((mA h 32 (Int32.toNatClampNeg x1))))) else (if x2 = 2 then (oC (ix x1 (mlen 33)) (some ((mA h 33 (Int32.toNatClampNeg x1))))) else (if x2 = 3 then (oC (ix x1 (mlen 34)) (some ((mA h 34 (Int32.toNatClampNeg x1))))) else (if x2 = 4 then (oC (ix x1 (mlen 35)) (some ((mA h 35 (Int32.toNatClampNeg x1))))) else (some ((-1)))))))))
set_option maxHeartbeats 4000000 in
theorem wfX12_law_0 {args : Array Value} (b : Bd p s m c cX12_law 3 RX12 D aC) (hlk : meth.locks = false) (hr : meth.sig.returnType = some .int) {Z : State → Prop} (zs : Z s) (zk : ZOK Z (Rg ad)) {rz : Int32} {h : MS} {x1 : Int32} {x2 : Int32}  {H : Heap} {locs : List Loc} {ls : Array Slot} (hf : fX12_law_0 h x1 x2 = some rz) (hE : CE (EM D aC ad h) (Rg ad) s H locs) (hl : lv_has ls 3 [(0, .ref (ad 116)), (1, .int x1), (2, .int x2)]) : W p l e (RM 1 21 0 0) s m args below meth c H locs 0 0 (MQ below (PQ (EM D aC ad h) (Rg ad) (some (.int rz))) args s 0 0 (Rg ad)) (F0 m 0 ls []) := by
  unfold fX12_law_0 at hf
  refine lv_iload_n b.1 b.2.1 dX12_law_0 rfl (lv_at hl 1 rfl) ?_
  refine lv_aload_n b.1 b.2.1 dX12_law_1 rfl (lv_at hl 0 rfl) ?_
  refine gM_347 b hE dX12_law_2 ?_
  obtain ⟨r2, hc1, hf⟩ := oB_s hf
  refine k_callS0 b zs zk hE (CX12_isOne l D aC zk hc1) mc_X12_isOne (in7 216 rfl rfl) mt_X12_isOne ini_RX12 ok_X12_isOne ⟨Nat.le_of_ble_eq_true rfl, Nat.le_of_ble_eq_true rfl⟩ rfl hl.1 rfl (k_room _ (by exact Nat.le_of_ble_eq_true rfl)) ⟨Nat.le_refl _, Nat.le_refl _⟩ dX12_law_5 (fun H locs hE => ?_)
  refine lv_if_ne (tgt := 13) b.1 b.2.1 dX12_law_8 (by decide) (fun c3 => ?_) (fun c3 => ?_)
  · have hf := oI_f c3 hf
    refine lv_iload_n b.1 b.2.1 dX12_law_13 rfl (lv_at hl 2 rfl) ?_
    rcases Decidable.em (x2 = 0) with c4 | c4
    · have hf := oI_t c4 hf
      refine lv_tableIn (tgt := 48) b.1 b.2.1 dX12_law_14 (off := 34) (by rw [c4]; decide) (by rw [c4]; decide) (by rw [c4] <;> rfl) (by decide) ?_
      refine lv_aload_n b.1 b.2.1 dX12_law_48 rfl (lv_at hl 0 rfl) ?_
      refine gM_58 b hE dX12_law_49 ?_
      refine lv_iload_n b.1 b.2.1 dX12_law_52 rfl (lv_at hl 1 rfl) ?_
      obtain ⟨g5, hf⟩ := oC_s hf
      refine m_iald b hE rfl rfl g5 dX12_law_53 ?_
      cases hf
      exact k_iret b hlk hr hE (Nat.le_refl _) (Nat.le_refl _) dX12_law_54
    have hf := oI_f c4 hf
    rcases Decidable.em (x2 = 1) with c6 | c6
    · have hf := oI_t c6 hf
      refine lv_tableIn (tgt := 55) b.1 b.2.1 dX12_law_14 (off := 41) (by rw [c6]; decide) (by rw [c6]; decide) (by rw [c6] <;> rfl) (by decide) ?_
      refine lv_aload_n b.1 b.2.1 dX12_law_55 rfl (lv_at hl 0 rfl) ?_
      refine gM_61 b hE dX12_law_56 ?_
      refine lv_iload_n b.1 b.2.1 dX12_law_59 rfl (lv_at hl 1 rfl) ?_
      obtain ⟨g7, hf⟩ := oC_s hf
      refine m_iald b hE rfl rfl g7 dX12_law_60 ?_
      cases hf
      exact k_iret b hlk hr hE (Nat.le_refl _) (Nat.le_refl _) dX12_law_61
    have hf := oI_f c6 hf
    rcases Decidable.em (x2 = 2) with c8 | c8
    · have hf := oI_t c8 hf
      refine lv_tableIn (tgt := 62) b.1 b.2.1 dX12_law_14 (off := 48) (by rw [c8]; decide) (by rw [c8]; decide) (by rw [c8] <;> rfl) (by decide) ?_
      refine lv_aload_n b.1 b.2.1 dX12_law_62 rfl (lv_at hl 0 rfl) ?_
      refine gM_64 b hE dX12_law_63 ?_
      refine lv_iload_n b.1 b.2.1 dX12_law_66 rfl (lv_at hl 1 rfl) ?_
      obtain ⟨g9, hf⟩ := oC_s hf
      refine m_iald b hE rfl rfl g9 dX12_law_67 ?_
      cases hf
      exact k_iret b hlk hr hE (Nat.le_refl _) (Nat.le_refl _) dX12_law_68
    have hf := oI_f c8 hf
    rcases Decidable.em (x2 = 3) with c10 | c10
    · have hf := oI_t c10 hf
      refine lv_tableIn (tgt := 69) b.1 b.2.1 dX12_law_14 (off := 55) (by rw [c10]; decide) (by rw [c10]; decide) (by rw [c10] <;> rfl) (by decide) ?_
      refine lv_aload_n b.1 b.2.1 dX12_law_69 rfl (lv_at hl 0 rfl) ?_
      refine gM_67 b hE dX12_law_70 ?_
      refine lv_iload_n b.1 b.2.1 dX12_law_73 rfl (lv_at hl 1 rfl) ?_
      obtain ⟨g11, hf⟩ := oC_s hf
      refine m_iald b hE rfl rfl g11 dX12_law_74 ?_
      cases hf
      exact k_iret b hlk hr hE (Nat.le_refl _) (Nat.le_refl _) dX12_law_75
    have hf := oI_f c10 hf
    rcases Decidable.em (x2 = 4) with c12 | c12
    · have hf := oI_t c12 hf
      refine lv_tableIn (tgt := 76) b.1 b.2.1 dX12_law_14 (off := 62) (by rw [c12]; decide) (by rw [c12]; decide) (by rw [c12] <;> rfl) (by decide) ?_
      refine lv_aload_n b.1 b.2.1 dX12_law_76 rfl (lv_at hl 0 rfl) ?_
      refine gM_70 b hE dX12_law_77 ?_
      refine lv_iload_n b.1 b.2.1 dX12_law_80 rfl (lv_at hl 1 rfl) ?_
      obtain ⟨g13, hf⟩ := oC_s hf
      refine m_iald b hE rfl rfl g13 dX12_law_81 ?_
      cases hf
      exact k_iret b hlk hr hE (Nat.le_refl _) (Nat.le_refl _) dX12_law_82
    have hf := oI_f c12 hf
    have c4 := lv_neT (a := 0) c4 (by decide)
    have c6 := lv_neT (a := 1) c6 (by decide)
    have c8 := lv_neT (a := 2) c8 (by decide)
    have c10 := lv_neT (a := 3) c10 (by decide)
    have c12 := lv_neT (a := 4) c12 (by decide)
    refine lv_tableOut (tgt := 83) b.1 b.2.1 dX12_law_14 (by omega) (by decide) ?_
    refine lv_iconst (v := (-1)) b.1 b.2.1 dX12_law_83 (by decide) ?_
    cases hf
    exact k_iret b hlk hr hE (Nat.le_refl _) (Nat.le_refl _) dX12_law_84
  · have hf := oI_t c3 hf
    refine lv_iconst (v := (-1)) b.1 b.2.1 dX12_law_11 (by decide) ?_
    cases hf
    exact k_iret b hlk hr hE (Nat.le_refl _) (Nat.le_refl _) dX12_law_12
def fX12_law (h : MS) (x1 : Int32) (x2 : Int32) : Option (Int32) := fX12_law_0 h x1 x2
set_option maxHeartbeats 4000000 in
theorem CX12_law (l : Launch) (D : va_G) (aC : Nat → ClassId) (ad : Nat → Nat) {Z : State → Prop} (zk : ZOK Z (Rg ad)) {h : MS} {x1 : Int32} {x2 : Int32} {rz : Int32} (hf : fX12_law h x1 x2 = some rz) : CM l D aC Z yX12_law cX12_law 3 (some .int) 1 21 0 0 (EM D aC ad h) [.ref (ad 116), .int x1, .int x2] (EM D aC ad h) (some (.int rz)) (Rg ad) := by
  refine CM.of rfl ?_
  intro p e s m below meth c b hr hlk hin2 zs hE
  refine k_ent (Nat.le_of_ble_eq_true rfl) (fun ls hl => ?_)
  exact wfX12_law_0 b hlk hr zs zk hf hE (lv_sub hl [0, 1, 2] rfl)
theorem dX12_count_0 : decode cX12_count 0 = .ok (.iload_n 1, 1) := by decide +kernel
theorem dX12_count_1 : decode cX12_count 1 = .ok (.tableswitch 132 0 12 #[67, 72, 77, 82, 87, 92, 97, 102, 107, 112, 117, 122, 127], 67) := by decide +kernel
theorem dX12_count_68 : decode cX12_count 68 = .ok (.aload_n 0, 1) := by decide +kernel
theorem dX12_count_69 : decode cX12_count 69 = .ok (.getfield 338, 3) := by decide +kernel
theorem dX12_count_72 : decode cX12_count 72 = .ok (.ireturn, 1) := by decide +kernel
theorem dX12_count_73 : decode cX12_count 73 = .ok (.aload_n 0, 1) := by decide +kernel
theorem dX12_count_74 : decode cX12_count 74 = .ok (.getfield 341, 3) := by decide +kernel
theorem dX12_count_77 : decode cX12_count 77 = .ok (.ireturn, 1) := by decide +kernel
theorem dX12_count_78 : decode cX12_count 78 = .ok (.aload_n 0, 1) := by decide +kernel
theorem dX12_count_79 : decode cX12_count 79 = .ok (.getfield 344, 3) := by decide +kernel
theorem dX12_count_82 : decode cX12_count 82 = .ok (.ireturn, 1) := by decide +kernel
theorem dX12_count_83 : decode cX12_count 83 = .ok (.aload_n 0, 1) := by decide +kernel
theorem dX12_count_84 : decode cX12_count 84 = .ok (.getfield 347, 3) := by decide +kernel
theorem dX12_count_87 : decode cX12_count 87 = .ok (.ireturn, 1) := by decide +kernel
theorem dX12_count_88 : decode cX12_count 88 = .ok (.aload_n 0, 1) := by decide +kernel
theorem dX12_count_89 : decode cX12_count 89 = .ok (.getfield 350, 3) := by decide +kernel
theorem dX12_count_92 : decode cX12_count 92 = .ok (.ireturn, 1) := by decide +kernel
theorem dX12_count_93 : decode cX12_count 93 = .ok (.aload_n 0, 1) := by decide +kernel
theorem dX12_count_94 : decode cX12_count 94 = .ok (.getfield 353, 3) := by decide +kernel
theorem dX12_count_97 : decode cX12_count 97 = .ok (.ireturn, 1) := by decide +kernel
theorem dX12_count_98 : decode cX12_count 98 = .ok (.aload_n 0, 1) := by decide +kernel
theorem dX12_count_99 : decode cX12_count 99 = .ok (.getfield 443, 3) := by decide +kernel
theorem dX12_count_102 : decode cX12_count 102 = .ok (.ireturn, 1) := by decide +kernel
theorem dX12_count_103 : decode cX12_count 103 = .ok (.aload_n 0, 1) := by decide +kernel
theorem dX12_count_104 : decode cX12_count 104 = .ok (.getfield 378, 3) := by decide +kernel
theorem dX12_count_107 : decode cX12_count 107 = .ok (.ireturn, 1) := by decide +kernel
theorem dX12_count_108 : decode cX12_count 108 = .ok (.aload_n 0, 1) := by decide +kernel
theorem dX12_count_109 : decode cX12_count 109 = .ok (.getfield 256, 3) := by decide +kernel
theorem dX12_count_112 : decode cX12_count 112 = .ok (.ireturn, 1) := by decide +kernel
theorem dX12_count_113 : decode cX12_count 113 = .ok (.aload_n 0, 1) := by decide +kernel
theorem dX12_count_114 : decode cX12_count 114 = .ok (.getfield 518, 3) := by decide +kernel
theorem dX12_count_117 : decode cX12_count 117 = .ok (.ireturn, 1) := by decide +kernel
theorem dX12_count_118 : decode cX12_count 118 = .ok (.aload_n 0, 1) := by decide +kernel
theorem dX12_count_119 : decode cX12_count 119 = .ok (.getfield 521, 3) := by decide +kernel
theorem dX12_count_122 : decode cX12_count 122 = .ok (.ireturn, 1) := by decide +kernel
theorem dX12_count_123 : decode cX12_count 123 = .ok (.aload_n 0, 1) := by decide +kernel
theorem dX12_count_124 : decode cX12_count 124 = .ok (.getfield 524, 3) := by decide +kernel
theorem dX12_count_127 : decode cX12_count 127 = .ok (.ireturn, 1) := by decide +kernel
theorem dX12_count_128 : decode cX12_count 128 = .ok (.aload_n 0, 1) := by decide +kernel
theorem dX12_count_129 : decode cX12_count 129 = .ok (.getfield 527, 3) := by decide +kernel
theorem dX12_count_132 : decode cX12_count 132 = .ok (.ireturn, 1) := by decide +kernel
theorem dX12_count_133 : decode cX12_count 133 = .ok (.iconst (-1), 1) := by decide +kernel
theorem dX12_count_134 : decode cX12_count 134 = .ok (.ireturn, 1) := by decide +kernel
def fX12_count_0  (h : MS) (x1 : Int32) : Option (Int32) :=
  if x1 = 0 then (some ((mI h 18))) else (if x1 = 1 then (some ((mI h 19))) else (if x1 = 2 then (some ((mI h 20))) else (if x1 = 3 then (some ((mI h 21))) else (if x1 = 4 then (some ((mI h 22))) else (if x1 = 5 then (some ((mI h 23))) else (if x1 = 6 then (some ((mI h 73))) else (if x1 = 7 then (some ((mI h 72))) else (if x1 = 8 then (some ((mI h 2))) else (if x1 = 9 then (some ((mI h 100))) else (if x1 = 10 then (some ((mI h 101))) else (if x1 = 11 then (some ((mI h 102))) else (if x1 = 12 then (some ((mI h 103))) else (some ((-1)))))))))))))))
set_option maxHeartbeats 4000000 in
theorem wfX12_count_0 {args : Array Value} (b : Bd p s m c cX12_count 2 RX12 D aC) (hlk : meth.locks = false) (hr : meth.sig.returnType = some .int) {Z : State → Prop} (zs : Z s) (zk : ZOK Z (Rg ad)) {rz : Int32} {h : MS} {x1 : Int32}  {H : Heap} {locs : List Loc} {ls : Array Slot} (hf : fX12_count_0 h x1 = some rz) (hE : CE (EM D aC ad h) (Rg ad) s H locs) (hl : lv_has ls 2 [(0, .ref (ad 116)), (1, .int x1)]) : W p l e (RM 0 0 0 0) s m args below meth c H locs 0 0 (MQ below (PQ (EM D aC ad h) (Rg ad) (some (.int rz))) args s 0 0 (Rg ad)) (F0 m 0 ls []) := by
  unfold fX12_count_0 at hf
  refine lv_iload_n b.1 b.2.1 dX12_count_0 rfl (lv_at hl 1 rfl) ?_
  rcases Decidable.em (x1 = 0) with c1 | c1
  · have hf := oI_t c1 hf
    refine lv_tableIn (tgt := 68) b.1 b.2.1 dX12_count_1 (off := 67) (by rw [c1]; decide) (by rw [c1]; decide) (by rw [c1] <;> rfl) (by decide) ?_
    refine lv_aload_n b.1 b.2.1 dX12_count_68 rfl (lv_at hl 0 rfl) ?_
    refine gM_338 b hE dX12_count_69 ?_
    cases hf
    exact k_iret b hlk hr hE (Nat.le_refl _) (Nat.le_refl _) dX12_count_72
  have hf := oI_f c1 hf
  rcases Decidable.em (x1 = 1) with c2 | c2
  · have hf := oI_t c2 hf
    refine lv_tableIn (tgt := 73) b.1 b.2.1 dX12_count_1 (off := 72) (by rw [c2]; decide) (by rw [c2]; decide) (by rw [c2] <;> rfl) (by decide) ?_
    refine lv_aload_n b.1 b.2.1 dX12_count_73 rfl (lv_at hl 0 rfl) ?_
    refine gM_341 b hE dX12_count_74 ?_
    cases hf
    exact k_iret b hlk hr hE (Nat.le_refl _) (Nat.le_refl _) dX12_count_77
  have hf := oI_f c2 hf
  rcases Decidable.em (x1 = 2) with c3 | c3
  · have hf := oI_t c3 hf
    refine lv_tableIn (tgt := 78) b.1 b.2.1 dX12_count_1 (off := 77) (by rw [c3]; decide) (by rw [c3]; decide) (by rw [c3] <;> rfl) (by decide) ?_
    refine lv_aload_n b.1 b.2.1 dX12_count_78 rfl (lv_at hl 0 rfl) ?_
    refine gM_344 b hE dX12_count_79 ?_
    cases hf
    exact k_iret b hlk hr hE (Nat.le_refl _) (Nat.le_refl _) dX12_count_82
  have hf := oI_f c3 hf
  rcases Decidable.em (x1 = 3) with c4 | c4
  · have hf := oI_t c4 hf
    refine lv_tableIn (tgt := 83) b.1 b.2.1 dX12_count_1 (off := 82) (by rw [c4]; decide) (by rw [c4]; decide) (by rw [c4] <;> rfl) (by decide) ?_
    refine lv_aload_n b.1 b.2.1 dX12_count_83 rfl (lv_at hl 0 rfl) ?_
    refine gM_347 b hE dX12_count_84 ?_
    cases hf
    exact k_iret b hlk hr hE (Nat.le_refl _) (Nat.le_refl _) dX12_count_87
  have hf := oI_f c4 hf
  rcases Decidable.em (x1 = 4) with c5 | c5
  · have hf := oI_t c5 hf
    refine lv_tableIn (tgt := 88) b.1 b.2.1 dX12_count_1 (off := 87) (by rw [c5]; decide) (by rw [c5]; decide) (by rw [c5] <;> rfl) (by decide) ?_
    refine lv_aload_n b.1 b.2.1 dX12_count_88 rfl (lv_at hl 0 rfl) ?_
    refine gM_350 b hE dX12_count_89 ?_
    cases hf
    exact k_iret b hlk hr hE (Nat.le_refl _) (Nat.le_refl _) dX12_count_92
  have hf := oI_f c5 hf
  rcases Decidable.em (x1 = 5) with c6 | c6
  · have hf := oI_t c6 hf
    refine lv_tableIn (tgt := 93) b.1 b.2.1 dX12_count_1 (off := 92) (by rw [c6]; decide) (by rw [c6]; decide) (by rw [c6] <;> rfl) (by decide) ?_
    refine lv_aload_n b.1 b.2.1 dX12_count_93 rfl (lv_at hl 0 rfl) ?_
    refine gM_353 b hE dX12_count_94 ?_
    cases hf
    exact k_iret b hlk hr hE (Nat.le_refl _) (Nat.le_refl _) dX12_count_97
  have hf := oI_f c6 hf
  rcases Decidable.em (x1 = 6) with c7 | c7
  · have hf := oI_t c7 hf
    refine lv_tableIn (tgt := 98) b.1 b.2.1 dX12_count_1 (off := 97) (by rw [c7]; decide) (by rw [c7]; decide) (by rw [c7] <;> rfl) (by decide) ?_
    refine lv_aload_n b.1 b.2.1 dX12_count_98 rfl (lv_at hl 0 rfl) ?_
    refine gM_443 b hE dX12_count_99 ?_
    cases hf
    exact k_iret b hlk hr hE (Nat.le_refl _) (Nat.le_refl _) dX12_count_102
  have hf := oI_f c7 hf
  rcases Decidable.em (x1 = 7) with c8 | c8
  · have hf := oI_t c8 hf
    refine lv_tableIn (tgt := 103) b.1 b.2.1 dX12_count_1 (off := 102) (by rw [c8]; decide) (by rw [c8]; decide) (by rw [c8] <;> rfl) (by decide) ?_
    refine lv_aload_n b.1 b.2.1 dX12_count_103 rfl (lv_at hl 0 rfl) ?_
    refine gM_378 b hE dX12_count_104 ?_
    cases hf
    exact k_iret b hlk hr hE (Nat.le_refl _) (Nat.le_refl _) dX12_count_107
  have hf := oI_f c8 hf
  rcases Decidable.em (x1 = 8) with c9 | c9
  · have hf := oI_t c9 hf
    refine lv_tableIn (tgt := 108) b.1 b.2.1 dX12_count_1 (off := 107) (by rw [c9]; decide) (by rw [c9]; decide) (by rw [c9] <;> rfl) (by decide) ?_
    refine lv_aload_n b.1 b.2.1 dX12_count_108 rfl (lv_at hl 0 rfl) ?_
    refine gM_256 b hE dX12_count_109 ?_
    cases hf
    exact k_iret b hlk hr hE (Nat.le_refl _) (Nat.le_refl _) dX12_count_112
  have hf := oI_f c9 hf
  rcases Decidable.em (x1 = 9) with c10 | c10
  · have hf := oI_t c10 hf
    refine lv_tableIn (tgt := 113) b.1 b.2.1 dX12_count_1 (off := 112) (by rw [c10]; decide) (by rw [c10]; decide) (by rw [c10] <;> rfl) (by decide) ?_
    refine lv_aload_n b.1 b.2.1 dX12_count_113 rfl (lv_at hl 0 rfl) ?_
    refine gM_518 b hE dX12_count_114 ?_
    cases hf
    exact k_iret b hlk hr hE (Nat.le_refl _) (Nat.le_refl _) dX12_count_117
  have hf := oI_f c10 hf
  rcases Decidable.em (x1 = 10) with c11 | c11
  · have hf := oI_t c11 hf
    refine lv_tableIn (tgt := 118) b.1 b.2.1 dX12_count_1 (off := 117) (by rw [c11]; decide) (by rw [c11]; decide) (by rw [c11] <;> rfl) (by decide) ?_
    refine lv_aload_n b.1 b.2.1 dX12_count_118 rfl (lv_at hl 0 rfl) ?_
    refine gM_521 b hE dX12_count_119 ?_
    cases hf
    exact k_iret b hlk hr hE (Nat.le_refl _) (Nat.le_refl _) dX12_count_122
  have hf := oI_f c11 hf
  rcases Decidable.em (x1 = 11) with c12 | c12
  · have hf := oI_t c12 hf
    refine lv_tableIn (tgt := 123) b.1 b.2.1 dX12_count_1 (off := 122) (by rw [c12]; decide) (by rw [c12]; decide) (by rw [c12] <;> rfl) (by decide) ?_
    refine lv_aload_n b.1 b.2.1 dX12_count_123 rfl (lv_at hl 0 rfl) ?_
    refine gM_524 b hE dX12_count_124 ?_
    cases hf
    exact k_iret b hlk hr hE (Nat.le_refl _) (Nat.le_refl _) dX12_count_127
  have hf := oI_f c12 hf
  rcases Decidable.em (x1 = 12) with c13 | c13
  · have hf := oI_t c13 hf
    refine lv_tableIn (tgt := 128) b.1 b.2.1 dX12_count_1 (off := 127) (by rw [c13]; decide) (by rw [c13]; decide) (by rw [c13] <;> rfl) (by decide) ?_
    refine lv_aload_n b.1 b.2.1 dX12_count_128 rfl (lv_at hl 0 rfl) ?_
    refine gM_527 b hE dX12_count_129 ?_
    cases hf
    exact k_iret b hlk hr hE (Nat.le_refl _) (Nat.le_refl _) dX12_count_132
  have hf := oI_f c13 hf
  have c1 := lv_neT (a := 0) c1 (by decide)
  have c2 := lv_neT (a := 1) c2 (by decide)
  have c3 := lv_neT (a := 2) c3 (by decide)
  have c4 := lv_neT (a := 3) c4 (by decide)
  have c5 := lv_neT (a := 4) c5 (by decide)
  have c6 := lv_neT (a := 5) c6 (by decide)
  have c7 := lv_neT (a := 6) c7 (by decide)
  have c8 := lv_neT (a := 7) c8 (by decide)
  have c9 := lv_neT (a := 8) c9 (by decide)
  have c10 := lv_neT (a := 9) c10 (by decide)
  have c11 := lv_neT (a := 10) c11 (by decide)
  have c12 := lv_neT (a := 11) c12 (by decide)
  have c13 := lv_neT (a := 12) c13 (by decide)
  refine lv_tableOut (tgt := 133) b.1 b.2.1 dX12_count_1 (by omega) (by decide) ?_
  refine lv_iconst (v := (-1)) b.1 b.2.1 dX12_count_133 (by decide) ?_
  cases hf
  exact k_iret b hlk hr hE (Nat.le_refl _) (Nat.le_refl _) dX12_count_134
def fX12_count (h : MS) (x1 : Int32) : Option (Int32) := fX12_count_0 h x1
set_option maxHeartbeats 4000000 in
theorem CX12_count (l : Launch) (D : va_G) (aC : Nat → ClassId) (ad : Nat → Nat) {Z : State → Prop} (zk : ZOK Z (Rg ad)) {h : MS} {x1 : Int32} {rz : Int32} (hf : fX12_count h x1 = some rz) : CM l D aC Z yX12_count cX12_count 2 (some .int) 0 0 0 0 (EM D aC ad h) [.ref (ad 116), .int x1] (EM D aC ad h) (some (.int rz)) (Rg ad) := by
  refine CM.of rfl ?_
  intro p e s m below meth c b hr hlk hin2 zs hE
  refine k_ent (Nat.le_of_ble_eq_true rfl) (fun ls hl => ?_)
  exact wfX12_count_0 b hlk hr zs zk hf hE (lv_sub hl [0, 1] rfl)
end
