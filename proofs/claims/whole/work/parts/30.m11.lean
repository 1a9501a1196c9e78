section
variable {p : Program} {l : Launch} {e : Env} {s : State} {m : MethodId} {below : List Frame} {meth : Method} {c : Code} {D : va_G} {aC : Nat → ClassId} {ad : Nat → Nat}
theorem dX12_steps_0 : decode cX12_steps 0 = .ok (.iconst 0, 1) := by decide +kernel
theorem dX12_steps_1 : decode cX12_steps 1 = .ok (.istore_n 1, 1) := by decide +kernel
theorem dX12_steps_2 : decode cX12_steps 2 = .ok (.iload_n 1, 1) := by decide +kernel
theorem dX12_steps_3 : decode cX12_steps 3 = .ok (.aload_n 0, 1) := by decide +kernel
theorem dX12_steps_4 : decode cX12_steps 4 = .ok (.getfield 350, 3) := by decide +kernel
theorem dX12_steps_7 : decode cX12_steps 7 = .ok (.if_icmp .ge 218, 3) := by decide +kernel
theorem dX12_steps_10 : decode cX12_steps 10 = .ok (.iconst 0, 1) := by decide +kernel
theorem dX12_steps_11 : decode cX12_steps 11 = .ok (.istore_n 2, 1) := by decide +kernel
theorem dX12_steps_12 : decode cX12_steps 12 = .ok (.iload_n 2, 1) := by decide +kernel
theorem dX12_steps_13 : decode cX12_steps 13 = .ok (.aload_n 0, 1) := by decide +kernel
theorem dX12_steps_14 : decode cX12_steps 14 = .ok (.iload_n 1, 1) := by decide +kernel
theorem dX12_steps_15 : decode cX12_steps 15 = .ok (.invokevirtual 530, 3) := by decide +kernel
theorem dX12_steps_18 : decode cX12_steps 18 = .ok (.if_icmp .ge 201, 3) := by decide +kernel
theorem dX12_steps_21 : decode cX12_steps 21 = .ok (.bipush 125, 2) := by decide +kernel
theorem dX12_steps_23 : decode cX12_steps 23 = .ok (.iload_n 1, 1) := by decide +kernel
theorem dX12_steps_24 : decode cX12_steps 24 = .ok (.imul, 1) := by decide +kernel
theorem dX12_steps_25 : decode cX12_steps 25 = .ok (.iload_n 2, 1) := by decide +kernel
theorem dX12_steps_26 : decode cX12_steps 26 = .ok (.iadd, 1) := by decide +kernel
theorem dX12_steps_27 : decode cX12_steps 27 = .ok (.istore_n 3, 1) := by decide +kernel
theorem dX12_steps_28 : decode cX12_steps 28 = .ok (.aload_n 0, 1) := by decide +kernel
theorem dX12_steps_29 : decode cX12_steps 29 = .ok (.getfield 198, 3) := by decide +kernel
theorem dX12_steps_32 : decode cX12_steps 32 = .ok (.iload_n 3, 1) := by decide +kernel
theorem dX12_steps_33 : decode cX12_steps 33 = .ok (.aload_n 0, 1) := by decide +kernel
theorem dX12_steps_34 : decode cX12_steps 34 = .ok (.getfield 183, 3) := by decide +kernel
theorem dX12_steps_37 : decode cX12_steps 37 = .ok (.iload_n 3, 1) := by decide +kernel
theorem dX12_steps_38 : decode cX12_steps 38 = .ok (.baload, 1) := by decide +kernel
theorem dX12_steps_39 : decode cX12_steps 39 = .ok (.bastore, 1) := by decide +kernel
theorem dX12_steps_40 : decode cX12_steps 40 = .ok (.aload_n 0, 1) := by decide +kernel
theorem dX12_steps_41 : decode cX12_steps 41 = .ok (.getfield 201, 3) := by decide +kernel
theorem dX12_steps_44 : decode cX12_steps 44 = .ok (.iload_n 3, 1) := by decide +kernel
theorem dX12_steps_45 : decode cX12_steps 45 = .ok (.aload_n 0, 1) := by decide +kernel
theorem dX12_steps_46 : decode cX12_steps 46 = .ok (.getfield 183, 3) := by decide +kernel
theorem dX12_steps_49 : decode cX12_steps 49 = .ok (.iload_n 3, 1) := by decide +kernel
theorem dX12_steps_50 : decode cX12_steps 50 = .ok (.baload, 1) := by decide +kernel
theorem dX12_steps_51 : decode cX12_steps 51 = .ok (.ifCond .ne 7, 3) := by decide +kernel
theorem dX12_steps_54 : decode cX12_steps 54 = .ok (.iconst 1, 1) := by decide +kernel
theorem dX12_steps_55 : decode cX12_steps 55 = .ok (.goto 4, 3) := by decide +kernel
theorem dX12_steps_58 : decode cX12_steps 58 = .ok (.iconst 0, 1) := by decide +kernel
theorem dX12_steps_59 : decode cX12_steps 59 = .ok (.bastore, 1) := by decide +kernel
theorem dX12_steps_60 : decode cX12_steps 60 = .ok (.aload_n 0, 1) := by decide +kernel
theorem dX12_steps_61 : decode cX12_steps 61 = .ok (.getfield 183, 3) := by decide +kernel
theorem dX12_steps_64 : decode cX12_steps 64 = .ok (.iload_n 3, 1) := by decide +kernel
theorem dX12_steps_65 : decode cX12_steps 65 = .ok (.baload, 1) := by decide +kernel
theorem dX12_steps_66 : decode cX12_steps 66 = .ok (.ifCond .ne 6, 3) := by decide +kernel
theorem dX12_steps_69 : decode cX12_steps 69 = .ok (.goto 144, 3) := by decide +kernel
theorem dX12_steps_72 : decode cX12_steps 72 = .ok (.aload_n 0, 1) := by decide +kernel
theorem dX12_steps_73 : decode cX12_steps 73 = .ok (.iload_n 1, 1) := by decide +kernel
theorem dX12_steps_74 : decode cX12_steps 74 = .ok (.iload_n 2, 1) := by decide +kernel
theorem dX12_steps_75 : decode cX12_steps 75 = .ok (.invokevirtual 546, 3) := by decide +kernel
theorem dX12_steps_78 : decode cX12_steps 78 = .ok (.bipush 6, 2) := by decide +kernel
theorem dX12_steps_80 : decode cX12_steps 80 = .ok (.iload_n 1, 1) := by decide +kernel
theorem dX12_steps_81 : decode cX12_steps 81 = .ok (.imul, 1) := by decide +kernel
theorem dX12_steps_82 : decode cX12_steps 82 = .ok (.istore 4, 2) := by decide +kernel
theorem dX12_steps_84 : decode cX12_steps 84 = .ok (.iload 4, 2) := by decide +kernel
theorem dX12_steps_86 : decode cX12_steps 86 = .ok (.bipush 6, 2) := by decide +kernel
theorem dX12_steps_88 : decode cX12_steps 88 = .ok (.iload_n 1, 1) := by decide +kernel
theorem dX12_steps_89 : decode cX12_steps 89 = .ok (.imul, 1) := by decide +kernel
theorem dX12_steps_90 : decode cX12_steps 90 = .ok (.aload_n 0, 1) := by decide +kernel
theorem dX12_steps_91 : decode cX12_steps 91 = .ok (.getfield 88, 3) := by decide +kernel
theorem dX12_steps_94 : decode cX12_steps 94 = .ok (.iload_n 1, 1) := by decide +kernel
theorem dX12_steps_95 : decode cX12_steps 95 = .ok (.iaload, 1) := by decide +kernel
theorem dX12_steps_96 : decode cX12_steps 96 = .ok (.iadd, 1) := by decide +kernel
theorem dX12_steps_97 : decode cX12_steps 97 = .ok (.if_icmp .ge 116, 3) := by decide +kernel
theorem dX12_steps_100 : decode cX12_steps 100 = .ok (.aload_n 0, 1) := by decide +kernel
theorem dX12_steps_101 : decode cX12_steps 101 = .ok (.getfield 119, 3) := by decide +kernel
theorem dX12_steps_104 : decode cX12_steps 104 = .ok (.iload 4, 2) := by decide +kernel
theorem dX12_steps_106 : decode cX12_steps 106 = .ok (.iaload, 1) := by decide +kernel
theorem dX12_steps_107 : decode cX12_steps 107 = .ok (.ifCond .eq 6, 3) := by decide +kernel
theorem dX12_steps_110 : decode cX12_steps 110 = .ok (.goto 97, 3) := by decide +kernel
theorem dX12_steps_113 : decode cX12_steps 113 = .ok (.aload_n 0, 1) := by decide +kernel
theorem dX12_steps_114 : decode cX12_steps 114 = .ok (.aload_n 0, 1) := by decide +kernel
theorem dX12_steps_115 : decode cX12_steps 115 = .ok (.getfield 122, 3) := by decide +kernel
theorem dX12_steps_118 : decode cX12_steps 118 = .ok (.iload 4, 2) := by decide +kernel
theorem dX12_steps_120 : decode cX12_steps 120 = .ok (.iaload, 1) := by decide +kernel
theorem dX12_steps_121 : decode cX12_steps 121 = .ok (.aload_n 0, 1) := by decide +kernel
theorem dX12_steps_122 : decode cX12_steps 122 = .ok (.getfield 125, 3) := by decide +kernel
theorem dX12_steps_125 : decode cX12_steps 125 = .ok (.iload 4, 2) := by decide +kernel
theorem dX12_steps_127 : decode cX12_steps 127 = .ok (.baload, 1) := by decide +kernel
theorem dX12_steps_128 : decode cX12_steps 128 = .ok (.aload_n 0, 1) := by decide +kernel
theorem dX12_steps_129 : decode cX12_steps 129 = .ok (.getfield 128, 3) := by decide +kernel
theorem dX12_steps_132 : decode cX12_steps 132 = .ok (.iload 4, 2) := by decide +kernel
theorem dX12_steps_134 : decode cX12_steps 134 = .ok (.iaload, 1) := by decide +kernel
theorem dX12_steps_135 : decode cX12_steps 135 = .ok (.aload_n 0, 1) := by decide +kernel
theorem dX12_steps_136 : decode cX12_steps 136 = .ok (.getfield 131, 3) := by decide +kernel
theorem dX12_steps_139 : decode cX12_steps 139 = .ok (.iload 4, 2) := by decide +kernel
theorem dX12_steps_141 : decode cX12_steps 141 = .ok (.iaload, 1) := by decide +kernel
theorem dX12_steps_142 : decode cX12_steps 142 = .ok (.invokevirtual 552, 3) := by decide +kernel
theorem dX12_steps_145 : decode cX12_steps 145 = .ok (.istore 5, 2) := by decide +kernel
theorem dX12_steps_147 : decode cX12_steps 147 = .ok (.aload_n 0, 1) := by decide +kernel
theorem dX12_steps_148 : decode cX12_steps 148 = .ok (.getfield 198, 3) := by decide +kernel
theorem dX12_steps_151 : decode cX12_steps 151 = .ok (.iload_n 3, 1) := by decide +kernel
theorem dX12_steps_152 : decode cX12_steps 152 = .ok (.aload_n 0, 1) := by decide +kernel
theorem dX12_steps_153 : decode cX12_steps 153 = .ok (.getfield 198, 3) := by decide +kernel
theorem dX12_steps_156 : decode cX12_steps 156 = .ok (.iload_n 3, 1) := by decide +kernel
theorem dX12_steps_157 : decode cX12_steps 157 = .ok (.baload, 1) := by decide +kernel
theorem dX12_steps_158 : decode cX12_steps 158 = .ok (.ifCond .eq 17, 3) := by decide +kernel
theorem dX12_steps_161 : decode cX12_steps 161 = .ok (.aload_n 0, 1) := by decide +kernel
theorem dX12_steps_162 : decode cX12_steps 162 = .ok (.getfield 207, 3) := by decide +kernel
theorem dX12_steps_165 : decode cX12_steps 165 = .ok (.iload 5, 2) := by decide +kernel
theorem dX12_steps_167 : decode cX12_steps 167 = .ok (.baload, 1) := by decide +kernel
theorem dX12_steps_168 : decode cX12_steps 168 = .ok (.ifCond .eq 7, 3) := by decide +kernel
theorem dX12_steps_171 : decode cX12_steps 171 = .ok (.iconst 1, 1) := by decide +kernel
theorem dX12_steps_172 : decode cX12_steps 172 = .ok (.goto 4, 3) := by decide +kernel
theorem dX12_steps_175 : decode cX12_steps 175 = .ok (.iconst 0, 1) := by decide +kernel
theorem dX12_steps_176 : decode cX12_steps 176 = .ok (.bastore, 1) := by decide +kernel
theorem dX12_steps_177 : decode cX12_steps 177 = .ok (.aload_n 0, 1) := by decide +kernel
theorem dX12_steps_178 : decode cX12_steps 178 = .ok (.getfield 201, 3) := by decide +kernel
theorem dX12_steps_181 : decode cX12_steps 181 = .ok (.iload_n 3, 1) := by decide +kernel
theorem dX12_steps_182 : decode cX12_steps 182 = .ok (.aload_n 0, 1) := by decide +kernel
theorem dX12_steps_183 : decode cX12_steps 183 = .ok (.getfield 201, 3) := by decide +kernel
theorem dX12_steps_186 : decode cX12_steps 186 = .ok (.iload_n 3, 1) := by decide +kernel
theorem dX12_steps_187 : decode cX12_steps 187 = .ok (.baload, 1) := by decide +kernel
theorem dX12_steps_188 : decode cX12_steps 188 = .ok (.ifCond .ne 13, 3) := by decide +kernel
theorem dX12_steps_191 : decode cX12_steps 191 = .ok (.aload_n 0, 1) := by decide +kernel
theorem dX12_steps_192 : decode cX12_steps 192 = .ok (.getfield 210, 3) := by decide +kernel
theorem dX12_steps_195 : decode cX12_steps 195 = .ok (.iload 5, 2) := by decide +kernel
theorem dX12_steps_197 : decode cX12_steps 197 = .ok (.baload, 1) := by decide +kernel
theorem dX12_steps_198 : decode cX12_steps 198 = .ok (.ifCond .eq 7, 3) := by decide +kernel
theorem dX12_steps_201 : decode cX12_steps 201 = .ok (.iconst 1, 1) := by decide +kernel
theorem dX12_steps_202 : decode cX12_steps 202 = .ok (.goto 4, 3) := by decide +kernel
theorem dX12_steps_205 : decode cX12_steps 205 = .ok (.iconst 0, 1) := by decide +kernel
theorem dX12_steps_206 : decode cX12_steps 206 = .ok (.bastore, 1) := by decide +kernel
theorem dX12_steps_207 : decode cX12_steps 207 = .ok (.iinc 4 1, 3) := by decide +kernel
theorem dX12_steps_210 : decode cX12_steps 210 = .ok (.goto (-126), 3) := by decide +kernel
theorem dX12_steps_213 : decode cX12_steps 213 = .ok (.iinc 2 1, 3) := by decide +kernel
theorem dX12_steps_216 : decode cX12_steps 216 = .ok (.goto (-204), 3) := by decide +kernel
theorem dX12_steps_219 : decode cX12_steps 219 = .ok (.iinc 1 1, 3) := by decide +kernel
theorem dX12_steps_222 : decode cX12_steps 222 = .ok (.goto (-220), 3) := by decide +kernel
theorem dX12_steps_225 : decode cX12_steps 225 = .ok (.return_, 1) := by decide +kernel
def fX12_steps_213 (k2 : MS → Int32 → Option (MS)) (k12 : MS → Int32 → Int32 → Option (MS)) (h : MS) (x1 : Int32) (x2 : Int32) : Option (MS) :=
  oL (x2 + 1) (fun y1 => k12 h x1 y1)
set_option maxHeartbeats 4000000 in
theorem wfX12_steps_213 {args : Array Value} (b : Bd p s m c cX12_steps 6 RX12 D aC) (hlk : meth.locks = false) (hr : meth.sig.returnType = none) {Z : State → Prop} (zs : Z s) (zk : ZOK Z (Rg ad)) {hz : MS} {k2 : MS → Int32 → Option (MS)} (H2 : ∀ (h : MS) (x1 : Int32), ∀ (H : Heap) (locs : List Loc) (ls : Array Slot), k2 h x1 = some hz → CE (EM D aC ad h) (Rg ad) s H locs → lv_has ls 6 [(0, .ref (ad 116)), (1, .int x1)] → W p l e (RM 2 47 0 0) s m args below meth c H locs 0 0 (MQ below (PQ (EM D aC ad hz) (Rg ad) none) args s 0 0 (Rg ad)) (F0 m 2 ls [])) {k12 : MS → Int32 → Int32 → Option (MS)} (H12 : ∀ (h : MS) (x1 : Int32) (x2 : Int32), ∀ (H : Heap) (locs : List Loc) (ls : Array Slot), k12 h x1 x2 = some hz → CE (EM D aC ad h) (Rg ad) s H locs → lv_has ls 6 [(0, .ref (ad 116)), (1, .int x1), (2, .int x2)] → W p l e (RM 2 47 0 0) s m args below meth c H locs 0 0 (MQ below (PQ (EM D aC ad hz) (Rg ad) none) args s 0 0 (Rg ad)) (F0 m 12 ls [])) {h : MS} {x1 : Int32} {x2 : Int32}  {H : Heap} {locs : List Loc} {ls : Array Slot} (hf : fX12_steps_213 k2 k12 h x1 x2 = some hz) (hE : CE (EM D aC ad h) (Rg ad) s H locs) (hl : lv_has ls 6 [(0, .ref (ad 116)), (1, .int x1), (2, .int x2)]) : W p l e (RM 2 47 0 0) s m args below meth c H locs 0 0 (MQ below (PQ (EM D aC ad hz) (Rg ad) none) args s 0 0 (Rg ad)) (F0 m 213 ls []) := by
  unfold fX12_steps_213 at hf
  obtain ⟨y1, ey1, hf⟩ := oL_s hf
  refine lv_iinc (v := y1) (lv' := [(2, .int y1), (0, .ref (ad 116)), (1, .int x1)]) b.1 b.2.1 dX12_steps_213 hl (k := 2) rfl (by rw [ey1]; rfl) (by decide) rfl (fun ls hl => ?_)
  refine lv_goto (tgt := 12) b.1 b.2.1 dX12_steps_216 (by decide) ?_
  exact H12 h x1 y1 _ _ _ hf hE (lv_sub hl [1, 2, 0] rfl)
def fX12_steps_207 (k2 : MS → Int32 → Option (MS)) (k12 : MS → Int32 → Int32 → Option (MS)) (k84 : MS → Int32 → Int32 → Int32 → Int32 → Option (MS)) (h : MS) (x1 : Int32) (x2 : Int32) (x3 : Int32) (x4 : Int32) : Option (MS) :=
  oL (x4 + 1) (fun y2 => k84 h x1 x2 x3 y2)
set_option maxHeartbeats 4000000 in
theorem wfX12_steps_207 {args : Array Value} (b : Bd p s m c cX12_steps 6 RX12 D aC) (hlk : meth.locks = false) (hr : meth.sig.returnType = none) {Z : State → Prop} (zs : Z s) (zk : ZOK Z (Rg ad)) {hz : MS} {k2 : MS → Int32 → Option (MS)} (H2 : ∀ (h : MS) (x1 : Int32), ∀ (H : Heap) (locs : List Loc) (ls : Array Slot), k2 h x1 = some hz → CE (EM D aC ad h) (Rg ad) s H locs → lv_has ls 6 [(0, .ref (ad 116)), (1, .int x1)] → W p l e (RM 2 47 0 0) s m args below meth c H locs 0 0 (MQ below (PQ (EM D aC ad hz) (Rg ad) none) args s 0 0 (Rg ad)) (F0 m 2 ls [])) {k12 : MS → Int32 → Int32 → Option (MS)} (H12 : ∀ (h : MS) (x1 : Int32) (x2 : Int32), ∀ (H : Heap) (locs : List Loc) (ls : Array Slot), k12 h x1 x2 = some hz → CE (EM D aC ad h) (Rg ad) s H locs → lv_has ls 6 [(0, .ref (ad 116)), (1, .int x1), (2, .int x2)] → W p l e (RM 2 47 0 0) s m args below meth c H locs 0 0 (MQ below (PQ (EM D aC ad hz) (Rg ad) none) args s 0 0 (Rg ad)) (F0 m 12 ls [])) {k84 : MS → Int32 → Int32 → Int32 → Int32 → Option (MS)} (H84 : ∀ (h : MS) (x1 : Int32) (x2 : Int32) (x3 : Int32) (x4 : Int32), ∀ (H : Heap) (locs : List Loc) (ls : Array Slot), k84 h x1 x2 x3 x4 = some hz → CE (EM D aC ad h) (Rg ad) s H locs → lv_has ls 6 [(0, .ref (ad 116)), (1, .int x1), (2, .int x2), (3, .int x3), (4, .int x4)] → W p l e (RM 2 47 0 0) s m args below meth c H locs 0 0 (MQ below (PQ (EM D aC ad hz) (Rg ad) none) args s 0 0 (Rg ad)) (F0 m 84 ls [])) {h : MS} {x1 : Int32} {x2 : Int32} {x3 : Int32} {x4 : Int32}  {H : Heap} {locs : List Loc} {ls : Array Slot} (hf : fX12_steps_207 k2 k12 k84 h x1 x2 x3 x4 = some hz) (hE : CE (EM D aC ad h) (Rg ad) s H locs) (hl : lv_has ls 6 [(0, .ref (ad 116)), (1, .int x1), (2, .int x2), (3, .int x3), (4, .int x4)]) : W p l e (RM 2 47 0 0) s m args below meth c H locs 0 0 (MQ below (PQ (EM D aC ad hz) (Rg ad) none) args s 0 0 (Rg ad)) (F0 m 207 ls []) := by
  unfold fX12_steps_207 at hf
  obtain ⟨y2, ey2, hf⟩ := oL_s hf
  refine lv_iinc (v := y2) (lv' := [(4, .int y2), (0, .ref (ad 116)), (1, .int x1), (2, .int x2), (3, .int x3)]) b.1 b.2.1 dX12_steps_207 hl (k := 4) rfl (by rw [ey2]; rfl) (by decide) rfl (fun ls hl => ?_)
  refine lv_goto (tgt := 84) b.1 b.2.1 dX12_steps_210 (by decide) ?_
  exact H84 h x1 x2 x3 y2 _ _ _ hf hE (lv_sub hl [1, 2, 3, 4, 0] rfl)
def fX12_steps_206 (k2 : MS → Int32 → Option (MS)) (k12 : MS → Int32 → Int32 → Option (MS)) (k84 : MS → Int32 → Int32 → Int32 → Int32 → Option (MS)) (h : MS) (x1 : Int32) (x2 : Int32) (x3 : Int32) (x4 : Int32) (s0 : Int32) (s1 : Int32) : Option (MS) :=
  oC (isB s0) (oC (ix s1 (mlen 90)) (oL (mSA h 90 (Int32.toNatClampNeg s1) s0) (fun h5 => fX12_steps_207 k2 k12 k84 h5 x1 x2 x3 x4)))
set_option maxHeartbeats 4000000 in
theorem wfX12_steps_206 {args : Array Value} (b : Bd p s m c cX12_steps 6 RX12 D aC) (hlk : meth.locks = false) (hr : meth.sig.returnType = none) {Z : State → Prop} (zs : Z s) (zk : ZOK Z (Rg ad)) {hz : MS} {k2 : MS → Int32 → Option (MS)} (H2 : ∀ (h : MS) (x1 : Int32), ∀ (H : Heap) (locs : List Loc) (ls : Array Slot), k2 h x1 = some hz → CE (EM D aC ad h) (Rg ad) s H locs → lv_has ls 6 [(0, .ref (ad 116)), (1, .int x1)] → W p l e (RM 2 47 0 0) s m args below meth c H locs 0 0 (MQ below (PQ (EM D aC ad hz) (Rg ad) none) args s 0 0 (Rg ad)) (F0 m 2 ls [])) {k12 : MS → Int32 → Int32 → Option (MS)} (H12 : ∀ (h : MS) (x1 : Int32) (x2 : Int32), ∀ (H : Heap) (locs : List Loc) (ls : Array Slot), k12 h x1 x2 = some hz → CE (EM D aC ad h) (Rg ad) s H locs → lv_has ls 6 [(0, .ref (ad 116)), (1, .int x1), (2, .int x2)] → W p l e (RM 2 47 0 0) s m args below meth c H locs 0 0 (MQ below (PQ (EM D aC ad hz) (Rg ad) none) args s 0 0 (Rg ad)) (F0 m 12 ls [])) {k84 : MS → Int32 → Int32 → Int32 → Int32 → Option (MS)} (H84 : ∀ (h : MS) (x1 : Int32) (x2 : Int32) (x3 : Int32) (x4 : Int32), ∀ (H : Heap) (locs : List Loc) (ls : Array Slot), k84 h x1 x2 x3 x4 = some hz → CE (EM D aC ad h) (Rg ad) s H locs → lv_has ls 6 [(0, .ref (ad 116)), (1, .int x1), (2, .int x2), (3, .int x3), (4, .int x4)] → W p l e (RM 2 47 0 0) s m args below meth c H locs 0 0 (MQ below (PQ (EM D aC ad hz) (Rg ad) none) args s 0 0 (Rg ad)) (F0 m 84 ls [])) {h : MS} {x1 : Int32} {x2 : Int32} {x3 : Int32} {x4 : Int32} {s0 : Int32} {s1 : Int32}  {H : Heap} {locs : List Loc} {ls : Array Slot} (hf : fX12_steps_206 k2 k12 k84 h x1 x2 x3 x4 s0 s1 = some hz) (hE : CE (EM D aC ad h) (Rg ad) s H locs) (hl : lv_has ls 6 [(0, .ref (ad 116)), (1, .int x1), (2, .int x2), (3, .int x3), (4, .int x4)]) : W p l e (RM 2 47 0 0) s m args below meth c H locs 0 0 (MQ below (PQ (EM D aC ad hz) (Rg ad) none) args s 0 0 (Rg ad)) (F0 m 206 ls [.int s0, .int s1, .ref (ad 90)]) := by
  unfold fX12_steps_206 at hf
  obtain ⟨g3, hf⟩ := oC_s hf
  obtain ⟨g4, hf⟩ := oC_s hf
  obtain ⟨h5, eh5, hf⟩ := oL_s hf
  refine n_zast b hE g3 rfl rfl g4 eh5 dX12_steps_206 (fun H locs hE => ?_)
  exact wfX12_steps_207 b hlk hr zs zk H2 H12 H84 hf hE (lv_sub hl [0, 1, 2, 3, 4] rfl)
def fX12_steps_176 (k2 : MS → Int32 → Option (MS)) (k12 : MS → Int32 → Int32 → Option (MS)) (k84 : MS → Int32 → Int32 → Int32 → Int32 → Option (MS)) (h : MS) (x1 : Int32) (x2 : Int32) (x3 : Int32) (x4 : Int32) (x5 : Int32) (s0 : Int32) (s1 : Int32) : Option (MS) :=
  oC (isB s0) (oC (ix s1 (mlen 89)) (oL (mSA h 89 (Int32.toNatClampNeg s1) s0) (fun h8 => oC (ix x3 (mlen 90)) (if (mA h8 90 (Int32.toNatClampNeg x3)) = 0 then (oC (ix x5 (mlen 93)) (if (mA h8 93 (Int32.toNatClampNeg x5)) = 0 then (fX12_steps_206 k2 k12 k84 h8 x1 x2 x3 x4 0 x3) else (fX12_steps_206 k2 k12 k84 h8 x1 x2 x3 x4 1 x3))) else (fX12_steps_206 k2 k12 k84 h8 x1 x2 x3 x4 1 x3)))))
set_option maxHeartbeats 4000000 in
theorem wfX12_steps_176 {args : Array Value} (b : Bd p s m c cX12_steps 6 RX12 D aC) (hlk : meth.locks = false) (hr : meth.sig.returnType = none) {Z : State → Prop} (zs : Z s) (zk : ZOK Z (Rg ad)) {hz : MS} {k2 : MS → Int32 → Option (MS)} (H2 : ∀ (h : MS) (x1 : Int32), ∀ (H : Heap) (locs : List Loc) (ls : Array Slot), k2 h x1 = some hz → CE (EM D aC ad h) (Rg ad) s H locs → lv_has ls 6 [(0, .ref (ad 116)), (1, .int x1)] → W p l e (RM 2 47 0 0) s m args below meth c H locs 0 0 (MQ below (PQ (EM D aC ad hz) (Rg ad) none) args s 0 0 (Rg ad)) (F0 m 2 ls [])) {k12 : MS → Int32 → Int32 → Option (MS)} (H12 : ∀ (h : MS) (x1 : Int32) (x2 : Int32), ∀ (H : Heap) (locs : List Loc) (ls : Array Slot), k12 h x1 x2 = some hz → CE (EM D aC ad h) (Rg ad) s H locs → lv_has ls 6 [(0, .ref (ad 116)), (1, .int x1), (2, .int x2)] → W p l e (RM 2 47 0 0) s m args below meth c H locs 0 0 (MQ below (PQ (EM D aC ad hz) (Rg ad) none) args s 0 0 (Rg ad)) (F0 m 12 ls [])) {k84 : MS → Int32 → Int32 → Int32 → Int32 → Option (MS)} (H84 : ∀ (h : MS) (x1 : Int32) (x2 : Int32) (x3 : Int32) (x4 : Int32), ∀ (H : Heap) (locs : List Loc) (ls : Array Slot), k84 h x1 x2 x3 x4 = some hz → CE (EM D aC ad h) (Rg ad) s H locs → lv_has ls 6 [(0, .ref (ad 116)), (1, .int x1), (2, .int x2), (3, .int x3), (4, .int x4)] → W p l e (RM 2 47 0 0) s m args below meth c H locs 0 0 (MQ below (PQ (EM D aC ad hz) (Rg ad) none) args s 0 0 (Rg ad)) (F0 m 84 ls [])) {h : MS} {x1 : Int32} {x2 : Int32} {x3 : Int32} {x4 : Int32} {x5 : Int32} {s0 : Int32} {s1 : Int32}  {H : Heap} {locs : List Loc} {ls : Array Slot} (hf : fX12_steps_176 k2 k12 k84 h x1 x2 x3 x4 x5 s0 s1 = some hz) (hE : CE (EM D aC ad h) (Rg ad) s H locs) (hl : lv_has ls 6 [(0, .ref (ad 116)), (1, .int x1), (2, .int x2), (3, .int x3), (4, .int x4), (5, .int x5)]) : W p l e (RM 2 47 0 0) s m args below meth c H locs 0 0 (MQ below (PQ (EM D aC ad hz) (Rg ad) none) args s 0 0 (Rg ad)) (F0 m 176 ls [.int s0, .int s1, .ref (ad 89)]) := by
  unfold fX12_steps_176 at hf
  obtain ⟨g6, hf⟩ := oC_s hf
  obtain ⟨g7, hf⟩ := oC_s hf
  obtain ⟨h8, eh8, hf⟩ := oL_s hf
  refine n_zast b hE g6 rfl rfl g7 eh8 dX12_steps_176 (fun H locs hE => ?_)
  refine lv_aload_n b.1 b.2.1 dX12_steps_177 rfl (lv_at hl 0 rfl) ?_
  refine gM_201 b hE dX12_steps_178 ?_
  refine lv_iload_n b.1 b.2.1 dX12_steps_181 rfl (lv_at hl 3 rfl) ?_
  refine lv_aload_n b.1 b.2.1 dX12_steps_182 rfl (lv_at hl 0 rfl) ?_
  refine gM_201 b hE dX12_steps_183 ?_
  refine lv_iload_n b.1 b.2.1 dX12_steps_186 rfl (lv_at hl 3 rfl) ?_
  obtain ⟨g9, hf⟩ := oC_s hf
  refine m_zald b hE rfl rfl g9 dX12_steps_187 ?_
  refine lv_if_ne (tgt := 201) b.1 b.2.1 dX12_steps_188 (by decide) (fun c10 => ?_) (fun c10 => ?_)
  · have hf := oI_f c10 hf
    refine lv_iconst (v := 1) b.1 b.2.1 dX12_steps_201 (by decide) ?_
    refine lv_goto (tgt := 206) b.1 b.2.1 dX12_steps_202 (by decide) ?_
    exact wfX12_steps_206 b hlk hr zs zk H2 H12 H84 hf hE (lv_sub hl [0, 1, 2, 3, 4] rfl)
  · have hf := oI_t c10 hf
    refine lv_aload_n b.1 b.2.1 dX12_steps_191 rfl (lv_at hl 0 rfl) ?_
    refine gM_210 b hE dX12_steps_192 ?_
    refine lv_iload b.1 b.2.1 dX12_steps_195 (lv_at hl 5 rfl) ?_
    obtain ⟨g11, hf⟩ := oC_s hf
    refine m_zald b hE rfl rfl g11 dX12_steps_197 ?_
    refine lv_if_eq (tgt := 205) b.1 b.2.1 dX12_steps_198 (by decide) (fun c12 => ?_) (fun c12 => ?_)
    · have hf := oI_t c12 hf
      refine lv_iconst (v := 0) b.1 b.2.1 dX12_steps_205 (by decide) ?_
      exact wfX12_steps_206 b hlk hr zs zk H2 H12 H84 hf hE (lv_sub hl [0, 1, 2, 3, 4] rfl)
    · have hf := oI_f c12 hf
      refine lv_iconst (v := 1) b.1 b.2.1 dX12_steps_201 (by decide) ?_
      refine lv_goto (tgt := 206) b.1 b.2.1 dX12_steps_202 (by decide) ?_
      exact wfX12_steps_206 b hlk hr zs zk H2 H12 H84 hf hE (lv_sub hl [0, 1, 2, 3, 4] rfl)
def fX12_steps_84F (k2 : MS → Int32 → Option (MS)) (k12 : MS → Int32 → Int32 → Option (MS)) (k84 : MS → Int32 → Int32 → Int32 → Int32 → Option (MS)) (h : MS) (x1 : Int32) (x2 : Int32) (x3 : Int32) (x4 : Int32) : Option (MS) :=
  oC (ix x1 (mlen 41)) (if ((6 * x1) + (mA h 41 (Int32.toNatClampNeg x1))) ≤ x4 then (fX12_steps_213 k2 k12 h x1 x2) else (oC (ix x4 (mlen 51)) (if (mA h 51 (Int32.toNatClampNeg x4)) = 0 then (oC (ix x4 (mlen 52)) (oC (ix x4 (mlen 53)) (oC (ix x4 (mlen 54)) (oC (ix x4 (mlen 55)) (oB (fX12_literalBy h (mA h 52 (Int32.toNatClampNeg x4)) (mA h 53 (Int32.toNatClampNeg x4)) (mA h 54 (Int32.toNatClampNeg x4)) (mA h 55 (Int32.toNatClampNeg x4))) (fun r22 => oC (ix x3 (mlen 89)) (if (mA h 89 (Int32.toNatClampNeg x3)) = 0 then (fX12_steps_176 k2 k12 k84 h x1 x2 x3 x4 r22 0 x3) else (oC (ix r22 (mlen 92)) (if (mA h 92 (Int32.toNatClampNeg r22)) = 0 then (fX12_steps_176 k2 k12 k84 h x1 x2 x3 x4 r22 0 x3) else (fX12_steps_176 k2 k12 k84 h x1 x2 x3 x4 r22 1 x3)))))))))) else (fX12_steps_207 k2 k12 k84 h x1 x2 x3 x4))))
set_option maxHeartbeats 4000000 in
theorem wfX12_steps_84F {args : Array Value} (b : Bd p s m c cX12_steps 6 RX12 D aC) (hlk : meth.locks = false) (hr : meth.sig.returnType = none) {Z : State → Prop} (zs : Z s) (zk : ZOK Z (Rg ad)) {hz : MS} {k2 : MS → Int32 → Option (MS)} (H2 : ∀ (h : MS) (x1 : Int32), ∀ (H : Heap) (locs : List Loc) (ls : Array Slot), k2 h x1 = some hz → CE (EM D aC ad h) (Rg ad) s H locs → lv_has ls 6 [(0, .ref (ad 116)), (1, .int x1)] → W p l e (RM 2 47 0 0) s m args below meth c H locs 0 0 (MQ below (PQ (EM D aC ad hz) (Rg ad) none) args s 0 0 (Rg ad)) (F0 m 2 ls [])) {k12 : MS → Int32 → Int32 → Option (MS)} (H12 : ∀ (h : MS) (x1 : Int32) (x2 : Int32), ∀ (H : Heap) (locs : List Loc) (ls : Array Slot), k12 h x1 x2 = some hz → CE (EM D aC ad h) (Rg ad) s H locs → lv_has ls 6 [(0, .ref (ad 116)), (1, .int x1), (2, .int x2)] → W p l e (RM 2 47 0 0) s m args below meth c H locs 0 0 (MQ below (PQ (EM D aC ad hz) (Rg ad) none) args s 0 0 (Rg ad)) (F0 m 12 ls [])) {k84 : MS → Int32 → Int32 → Int32 → Int32 → Option (MS)} (H84 : ∀ (h : MS) (x1 : Int32) (x2 : Int32) (x3 : Int32) (x4 : Int32), ∀ (H : Heap) (locs : List Loc) (ls : Array Slot), k84 h x1 x2 x3 x4 = some hz → CE (EM D aC ad h) (Rg ad) s H locs → lv_has ls 6 [(0, .ref (ad 116)), (1, .int x1), (2, .int x2), (3, .int x3), (4, .int x4)] → W p l e (RM 2 47 0 0) s m args below meth c H locs 0 0 (MQ below (PQ (EM D aC ad hz) (Rg ad) none) args s 0 0 (Rg ad)) (F0 m 84 ls [])) {h : MS} {x1 : Int32} {x2 : Int32} {x3 : Int32} {x4 : Int32}  {H : Heap} {locs : List Loc} {ls : Array Slot} (hf : fX12_steps_84F k2 k12 k84 h x1 x2 x3 x4 = some hz) (hE : CE (EM D aC ad h) (Rg ad) s H locs) (hl : lv_has ls 6 [(0, .ref (ad 116)), (1, .int x1), (2, .int x2), (3, .int x3), (4, .int x4)]) : W p l e (RM 2 47 0 0) s m args below meth c H locs 0 0 (MQ below (PQ (EM D aC ad hz) (Rg ad) none) args s 0 0 (Rg ad)) (F0 m 84 ls []) := by
  unfold fX12_steps_84F at hf
  refine lv_iload b.1 b.2.1 dX12_steps_84 (lv_at hl 4 rfl) ?_
  refine lv_bipush (v := 6) b.1 b.2.1 dX12_steps_86 (by decide) ?_
  refine lv_iload_n b.1 b.2.1 dX12_steps_88 rfl (lv_at hl 1 rfl) ?_
  refine lv_imul b.1 b.2.1 dX12_steps_89 ?_
  refine lv_aload_n b.1 b.2.1 dX12_steps_90 rfl (lv_at hl 0 rfl) ?_
  refine gM_88 b hE dX12_steps_91 ?_
  refine lv_iload_n b.1 b.2.1 dX12_steps_94 rfl (lv_at hl 1 rfl) ?_
  obtain ⟨g13, hf⟩ := oC_s hf
  refine m_iald b hE rfl rfl g13 dX12_steps_95 ?_
  refine lv_iadd b.1 b.2.1 dX12_steps_96 ?_
  refine lv_icmp_ge (tgt := 213) b.1 b.2.1 dX12_steps_97 (by decide) (fun c14 => ?_) (fun c14 => ?_)
  · have hf := oI_t c14 hf
    exact wfX12_steps_213 b hlk hr zs zk H2 H12 hf hE (lv_sub hl [0, 1, 2] rfl)
  · have hf := oI_f c14 hf
    refine lv_aload_n b.1 b.2.1 dX12_steps_100 rfl (lv_at hl 0 rfl) ?_
    refine gM_119 b hE dX12_steps_101 ?_
    refine lv_iload b.1 b.2.1 dX12_steps_104 (lv_at hl 4 rfl) ?_
    obtain ⟨g15, hf⟩ := oC_s hf
    refine m_iald b hE rfl rfl g15 dX12_steps_106 ?_
    refine lv_if_eq (tgt := 113) b.1 b.2.1 dX12_steps_107 (by decide) (fun c16 => ?_) (fun c16 => ?_)
    · have hf := oI_t c16 hf
      refine lv_aload_n b.1 b.2.1 dX12_steps_113 rfl (lv_at hl 0 rfl) ?_
      refine lv_aload_n b.1 b.2.1 dX12_steps_114 rfl (lv_at hl 0 rfl) ?_
      refine gM_122 b hE dX12_steps_115 ?_
      refine lv_iload b.1 b.2.1 dX12_steps_118 (lv_at hl 4 rfl) ?_
      obtain ⟨g17, hf⟩ := oC_s hf
      refine m_iald b hE rfl rfl g17 dX12_steps_120 ?_
      refine lv_aload_n b.1 b.2.1 dX12_steps_121 rfl (lv_at hl 0 rfl) ?_
      refine gM_125 b hE dX12_steps_122 ?_
      refine lv_iload b.1 b.2.1 dX12_steps_125 (lv_at hl 4 rfl) ?_
      obtain ⟨g18, hf⟩ := oC_s hf
      refine m_zald b hE rfl rfl g18 dX12_steps_127 ?_
      refine lv_aload_n b.1 b.2.1 dX12_steps_128 rfl (lv_at hl 0 rfl) ?_
      refine gM_128 b hE dX12_steps_129 ?_
      refine lv_iload b.1 b.2.1 dX12_steps_132 (lv_at hl 4 rfl) ?_
      obtain ⟨g19, hf⟩ := oC_s hf
      refine m_iald b hE rfl rfl g19 dX12_steps_134 ?_
      refine lv_aload_n b.1 b.2.1 dX12_steps_135 rfl (lv_at hl 0 rfl) ?_
      refine gM_131 b hE dX12_steps_136 ?_
      refine lv_iload b.1 b.2.1 dX12_steps_139 (lv_at hl 4 rfl) ?_
      obtain ⟨g20, hf⟩ := oC_s hf
      refine m_iald b hE rfl rfl g20 dX12_steps_141 ?_
      obtain ⟨r22, hc21, hf⟩ := oB_s hf
      refine k_callV0 (C := RX12) b zs zk hE (CX12_literalBy l D aC ad zk hc21) mc_X12_literalBy (in8 48 rfl rfl) mi_X12_literalBy ms_X12_literalBy ini_RX12 ok_X12_literalBy (m_recv b hE) ⟨Nat.le_of_ble_eq_true rfl, Nat.le_of_ble_eq_true rfl⟩ rfl hl.1 rfl (k_room _ (by exact Nat.le_of_ble_eq_true rfl)) ⟨Nat.le_refl _, Nat.le_refl _⟩ dX12_steps_142 (fun H locs hE => ?_)
      refine lv_istore (lv' := [(5, .int r22), (0, .ref (ad 116)), (1, .int x1), (2, .int x2), (3, .int x3), (4, .int x4)]) b.1 b.2.1 dX12_steps_145 hl (by decide) rfl (fun ls hl => ?_)
      refine lv_aload_n b.1 b.2.1 dX12_steps_147 rfl (lv_at hl 1 rfl) ?_
      refine gM_198 b hE dX12_steps_148 ?_
      refine lv_iload_n b.1 b.2.1 dX12_steps_151 rfl (lv_at hl 4 rfl) ?_
      refine lv_aload_n b.1 b.2.1 dX12_steps_152 rfl (lv_at hl 1 rfl) ?_
      refine gM_198 b hE dX12_steps_153 ?_
      refine lv_iload_n b.1 b.2.1 dX12_steps_156 rfl (lv_at hl 4 rfl) ?_
      obtain ⟨g23, hf⟩ := oC_s hf
      refine m_zald b hE rfl rfl g23 dX12_steps_157 ?_
      refine lv_if_eq (tgt := 175) b.1 b.2.1 dX12_steps_158 (by decide) (fun c24 => ?_) (fun c24 => ?_)
      · have hf := oI_t c24 hf
        refine lv_iconst (v := 0) b.1 b.2.1 dX12_steps_175 (by decide) ?_
        exact wfX12_steps_176 b hlk hr zs zk H2 H12 H84 hf hE (lv_sub hl [1, 2, 3, 4, 5, 0] rfl)
      · have hf := oI_f c24 hf
        refine lv_aload_n b.1 b.2.1 dX12_steps_161 rfl (lv_at hl 1 rfl) ?_
        refine gM_207 b hE dX12_steps_162 ?_
        refine lv_iload b.1 b.2.1 dX12_steps_165 (lv_at hl 0 rfl) ?_
        obtain ⟨g25, hf⟩ := oC_s hf
        refine m_zald b hE rfl rfl g25 dX12_steps_167 ?_
        refine lv_if_eq (tgt := 175) b.1 b.2.1 dX12_steps_168 (by decide) (fun c26 => ?_) (fun c26 => ?_)
        · have hf := oI_t c26 hf
          refine lv_iconst (v := 0) b.1 b.2.1 dX12_steps_175 (by decide) ?_
          exact wfX12_steps_176 b hlk hr zs zk H2 H12 H84 hf hE (lv_sub hl [1, 2, 3, 4, 5, 0] rfl)
        · have hf := oI_f c26 hf
          refine lv_iconst (v := 1) b.1 b.2.1 dX12_steps_171 (by decide) ?_
          refine lv_goto (tgt := 176) b.1 b.2.1 dX12_steps_172 (by decide) ?_
          exact wfX12_steps_176 b hlk hr zs zk H2 H12 H84 hf hE (lv_sub hl [1, 2, 3, 4, 5, 0] rfl)
    · have hf := oI_f c16 hf
      refine lv_goto (tgt := 207) b.1 b.2.1 dX12_steps_110 (by decide) ?_
      exact wfX12_steps_207 b hlk hr zs zk H2 H12 H84 hf hE (lv_sub hl [0, 1, 2, 3, 4] rfl)
def fX12_steps_84 (k2 : MS → Int32 → Option (MS)) (k12 : MS → Int32 → Int32 → Option (MS)) : Nat → MS → Int32 → Int32 → Int32 → Int32 → Option (MS)
  | 0 => fun _ _ _ _ _ => none
  | n + 1 => fX12_steps_84F k2 k12 (fX12_steps_84 k2 k12 n)
set_option maxHeartbeats 4000000 in
theorem wfX12_steps_84 {args : Array Value} (b : Bd p s m c cX12_steps 6 RX12 D aC) (hlk : meth.locks = false) (hr : meth.sig.returnType = none) {Z : State → Prop} (zs : Z s) (zk : ZOK Z (Rg ad)) {hz : MS} {k2 : MS → Int32 → Option (MS)} (H2 : ∀ (h : MS) (x1 : Int32), ∀ (H : Heap) (locs : List Loc) (ls : Array Slot), k2 h x1 = some hz → CE (EM D aC ad h) (Rg ad) s H locs → lv_has ls 6 [(0, .ref (ad 116)), (1, .int x1)] → W p l e (RM 2 47 0 0) s m args below meth c H locs 0 0 (MQ below (PQ (EM D aC ad hz) (Rg ad) none) args s 0 0 (Rg ad)) (F0 m 2 ls [])) {k12 : MS → Int32 → Int32 → Option (MS)} (H12 : ∀ (h : MS) (x1 : Int32) (x2 : Int32), ∀ (H : Heap) (locs : List Loc) (ls : Array Slot), k12 h x1 x2 = some hz → CE (EM D aC ad h) (Rg ad) s H locs → lv_has ls 6 [(0, .ref (ad 116)), (1, .int x1), (2, .int x2)] → W p l e (RM 2 47 0 0) s m args below meth c H locs 0 0 (MQ below (PQ (EM D aC ad hz) (Rg ad) none) args s 0 0 (Rg ad)) (F0 m 12 ls [])) : ∀ n : Nat, ∀ (h : MS) (x1 : Int32) (x2 : Int32) (x3 : Int32) (x4 : Int32), ∀ (H : Heap) (locs : List Loc) (ls : Array Slot), fX12_steps_84 k2 k12 n h x1 x2 x3 x4 = some hz → CE (EM D aC ad h) (Rg ad) s H locs → lv_has ls 6 [(0, .ref (ad 116)), (1, .int x1), (2, .int x2), (3, .int x3), (4, .int x4)] → W p l e (RM 2 47 0 0) s m args below meth c H locs 0 0 (MQ below (PQ (EM D aC ad hz) (Rg ad) none) args s 0 0 (Rg ad)) (F0 m 84 ls []) := by
  intro n
  induction n with
  | zero =>
    intro h x1 x2 x3 x4 H locs ls hf
    have hf : (none : Option (MS)) = some _ := hf
    cases hf
  | succ n ih =>
    intro h x1 x2 x3 x4 H locs ls hf hE hl
    exact wfX12_steps_84F b hlk hr zs zk H2 H12 ih hf hE hl
def fX12_steps_59 (k2 : MS → Int32 → Option (MS)) (k12 : MS → Int32 → Int32 → Option (MS)) (h : MS) (x1 : Int32) (x2 : Int32) (x3 : Int32) (s0 : Int32) (s1 : Int32) : Option (MS) :=
  oC (isB s0) (oC (ix s1 (mlen 90)) (oL (mSA h 90 (Int32.toNatClampNeg s1) s0) (fun h29 => oC (ix x3 (mlen 84)) (if (mA h29 84 (Int32.toNatClampNeg x3)) = 0 then (fX12_steps_213 k2 k12 h29 x1 x2) else (oB (fX12_gives h29 x1 x2) (fun h33 => oL (6 * x1) (fun y34 => fX12_steps_84 k2 k12 FU h33 x1 x2 x3 y34)))))))
set_option maxHeartbeats 4000000 in
theorem wfX12_steps_59 {args : Array Value} (b : Bd p s m c cX12_steps 6 RX12 D aC) (hlk : meth.locks = false) (hr : meth.sig.returnType = none) {Z : State → Prop} (zs : Z s) (zk : ZOK Z (Rg ad)) {hz : MS} {k2 : MS → Int32 → Option (MS)} (H2 : ∀ (h : MS) (x1 : Int32), ∀ (H : Heap) (locs : List Loc) (ls : Array Slot), k2 h x1 = some hz → CE (EM D aC ad h) (Rg ad) s H locs → lv_has ls 6 [(0, .ref (ad 116)), (1, .int x1)] → W p l e (RM 2 47 0 0) s m args below meth c H locs 0 0 (MQ below (PQ (EM D aC ad hz) (Rg ad) none) args s 0 0 (Rg ad)) (F0 m 2 ls [])) {k12 : MS → Int32 → Int32 → Option (MS)} (H12 : ∀ (h : MS) (x1 : Int32) (x2 : Int32), ∀ (H : Heap) (locs : List Loc) (ls : Array Slot), k12 h x1 x2 = some hz → CE (EM D aC ad h) (Rg ad) s H locs → lv_has ls 6 [(0, .ref (ad 116)), (1, .int x1), (2, .int x2)] → W p l e (RM 2 47 0 0) s m args below meth c H locs 0 0 (MQ below (PQ (EM D aC ad hz) (Rg ad) none) args s 0 0 (Rg ad)) (F0 m 12 ls [])) {h : MS} {x1 : Int32} {x2 : Int32} {x3 : Int32} {s0 : Int32} {s1 : Int32}  {H : Heap} {locs : List Loc} {ls : Array Slot} (hf : fX12_steps_59 k2 k12 h x1 x2 x3 s0 s1 = some hz) (hE : CE (EM D aC ad h) (Rg ad) s H locs) (hl : lv_has ls 6 [(0, .ref (ad 116)), (1, .int x1), (2, .int x2), (3, .int x3)]) : W p l e (RM 2 47 0 0) s m args below meth c H locs 0 0 (MQ below (PQ (EM D aC ad hz) (Rg ad) none) args s 0 0 (Rg ad)) (F0 m 59 ls [.int s0, .int s1, .ref (ad 90)]) := by
  unfold fX12_steps_59 at hf
  obtain ⟨g27, hf⟩ := oC_s hf
  obtain ⟨g28, hf⟩ := oC_s hf
  obtain ⟨h29, eh29, hf⟩ := oL_s hf
  refine n_zast b hE g27 rfl rfl g28 eh29 dX12_steps_59 (fun H locs hE => ?_)
  refine lv_aload_n b.1 b.2.1 dX12_steps_60 rfl (lv_at hl 0 rfl) ?_
  refine gM_183 b hE dX12_steps_61 ?_
  refine lv_iload_n b.1 b.2.1 dX12_steps_64 rfl (lv_at hl 3 rfl) ?_
  obtain ⟨g30, hf⟩ := oC_s hf
  refine m_zald b hE rfl rfl g30 dX12_steps_65 ?_
  refine lv_if_ne (tgt := 72) b.1 b.2.1 dX12_steps_66 (by decide) (fun c31 => ?_) (fun c31 => ?_)
  · have hf := oI_f c31 hf
    refine lv_aload_n b.1 b.2.1 dX12_steps_72 rfl (lv_at hl 0 rfl) ?_
    refine lv_iload_n b.1 b.2.1 dX12_steps_73 rfl (lv_at hl 1 rfl) ?_
    refine lv_iload_n b.1 b.2.1 dX12_steps_74 rfl (lv_at hl 2 rfl) ?_
    obtain ⟨h33, hc32, hf⟩ := oB_s hf
    refine k_callV0 (C := RX12) b zs zk hE (CX12_gives l D aC ad zk hc32) mc_X12_gives (in8 13 rfl rfl) mi_X12_gives ms_X12_gives ini_RX12 ok_X12_gives (m_recv b hE) ⟨Nat.le_of_ble_eq_true rfl, Nat.le_of_ble_eq_true rfl⟩ rfl hl.1 rfl (k_room _ (by exact Nat.le_of_ble_eq_true rfl)) ⟨Nat.le_refl _, Nat.le_refl _⟩ dX12_steps_75 (fun H locs hE => ?_)
    refine lv_bipush (v := 6) b.1 b.2.1 dX12_steps_78 (by decide) ?_
    refine lv_iload_n b.1 b.2.1 dX12_steps_80 rfl (lv_at hl 1 rfl) ?_
    refine lv_imul b.1 b.2.1 dX12_steps_81 ?_
    obtain ⟨y34, ey34, hf⟩ := oL_s hf
    refine k_nmI ey34 ?_
    refine lv_istore (lv' := [(4, .int y34), (0, .ref (ad 116)), (1, .int x1), (2, .int x2), (3, .int x3)]) b.1 b.2.1 dX12_steps_82 hl (by decide) rfl (fun ls hl => ?_)
    exact wfX12_steps_84 b hlk hr zs zk H2 H12 FU h33 x1 x2 x3 y34 _ _ _ hf hE (lv_sub hl [1, 2, 3, 4, 0] rfl)
  · have hf := oI_t c31 hf
    refine lv_goto (tgt := 213) b.1 b.2.1 dX12_steps_69 (by decide) ?_
    exact wfX12_steps_213 b hlk hr zs zk H2 H12 hf hE (lv_sub hl [0, 1, 2] rfl)
def fX12_steps_12F (k2 : MS → Int32 → Option (MS)) (k12 : MS → Int32 → Int32 → Option (MS)) (h : MS) (x1 : Int32) (x2 : Int32) : Option (MS) :=
  oB (fX12_instances h x1) (fun r36 => if r36 ≤ x2 then (oL (x1 + 1) (fun y38 => k2 h y38)) else (oL ((125 * x1) + x2) (fun y39 => oC (ix y39 (mlen 84)) (oC (isB (mA h 84 (Int32.toNatClampNeg y39))) (oC (ix y39 (mlen 89)) (oL (mSA h 89 (Int32.toNatClampNeg y39) (mA h 84 (Int32.toNatClampNeg y39))) (fun h43 => oC (ix y39 (mlen 84)) (if (mA h43 84 (Int32.toNatClampNeg y39)) = 0 then (fX12_steps_59 k2 k12 h43 x1 x2 y39 1 y39) else (fX12_steps_59 k2 k12 h43 x1 x2 y39 0 y39)))))))))
set_option maxHeartbeats 4000000 in
theorem wfX12_steps_12F {args : Array Value} (b : Bd p s m c cX12_steps 6 RX12 D aC) (hlk : meth.locks = false) (hr : meth.sig.returnType = none) {Z : State → Prop} (zs : Z s) (zk : ZOK Z (Rg ad)) {hz : MS} {k2 : MS → Int32 → Option (MS)} (H2 : ∀ (h : MS) (x1 : Int32), ∀ (H : Heap) (locs : List Loc) (ls : Array Slot), k2 h x1 = some hz → CE (EM D aC ad h) (Rg ad) s H locs → lv_has ls 6 [(0, .ref (ad 116)), (1, .int x1)] → W p l e (RM 2 47 0 0) s m args below meth c H locs 0 0 (MQ below (PQ (EM D aC ad hz) (Rg ad) none) args s 0 0 (Rg ad)) (F0 m 2 ls [])) {k12 : MS → Int32 → Int32 → Option (MS)} (H12 : ∀ (h : MS) (x1 : Int32) (x2 : Int32), ∀ (H : Heap) (locs : List Loc) (ls : Array Slot), k12 h x1 x2 = some hz → CE (EM D aC ad h) (Rg ad) s H locs → lv_has ls 6 [(0, .ref (ad 116)), (1, .int x1), (2, .int x2)] → W p l e (RM 2 47 0 0) s m args below meth c H locs 0 0 (MQ below (PQ (EM D aC ad hz) (Rg ad) none) args s 0 0 (Rg ad)) (F0 m 12 ls [])) {h : MS} {x1 : Int32} {x2 : Int32}  {H : Heap} {locs : List Loc} {ls : Array Slot} (hf : fX12_steps_12F k2 k12 h x1 x2 = some hz) (hE : CE (EM D aC ad h) (Rg ad) s H locs) (hl : lv_has ls 6 [(0, .ref (ad 116)), (1, .int x1), (2, .int x2)]) : W p l e (RM 2 47 0 0) s m args below meth c H locs 0 0 (MQ below (PQ (EM D aC ad hz) (Rg ad) none) args s 0 0 (Rg ad)) (F0 m 12 ls []) := by
  unfold fX12_steps_12F at hf
  refine lv_iload_n b.1 b.2.1 dX12_steps_12 rfl (lv_at hl 2 rfl) ?_
  refine lv_aload_n b.1 b.2.1 dX12_steps_13 rfl (lv_at hl 0 rfl) ?_
  refine lv_iload_n b.1 b.2.1 dX12_steps_14 rfl (lv_at hl 1 rfl) ?_
  obtain ⟨r36, hc35, hf⟩ := oB_s hf
  refine k_callV0 (C := RX12) b zs zk hE (CX12_instances l D aC ad zk hc35) mc_X12_instances (in8 9 rfl rfl) mi_X12_instances ms_X12_instances ini_RX12 ok_X12_instances (m_recv b hE) ⟨Nat.le_of_ble_eq_true rfl, Nat.le_of_ble_eq_true rfl⟩ rfl hl.1 rfl (k_room _ (by exact Nat.le_of_ble_eq_true rfl)) ⟨Nat.le_refl _, Nat.le_refl _⟩ dX12_steps_15 (fun H locs hE => ?_)
  refine lv_icmp_ge (tgt := 219) b.1 b.2.1 dX12_steps_18 (by decide) (fun c37 => ?_) (fun c37 => ?_)
  · have hf := oI_t c37 hf
    obtain ⟨y38, ey38, hf⟩ := oL_s hf
    refine lv_iinc (v := y38) (lv' := [(1, .int y38), (0, .ref (ad 116)), (2, .int x2)]) b.1 b.2.1 dX12_steps_219 hl (k := 1) rfl (by rw [ey38]; rfl) (by decide) rfl (fun ls hl => ?_)
    refine lv_goto (tgt := 2) b.1 b.2.1 dX12_steps_222 (by decide) ?_
    exact H2 h y38 _ _ _ hf hE (lv_sub hl [1, 0] rfl)
  · have hf := oI_f c37 hf
    refine lv_bipush (v := 125) b.1 b.2.1 dX12_steps_21 (by decide) ?_
    refine lv_iload_n b.1 b.2.1 dX12_steps_23 rfl (lv_at hl 1 rfl) ?_
    refine lv_imul b.1 b.2.1 dX12_steps_24 ?_
    refine lv_iload_n b.1 b.2.1 dX12_steps_25 rfl (lv_at hl 2 rfl) ?_
    refine lv_iadd b.1 b.2.1 dX12_steps_26 ?_
    obtain ⟨y39, ey39, hf⟩ := oL_s hf
    refine k_nmI ey39 ?_
    refine lv_istore_n (lv' := [(3, .int y39), (0, .ref (ad 116)), (1, .int x1), (2, .int x2)]) b.1 b.2.1 dX12_steps_27 rfl hl (by decide) rfl (fun ls hl => ?_)
    refine lv_aload_n b.1 b.2.1 dX12_steps_28 rfl (lv_at hl 1 rfl) ?_
    refine gM_198 b hE dX12_steps_29 ?_
    refine lv_iload_n b.1 b.2.1 dX12_steps_32 rfl (lv_at hl 0 rfl) ?_
    refine lv_aload_n b.1 b.2.1 dX12_steps_33 rfl (lv_at hl 1 rfl) ?_
    refine gM_183 b hE dX12_steps_34 ?_
    refine lv_iload_n b.1 b.2.1 dX12_steps_37 rfl (lv_at hl 0 rfl) ?_
    obtain ⟨g40, hf⟩ := oC_s hf
    refine m_zald b hE rfl rfl g40 dX12_steps_38 ?_
    obtain ⟨g41, hf⟩ := oC_s hf
    obtain ⟨g42, hf⟩ := oC_s hf
    obtain ⟨h43, eh43, hf⟩ := oL_s hf
    refine n_zast b hE g41 rfl rfl g42 eh43 dX12_steps_39 (fun H locs hE => ?_)
    refine lv_aload_n b.1 b.2.1 dX12_steps_40 rfl (lv_at hl 1 rfl) ?_
    refine gM_201 b hE dX12_steps_41 ?_
    refine lv_iload_n b.1 b.2.1 dX12_steps_44 rfl (lv_at hl 0 rfl) ?_
    refine lv_aload_n b.1 b.2.1 dX12_steps_45 rfl (lv_at hl 1 rfl) ?_
    refine gM_183 b hE dX12_steps_46 ?_
    refine lv_iload_n b.1 b.2.1 dX12_steps_49 rfl (lv_at hl 0 rfl) ?_
    obtain ⟨g44, hf⟩ := oC_s hf
    refine m_zald b hE rfl rfl g44 dX12_steps_50 ?_
    refine lv_if_ne (tgt := 58) b.1 b.2.1 dX12_steps_51 (by decide) (fun c45 => ?_) (fun c45 => ?_)
    · have hf := oI_f c45 hf
      refine lv_iconst (v := 0) b.1 b.2.1 dX12_steps_58 (by decide) ?_
      exact wfX12_steps_59 b hlk hr zs zk H2 H12 hf hE (lv_sub hl [1, 2, 3, 0] rfl)
    · have hf := oI_t c45 hf
      refine lv_iconst (v := 1) b.1 b.2.1 dX12_steps_54 (by decide) ?_
      refine lv_goto (tgt := 59) b.1 b.2.1 dX12_steps_55 (by decide) ?_
      exact wfX12_steps_59 b hlk hr zs zk H2 H12 hf hE (lv_sub hl [1, 2, 3, 0] rfl)
def fX12_steps_12 (k2 : MS → Int32 → Option (MS)) : Nat → MS → Int32 → Int32 → Option (MS)
  | 0 => fun _ _ _ => none
  | n + 1 => fX12_steps_12F k2 (fX12_steps_12 k2 n)
set_option maxHeartbeats 4000000 in
theorem wfX12_steps_12 {args : Array Value} (b : Bd p s m c cX12_steps 6 RX12 D aC) (hlk : meth.locks = false) (hr : meth.sig.returnType = none) {Z : State → Prop} (zs : Z s) (zk : ZOK Z (Rg ad)) {hz : MS} {k2 : MS → Int32 → Option (MS)} (H2 : ∀ (h : MS) (x1 : Int32), ∀ (H : Heap) (locs : List Loc) (ls : Array Slot), k2 h x1 = some hz → CE (EM D aC ad h) (Rg ad) s H locs → lv_has ls 6 [(0, .ref (ad 116)), (1, .int x1)] → W p l e (RM 2 47 0 0) s m args below meth c H locs 0 0 (MQ below (PQ (EM D aC ad hz) (Rg ad) none) args s 0 0 (Rg ad)) (F0 m 2 ls [])) : ∀ n : Nat, ∀ (h : MS) (x1 : Int32) (x2 : Int32), ∀ (H : Heap) (locs : List Loc) (ls : Array Slot), fX12_steps_12 k2 n h x1 x2 = some hz → CE (EM D aC ad h) (Rg ad) s H locs → lv_has ls 6 [(0, .ref (ad 116)), (1, .int x1), (2, .int x2)] → W p l e (RM 2 47 0 0) s m args below meth c H locs 0 0 (MQ below (PQ (EM D aC ad hz) (Rg ad) none) args s 0 0 (Rg ad)) (F0 m 12 ls []) := by
  intro n
  induction n with
  | zero =>
    intro h x1 x2 H locs ls hf
    have hf : (none : Option (MS)) = some _ := hf
    cases hf
  | succ n ih =>
    intro h x1 x2 H locs ls hf hE hl
    exact wfX12_steps_12F b hlk hr zs zk H2 ih hf hE hl
def fX12_steps_2F (k2 : MS → Int32 → Option (MS)) (h : MS) (x1 : Int32) : Option (MS) :=
  if (mI h 22) ≤ x1 then (some (h)) else (fX12_steps_12 k2 FU h x1 0)
set_option maxHeartbeats 4000000 in
theorem wfX12_steps_2F {args : Array Value} (b : Bd p s m c cX12_steps 6 RX12 D aC) (hlk : meth.locks = false) (hr : meth.sig.returnType = none) {Z : State → Prop} (zs : Z s) (zk : ZOK Z (Rg ad)) {hz : MS} {k2 : MS → Int32 → Option (MS)} (H2 : ∀ (h : MS) (x1 : Int32), ∀ (H : Heap) (locs : List Loc) (ls : Array Slot), k2 h x1 = some hz → CE (EM D aC ad h) (Rg ad) s H locs → lv_has ls 6 [(0, .ref (ad 116)), (1, .int x1)] → W p l e (RM 2 47 0 0) s m args below meth c H locs 0 0 (MQ below (PQ (EM D aC ad hz) (Rg ad) none) args s 0 0 (Rg ad)) (F0 m 2 ls [])) {h : MS} {x1 : Int32}  {H : Heap} {locs : List Loc} {ls : Array Slot} (hf : fX12_steps_2F k2 h x1 = some hz) (hE : CE (EM D aC ad h) (Rg ad) s H locs) (hl : lv_has ls 6 [(0, .ref (ad 116)), (1, .int x1)]) : W p l e (RM 2 47 0 0) s m args below meth c H locs 0 0 (MQ below (PQ (EM D aC ad hz) (Rg ad) none) args s 0 0 (Rg ad)) (F0 m 2 ls []) := by
  unfold fX12_steps_2F at hf
  refine lv_iload_n b.1 b.2.1 dX12_steps_2 rfl (lv_at hl 1 rfl) ?_
  refine lv_aload_n b.1 b.2.1 dX12_steps_3 rfl (lv_at hl 0 rfl) ?_
  refine gM_350 b hE dX12_steps_4 ?_
  refine lv_icmp_ge (tgt := 225) b.1 b.2.1 dX12_steps_7 (by decide) (fun c46 => ?_) (fun c46 => ?_)
  · have hf := oI_t c46 hf
    cases hf
    exact k_vret b hlk hr hE (Nat.le_refl _) (Nat.le_refl _) dX12_steps_225
  · have hf := oI_f c46 hf
    refine lv_iconst (v := 0) b.1 b.2.1 dX12_steps_10 (by decide) ?_
    refine lv_istore_n (lv' := [(2, .int 0), (0, .ref (ad 116)), (1, .int x1)]) b.1 b.2.1 dX12_steps_11 rfl hl (by decide) rfl (fun ls hl => ?_)
    exact wfX12_steps_12 b hlk hr zs zk H2 FU h x1 0 _ _ _ hf hE (lv_sub hl [1, 2, 0] rfl)
def fX12_steps_2  : Nat → MS → Int32 → Option (MS)
  | 0 => fun _ _ => none
  | n + 1 => fX12_steps_2F  (fX12_steps_2  n)
set_option maxHeartbeats 4000000 in
theorem wfX12_steps_2 {args : Array Value} (b : Bd p s m c cX12_steps 6 RX12 D aC) (hlk : meth.locks = false) (hr : meth.sig.returnType = none) {Z : State → Prop} (zs : Z s) (zk : ZOK Z (Rg ad)) {hz : MS} : ∀ n : Nat, ∀ (h : MS) (x1 : Int32), ∀ (H : Heap) (locs : List Loc) (ls : Array Slot), fX12_steps_2  n h x1 = some hz → CE (EM D aC ad h) (Rg ad) s H locs → lv_has ls 6 [(0, .ref (ad 116)), (1, .int x1)] → W p l e (RM 2 47 0 0) s m args below meth c H locs 0 0 (MQ below (PQ (EM D aC ad hz) (Rg ad) none) args s 0 0 (Rg ad)) (F0 m 2 ls []) := by
  intro n
  induction n with
  | zero =>
    intro h x1 H locs ls hf
    have hf : (none : Option (MS)) = some _ := hf
    cases hf
  | succ n ih =>
    intro h x1 H locs ls hf hE hl
    exact wfX12_steps_2F b hlk hr zs zk  ih hf hE hl
def fX12_steps_0  (h : MS) : Option (MS) :=
  fX12_steps_2  FU h 0
set_option maxHeartbeats 4000000 in
theorem wfX12_steps_0 {args : Array Value} (b : Bd p s m c cX12_steps 6 RX12 D aC) (hlk : meth.locks = false) (hr : meth.sig.returnType = none) {Z : State → Prop} (zs : Z s) (zk : ZOK Z (Rg ad)) {hz : MS} {h : MS}  {H : Heap} {locs : List Loc} {ls : Array Slot} (hf : fX12_steps_0 h = some hz) (hE : CE (EM D aC ad h) (Rg ad) s H locs) (hl : lv_has ls 6 [(0, .ref (ad 116))]) : W p l e (RM 2 47 0 0) s m args below meth c H locs 0 0 (MQ below (PQ (EM D aC ad hz) (Rg ad) none) args s 0 0 (Rg ad)) (F0 m 0 ls []) := by
  unfold fX12_steps_0 at hf
  refine lv_iconst (v := 0) b.1 b.2.1 dX12_steps_0 (by decide) ?_
  refine lv_istore_n (lv' := [(1, .int 0), (0, .ref (ad 116))]) b.1 b.2.1 dX12_steps_1 rfl hl (by decide) rfl (fun ls hl => ?_)
  exact wfX12_steps_2 b hlk hr zs zk  FU h 0 _ _ _ hf hE (lv_sub hl [1, 0] rfl)
def fX12_steps (h : MS) : Option (MS) := fX12_steps_0 h 
set_option maxHeartbeats 4000000 in
theorem CX12_steps (l : Launch) (D : va_G) (aC : Nat → ClassId) (ad : Nat → Nat) {Z : State → Prop} (zk : ZOK Z (Rg ad)) {h : MS} {hz : MS} (hf : fX12_steps h = some hz) : CM l D aC Z yX12_steps cX12_steps 6 (none) 2 47 0 0 (EM D aC ad h) [.ref (ad 116)] (EM D aC ad hz) none (Rg ad) := by
  refine CM.of rfl ?_
  intro p e s m below meth c b hr hlk hin2 zs hE
  refine k_ent (Nat.le_of_ble_eq_true rfl) (fun ls hl => ?_)
  exact wfX12_steps_0 b hlk hr zs zk hf hE (lv_sub hl [0] rfl)
theorem dX12_isLiteral_0 : decode cX12_isLiteral 0 = .ok (.iload_n 1, 1) := by decide +kernel
theorem dX12_isLiteral_1 : decode cX12_isLiteral 1 = .ok (.bipush 50, 2) := by decide +kernel
theorem dX12_isLiteral_3 : decode cX12_isLiteral 3 = .ok (.idiv, 1) := by decide +kernel
theorem dX12_isLiteral_4 : decode cX12_isLiteral 4 = .ok (.istore_n 2, 1) := by decide +kernel
theorem dX12_isLiteral_5 : decode cX12_isLiteral 5 = .ok (.iload_n 1, 1) := by decide +kernel
theorem dX12_isLiteral_6 : decode cX12_isLiteral 6 = .ok (.bipush 10, 2) := by decide +kernel
theorem dX12_isLiteral_8 : decode cX12_isLiteral 8 = .ok (.idiv, 1) := by decide +kernel
theorem dX12_isLiteral_9 : decode cX12_isLiteral 9 = .ok (.iconst 5, 1) := by decide +kernel
theorem dX12_isLiteral_10 : decode cX12_isLiteral 10 = .ok (.irem, 1) := by decide +kernel
theorem dX12_isLiteral_11 : decode cX12_isLiteral 11 = .ok (.istore_n 3, 1) := by decide +kernel
theorem dX12_isLiteral_12 : decode cX12_isLiteral 12 = .ok (.iload_n 1, 1) := by decide +kernel
theorem dX12_isLiteral_13 : decode cX12_isLiteral 13 = .ok (.iconst 2, 1) := by decide +kernel
theorem dX12_isLiteral_14 : decode cX12_isLiteral 14 = .ok (.idiv, 1) := by decide +kernel
theorem dX12_isLiteral_15 : decode cX12_isLiteral 15 = .ok (.iconst 5, 1) := by decide +kernel
theorem dX12_isLiteral_16 : decode cX12_isLiteral 16 = .ok (.irem, 1) := by decide +kernel
theorem dX12_isLiteral_17 : decode cX12_isLiteral 17 = .ok (.istore 4, 2) := by decide +kernel
theorem dX12_isLiteral_19 : decode cX12_isLiteral 19 = .ok (.iload_n 2, 1) := by decide +kernel
theorem dX12_isLiteral_20 : decode cX12_isLiteral 20 = .ok (.aload_n 0, 1) := by decide +kernel
theorem dX12_isLiteral_21 : decode cX12_isLiteral 21 = .ok (.getfield 341, 3) := by decide +kernel
theorem dX12_isLiteral_24 : decode cX12_isLiteral 24 = .ok (.if_icmp .lt 5, 3) := by decide +kernel
theorem dX12_isLiteral_27 : decode cX12_isLiteral 27 = .ok (.iconst 0, 1) := by decide +kernel
theorem dX12_isLiteral_28 : decode cX12_isLiteral 28 = .ok (.ireturn, 1) := by decide +kernel
theorem dX12_isLiteral_29 : decode cX12_isLiteral 29 = .ok (.aload_n 0, 1) := by decide +kernel
theorem dX12_isLiteral_30 : decode cX12_isLiteral 30 = .ok (.getfield 49, 3) := by decide +kernel
theorem dX12_isLiteral_33 : decode cX12_isLiteral 33 = .ok (.iload_n 2, 1) := by decide +kernel
theorem dX12_isLiteral_34 : decode cX12_isLiteral 34 = .ok (.iaload, 1) := by decide +kernel
theorem dX12_isLiteral_35 : decode cX12_isLiteral 35 = .ok (.ifCond .le 14, 3) := by decide +kernel
theorem dX12_isLiteral_38 : decode cX12_isLiteral 38 = .ok (.iload_n 3, 1) := by decide +kernel
theorem dX12_isLiteral_39 : decode cX12_isLiteral 39 = .ok (.aload_n 0, 1) := by decide +kernel
theorem dX12_isLiteral_40 : decode cX12_isLiteral 40 = .ok (.getfield 338, 3) := by decide +kernel
theorem dX12_isLiteral_43 : decode cX12_isLiteral 43 = .ok (.if_icmp .ge 41, 3) := by decide +kernel
theorem dX12_isLiteral_46 : decode cX12_isLiteral 46 = .ok (.goto 7, 3) := by decide +kernel
theorem dX12_isLiteral_49 : decode cX12_isLiteral 49 = .ok (.iload_n 3, 1) := by decide +kernel
theorem dX12_isLiteral_50 : decode cX12_isLiteral 50 = .ok (.ifCond .ne 34, 3) := by decide +kernel
theorem dX12_isLiteral_53 : decode cX12_isLiteral 53 = .ok (.aload_n 0, 1) := by decide +kernel
theorem dX12_isLiteral_54 : decode cX12_isLiteral 54 = .ok (.getfield 49, 3) := by decide +kernel
theorem dX12_isLiteral_57 : decode cX12_isLiteral 57 = .ok (.iload_n 2, 1) := by decide +kernel
theorem dX12_isLiteral_58 : decode cX12_isLiteral 58 = .ok (.iaload, 1) := by decide +kernel
theorem dX12_isLiteral_59 : decode cX12_isLiteral 59 = .ok (.iconst 1, 1) := by decide +kernel
theorem dX12_isLiteral_60 : decode cX12_isLiteral 60 = .ok (.if_icmp .le 15, 3) := by decide +kernel
theorem dX12_isLiteral_63 : decode cX12_isLiteral 63 = .ok (.iload 4, 2) := by decide +kernel
theorem dX12_isLiteral_65 : decode cX12_isLiteral 65 = .ok (.aload_n 0, 1) := by decide +kernel
theorem dX12_isLiteral_66 : decode cX12_isLiteral 66 = .ok (.getfield 338, 3) := by decide +kernel
theorem dX12_isLiteral_69 : decode cX12_isLiteral 69 = .ok (.if_icmp .ge 15, 3) := by decide +kernel
theorem dX12_isLiteral_72 : decode cX12_isLiteral 72 = .ok (.goto 8, 3) := by decide +kernel
theorem dX12_isLiteral_75 : decode cX12_isLiteral 75 = .ok (.iload 4, 2) := by decide +kernel
theorem dX12_isLiteral_77 : decode cX12_isLiteral 77 = .ok (.ifCond .ne 7, 3) := by decide +kernel
theorem dX12_isLiteral_80 : decode cX12_isLiteral 80 = .ok (.iconst 1, 1) := by decide +kernel
theorem dX12_isLiteral_81 : decode cX12_isLiteral 81 = .ok (.goto 4, 3) := by decide +kernel
theorem dX12_isLiteral_84 : decode cX12_isLiteral 84 = .ok (.iconst 0, 1) := by decide +kernel
theorem dX12_isLiteral_85 : decode cX12_isLiteral 85 = .ok (.ireturn, 1) := by decide +kernel
def fX12_isLiteral_53  (h : MS) (x2 : Int32) (x4 : Int32) : Option (Int32) :=
  oC (ix x2 (mlen 28)) (if (mA h 28 (Int32.toNatClampNeg x2)) ≤ 1 then (if x4 = 0 then (some (1)) else (some (0))) else (if (mI h 18) ≤ x4 then (some (0)) else (some (1))))
set_option maxHeartbeats 4000000 in
theorem wfX12_isLiteral_53 {args : Array Value} (b : Bd p s m c cX12_isLiteral 5 RX12 D aC) (hlk : meth.locks = false) (hr : meth.sig.returnType = some .boolean) {Z : State → Prop} (zs : Z s) (zk : ZOK Z (Rg ad)) {rz : Int32} {h : MS} {x2 : Int32} {x4 : Int32}  {H : Heap} {locs : List Loc} {ls : Array Slot} (hf : fX12_isLiteral_53 h x2 x4 = some rz) (hE : CE (EM D aC ad h) (Rg ad) s H locs) (hl : lv_has ls 5 [(0, .ref (ad 116)), (2, .int x2), (4, .int x4)]) : W p l e (RM 0 0 0 0) s m args below meth c H locs 0 0 (MQ below (PQ (EM D aC ad h) (Rg ad) (some (.int rz))) args s 0 0 (Rg ad)) (F0 m 53 ls []) := by
  unfold fX12_isLiteral_53 at hf
  refine lv_aload_n b.1 b.2.1 dX12_isLiteral_53 rfl (lv_at hl 0 rfl) ?_
  refine gM_49 b hE dX12_isLiteral_54 ?_
  refine lv_iload_n b.1 b.2.1 dX12_isLiteral_57 rfl (lv_at hl 1 rfl) ?_
  obtain ⟨g1, hf⟩ := oC_s hf
  refine m_iald b hE rfl rfl g1 dX12_isLiteral_58 ?_
  refine lv_iconst (v := 1) b.1 b.2.1 dX12_isLiteral_59 (by decide) ?_
  refine lv_icmp_le (tgt := 75) b.1 b.2.1 dX12_isLiteral_60 (by decide) (fun c2 => ?_) (fun c2 => ?_)
  · have hf := oI_t c2 hf
    refine lv_iload b.1 b.2.1 dX12_isLiteral_75 (lv_at hl 2 rfl) ?_
    refine lv_if_ne (tgt := 84) b.1 b.2.1 dX12_isLiteral_77 (by decide) (fun c3 => ?_) (fun c3 => ?_)
    · have hf := oI_f c3 hf
      refine lv_iconst (v := 0) b.1 b.2.1 dX12_isLiteral_84 (by decide) ?_
      cases hf
      exact k_zret b hlk hr (by decide) hE (Nat.le_refl _) (Nat.le_refl _) dX12_isLiteral_85
    · have hf := oI_t c3 hf
      refine lv_iconst (v := 1) b.1 b.2.1 dX12_isLiteral_80 (by decide) ?_
      refine lv_goto (tgt := 85) b.1 b.2.1 dX12_isLiteral_81 (by decide) ?_
      cases hf
      exact k_zret b hlk hr (by decide) hE (Nat.le_refl _) (Nat.le_refl _) dX12_isLiteral_85
  · have hf := oI_f c2 hf
    refine lv_iload b.1 b.2.1 dX12_isLiteral_63 (lv_at hl 2 rfl) ?_
    refine lv_aload_n b.1 b.2.1 dX12_isLiteral_65 rfl (lv_at hl 0 rfl) ?_
    refine gM_338 b hE dX12_isLiteral_66 ?_
    refine lv_icmp_ge (tgt := 84) b.1 b.2.1 dX12_isLiteral_69 (by decide) (fun c4 => ?_) (fun c4 => ?_)
    · have hf := oI_t c4 hf
      refine lv_iconst (v := 0) b.1 b.2.1 dX12_isLiteral_84 (by decide) ?_
      cases hf
      exact k_zret b hlk hr (by decide) hE (Nat.le_refl _) (Nat.le_refl _) dX12_isLiteral_85
    · have hf := oI_f c4 hf
      refine lv_goto (tgt := 80) b.1 b.2.1 dX12_isLiteral_72 (by decide) ?_
      refine lv_iconst (v := 1) b.1 b.2.1 dX12_isLiteral_80 (by decide) ?_
      refine lv_goto (tgt := 85) b.1 b.2.1 dX12_isLiteral_81 (by decide) ?_
      cases hf
      exact k_zret b hlk hr (by decide) hE (Nat.le_refl _) (Nat.le_refl _) dX12_isLiteral_85
def fX12_isLiteral_0  (h : MS) (x1 : Int32) : Option (Int32) :=
  oL (x1 / 50) (fun y5 => oL ((x1 / 10) - (x1 / 10) / 5 * 5) (fun y6 => oL ((x1 / 2) - (x1 / 2) / 5 * 5) (fun y7 => if y5 < (mI h 19) then (oC (ix y5 (mlen 28)) (if (mA h 28 (Int32.toNatClampNeg y5)) ≤ 0 then (if y6 = 0 then (fX12_isLiteral_53  h y5 y7) else (some (0))) else (if (mI h 18) ≤ y6 then (some (0)) else (fX12_isLiteral_53  h y5 y7)))) else (some (0)))))
set_option maxHeartbeats 4000000 in
theorem wfX12_isLiteral_0 {args : Array Value} (b : Bd p s m c cX12_isLiteral 5 RX12 D aC) (hlk : meth.locks = false) (hr : meth.sig.returnType = some .boolean) {Z : State → Prop} (zs : Z s) (zk : ZOK Z (Rg ad)) {rz : Int32} {h : MS} {x1 : Int32}  {H : Heap} {locs : List Loc} {ls : Array Slot} (hf : fX12_isLiteral_0 h x1 = some rz) (hE : CE (EM D aC ad h) (Rg ad) s H locs) (hl : lv_has ls 5 [(0, .ref (ad 116)), (1, .int x1)]) : W p l e (RM 0 0 0 0) s m args below meth c H locs 0 0 (MQ below (PQ (EM D aC ad h) (Rg ad) (some (.int rz))) args s 0 0 (Rg ad)) (F0 m 0 ls []) := by
  unfold fX12_isLiteral_0 at hf
  refine lv_iload_n b.1 b.2.1 dX12_isLiteral_0 rfl (lv_at hl 1 rfl) ?_
  refine lv_bipush (v := 50) b.1 b.2.1 dX12_isLiteral_1 (by decide) ?_
  refine lv_idiv b.1 b.2.1 dX12_isLiteral_3 (by decide) ?_
  obtain ⟨y5, ey5, hf⟩ := oL_s hf
  refine k_nmI ey5 ?_
  refine lv_istore_n (lv' := [(2, .int y5), (0, .ref (ad 116)), (1, .int x1)]) b.1 b.2.1 dX12_isLiteral_4 rfl hl (by decide) rfl (fun ls hl => ?_)
  refine lv_iload_n b.1 b.2.1 dX12_isLiteral_5 rfl (lv_at hl 2 rfl) ?_
  refine lv_bipush (v := 10) b.1 b.2.1 dX12_isLiteral_6 (by decide) ?_
  refine lv_idiv b.1 b.2.1 dX12_isLiteral_8 (by decide) ?_
  refine lv_iconst (v := 5) b.1 b.2.1 dX12_isLiteral_9 (by decide) ?_
  refine lv_irem b.1 b.2.1 dX12_isLiteral_10 (by decide) ?_
  obtain ⟨y6, ey6, hf⟩ := oL_s hf
  refine k_nmI ey6 ?_
  refine lv_istore_n (lv' := [(3, .int y6), (2, .int y5), (0, .ref (ad 116)), (1, .int x1)]) b.1 b.2.1 dX12_isLiteral_11 rfl hl (by decide) rfl (fun ls hl => ?_)
  refine lv_iload_n b.1 b.2.1 dX12_isLiteral_12 rfl (lv_at hl 3 rfl) ?_
  refine lv_iconst (v := 2) b.1 b.2.1 dX12_isLiteral_13 (by decide) ?_
  refine lv_idiv b.1 b.2.1 dX12_isLiteral_14 (by decide) ?_
  refine lv_iconst (v := 5) b.1 b.2.1 dX12_isLiteral_15 (by decide) ?_
  refine lv_irem b.1 b.2.1 dX12_isLiteral_16 (by decide) ?_
  obtain ⟨y7, ey7, hf⟩ := oL_s hf
  refine k_nmI ey7 ?_
  refine lv_istore (lv' := [(4, .int y7), (3, .int y6), (2, .int y5), (0, .ref (ad 116)), (1, .int x1)]) b.1 b.2.1 dX12_isLiteral_17 hl (by decide) rfl (fun ls hl => ?_)
  have hl := lv_sub (l' := [(4, .int y7), (3, .int y6), (2, .int y5), (0, .ref (ad 116))]) hl [0, 1, 2, 3] rfl
  refine lv_iload_n b.1 b.2.1 dX12_isLiteral_19 rfl (lv_at hl 2 rfl) ?_
  refine lv_aload_n b.1 b.2.1 dX12_isLiteral_20 rfl (lv_at hl 3 rfl) ?_
  refine gM_341 b hE dX12_isLiteral_21 ?_
  refine lv_icmp_lt (tgt := 29) b.1 b.2.1 dX12_isLiteral_24 (by decide) (fun c8 => ?_) (fun c8 => ?_)
  · have hf := oI_t c8 hf
    refine lv_aload_n b.1 b.2.1 dX12_isLiteral_29 rfl (lv_at hl 3 rfl) ?_
    refine gM_49 b hE dX12_isLiteral_30 ?_
    refine lv_iload_n b.1 b.2.1 dX12_isLiteral_33 rfl (lv_at hl 2 rfl) ?_
    obtain ⟨g9, hf⟩ := oC_s hf
    refine m_iald b hE rfl rfl g9 dX12_isLiteral_34 ?_
    refine lv_if_le (tgt := 49) b.1 b.2.1 dX12_isLiteral_35 (by decide) (fun c10 => ?_) (fun c10 => ?_)
    · have hf := oI_t c10 hf
      refine lv_iload_n b.1 b.2.1 dX12_isLiteral_49 rfl (lv_at hl 1 rfl) ?_
      refine lv_if_ne (tgt := 84) b.1 b.2.1 dX12_isLiteral_50 (by decide) (fun c11 => ?_) (fun c11 => ?_)
      · have hf := oI_f c11 hf
        refine lv_iconst (v := 0) b.1 b.2.1 dX12_isLiteral_84 (by decide) ?_
        cases hf
        exact k_zret b hlk hr (by decide) hE (Nat.le_refl _) (Nat.le_refl _) dX12_isLiteral_85
      · have hf := oI_t c11 hf
        exact wfX12_isLiteral_53 b hlk hr zs zk  hf hE (lv_sub hl [3, 2, 0] rfl)
    · have hf := oI_f c10 hf
      refine lv_iload_n b.1 b.2.1 dX12_isLiteral_38 rfl (lv_at hl 1 rfl) ?_
      refine lv_aload_n b.1 b.2.1 dX12_isLiteral_39 rfl (lv_at hl 3 rfl) ?_
      refine gM_338 b hE dX12_isLiteral_40 ?_
      refine lv_icmp_ge (tgt := 84) b.1 b.2.1 dX12_isLiteral_43 (by decide) (fun c12 => ?_) (fun c12 => ?_)
      · have hf := oI_t c12 hf
        refine lv_iconst (v := 0) b.1 b.2.1 dX12_isLiteral_84 (by decide) ?_
        cases hf
        exact k_zret b hlk hr (by decide) hE (Nat.le_refl _) (Nat.le_refl _) dX12_isLiteral_85
      · have hf := oI_f c12 hf
        refine lv_goto (tgt := 53) b.1 b.2.1 dX12_isLiteral_46 (by decide) ?_
        exact wfX12_isLiteral_53 b hlk hr zs zk  hf hE (lv_sub hl [3, 2, 0] rfl)
  · have hf := oI_f c8 hf
    refine lv_iconst (v := 0) b.1 b.2.1 dX12_isLiteral_27 (by decide) ?_
    cases hf
    exact k_zret b hlk hr (by decide) hE (Nat.le_refl _) (Nat.le_refl _) dX12_isLiteral_28
def fX12_isLiteral (h : MS) (x1 : Int32) : Option (Int32) := fX12_isLiteral_0 h x1
set_option maxHeartbeats 4000000 in
theorem CX12_isLiteral (l : Launch) (D : va_G) (aC : Nat → ClassId) (ad : Nat → Nat) {Z : State → Prop} (zk : ZOK Z (Rg ad)) {h : MS} {x1 : Int32} {rz : Int32} (hf : fX12_isLiteral h x1 = some rz) : CM l D aC Z yX12_isLiteral cX12_isLiteral 5 (some .boolean) 0 0 0 0 (EM D aC ad h) [.ref (ad 116), .int x1] (EM D aC ad h) (some (.int rz)) (Rg ad) := by
  refine CM.of rfl ?_
  intro p e s m below meth c b hr hlk hin2 zs hE
  refine k_ent (Nat.le_of_ble_eq_true rfl) (fun ls hl => ?_)
  exact wfX12_isLiteral_0 b hlk hr zs zk hf hE (lv_sub hl [0, 1] rfl)
end
