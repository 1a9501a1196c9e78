section
variable {p : Program} {l : Launch} {e : Env} {s : State} {m : MethodId} {below : List Frame} {meth : Method} {c : Code} {D : va_G} {aC : Nat → ClassId} {ad : Nat → Nat}
theorem dX10_nextName_0 : decode cX10_nextName 0 = .ok (.aload_n 0, 1) := by decide +kernel
theorem dX10_nextName_1 : decode cX10_nextName 1 = .ok (.getfield 41, 3) := by decide +kernel
theorem dX10_nextName_4 : decode cX10_nextName 4 = .ok (.istore_n 2, 1) := by decide +kernel
theorem dX10_nextName_5 : decode cX10_nextName 5 = .ok (.lconst 0, 1) := by decide +kernel
theorem dX10_nextName_6 : decode cX10_nextName 6 = .ok (.lstore_n 3, 1) := by decide +kernel
theorem dX10_nextName_7 : decode cX10_nextName 7 = .ok (.aload_n 0, 1) := by decide +kernel
theorem dX10_nextName_8 : decode cX10_nextName 8 = .ok (.getfield 41, 3) := by decide +kernel
theorem dX10_nextName_11 : decode cX10_nextName 11 = .ok (.aload_n 0, 1) := by decide +kernel
theorem dX10_nextName_12 : decode cX10_nextName 12 = .ok (.getfield 37, 3) := by decide +kernel
theorem dX10_nextName_15 : decode cX10_nextName 15 = .ok (.getfield 48, 3) := by decide +kernel
theorem dX10_nextName_18 : decode cX10_nextName 18 = .ok (.if_icmp .ge 98, 3) := by decide +kernel
theorem dX10_nextName_21 : decode cX10_nextName 21 = .ok (.aload_n 0, 1) := by decide +kernel
theorem dX10_nextName_22 : decode cX10_nextName 22 = .ok (.getfield 37, 3) := by decide +kernel
theorem dX10_nextName_25 : decode cX10_nextName 25 = .ok (.aload_n 0, 1) := by decide +kernel
theorem dX10_nextName_26 : decode cX10_nextName 26 = .ok (.getfield 41, 3) := by decide +kernel
theorem dX10_nextName_29 : decode cX10_nextName 29 = .ok (.invokevirtual 69, 3) := by decide +kernel
theorem dX10_nextName_32 : decode cX10_nextName 32 = .ok (.invokestatic 76, 3) := by decide +kernel
theorem dX10_nextName_35 : decode cX10_nextName 35 = .ok (.ifCond .ne 20, 3) := by decide +kernel
theorem dX10_nextName_38 : decode cX10_nextName 38 = .ok (.aload_n 0, 1) := by decide +kernel
theorem dX10_nextName_39 : decode cX10_nextName 39 = .ok (.getfield 37, 3) := by decide +kernel
theorem dX10_nextName_42 : decode cX10_nextName 42 = .ok (.aload_n 0, 1) := by decide +kernel
theorem dX10_nextName_43 : decode cX10_nextName 43 = .ok (.getfield 41, 3) := by decide +kernel
theorem dX10_nextName_46 : decode cX10_nextName 46 = .ok (.invokevirtual 69, 3) := by decide +kernel
theorem dX10_nextName_49 : decode cX10_nextName 49 = .ok (.invokestatic 82, 3) := by decide +kernel
theorem dX10_nextName_52 : decode cX10_nextName 52 = .ok (.ifCond .eq 64, 3) := by decide +kernel
theorem dX10_nextName_55 : decode cX10_nextName 55 = .ok (.aload_n 0, 1) := by decide +kernel
theorem dX10_nextName_56 : decode cX10_nextName 56 = .ok (.getfield 37, 3) := by decide +kernel
theorem dX10_nextName_59 : decode cX10_nextName 59 = .ok (.aload_n 0, 1) := by decide +kernel
theorem dX10_nextName_60 : decode cX10_nextName 60 = .ok (.getfield 41, 3) := by decide +kernel
theorem dX10_nextName_63 : decode cX10_nextName 63 = .ok (.invokevirtual 69, 3) := by decide +kernel
theorem dX10_nextName_66 : decode cX10_nextName 66 = .ok (.istore 5, 2) := by decide +kernel
theorem dX10_nextName_68 : decode cX10_nextName 68 = .ok (.lload_n 3, 1) := by decide +kernel
theorem dX10_nextName_69 : decode cX10_nextName 69 = .ok (.bipush 6, 2) := by decide +kernel
theorem dX10_nextName_71 : decode cX10_nextName 71 = .ok (.lshl, 1) := by decide +kernel
theorem dX10_nextName_72 : decode cX10_nextName 72 = .ok (.iload 5, 2) := by decide +kernel
theorem dX10_nextName_74 : decode cX10_nextName 74 = .ok (.invokestatic 82, 3) := by decide +kernel
theorem dX10_nextName_77 : decode cX10_nextName 77 = .ok (.ifCond .eq 16, 3) := by decide +kernel
theorem dX10_nextName_80 : decode cX10_nextName 80 = .ok (.iload 5, 2) := by decide +kernel
theorem dX10_nextName_82 : decode cX10_nextName 82 = .ok (.bipush 48, 2) := by decide +kernel
theorem dX10_nextName_84 : decode cX10_nextName 84 = .ok (.isub, 1) := by decide +kernel
theorem dX10_nextName_85 : decode cX10_nextName 85 = .ok (.bipush 26, 2) := by decide +kernel
theorem dX10_nextName_87 : decode cX10_nextName 87 = .ok (.iadd, 1) := by decide +kernel
theorem dX10_nextName_88 : decode cX10_nextName 88 = .ok (.iconst 1, 1) := by decide +kernel
theorem dX10_nextName_89 : decode cX10_nextName 89 = .ok (.iadd, 1) := by decide +kernel
theorem dX10_nextName_90 : decode cX10_nextName 90 = .ok (.goto 10, 3) := by decide +kernel
theorem dX10_nextName_93 : decode cX10_nextName 93 = .ok (.iload 5, 2) := by decide +kernel
theorem dX10_nextName_95 : decode cX10_nextName 95 = .ok (.bipush 97, 2) := by decide +kernel
theorem dX10_nextName_97 : decode cX10_nextName 97 = .ok (.isub, 1) := by decide +kernel
theorem dX10_nextName_98 : decode cX10_nextName 98 = .ok (.iconst 1, 1) := by decide +kernel
theorem dX10_nextName_99 : decode cX10_nextName 99 = .ok (.iadd, 1) := by decide +kernel
theorem dX10_nextName_100 : decode cX10_nextName 100 = .ok (.i2l, 1) := by decide +kernel
theorem dX10_nextName_101 : decode cX10_nextName 101 = .ok (.lor, 1) := by decide +kernel
theorem dX10_nextName_102 : decode cX10_nextName 102 = .ok (.lstore_n 3, 1) := by decide +kernel
theorem dX10_nextName_103 : decode cX10_nextName 103 = .ok (.aload_n 0, 1) := by decide +kernel
theorem dX10_nextName_104 : decode cX10_nextName 104 = .ok (.dup, 1) := by decide +kernel
theorem dX10_nextName_105 : decode cX10_nextName 105 = .ok (.getfield 41, 3) := by decide +kernel
theorem dX10_nextName_108 : decode cX10_nextName 108 = .ok (.iconst 1, 1) := by decide +kernel
theorem dX10_nextName_109 : decode cX10_nextName 109 = .ok (.iadd, 1) := by decide +kernel
theorem dX10_nextName_110 : decode cX10_nextName 110 = .ok (.putfield 41, 3) := by decide +kernel
theorem dX10_nextName_113 : decode cX10_nextName 113 = .ok (.goto (-106), 3) := by decide +kernel
theorem dX10_nextName_116 : decode cX10_nextName 116 = .ok (.aload_n 0, 1) := by decide +kernel
theorem dX10_nextName_117 : decode cX10_nextName 117 = .ok (.getfield 41, 3) := by decide +kernel
theorem dX10_nextName_120 : decode cX10_nextName 120 = .ok (.iload_n 2, 1) := by decide +kernel
theorem dX10_nextName_121 : decode cX10_nextName 121 = .ok (.isub, 1) := by decide +kernel
theorem dX10_nextName_122 : decode cX10_nextName 122 = .ok (.bipush 10, 2) := by decide +kernel
theorem dX10_nextName_124 : decode cX10_nextName 124 = .ok (.if_icmp .le 7, 3) := by decide +kernel
theorem dX10_nextName_127 : decode cX10_nextName 127 = .ok (.sipush 264, 3) := by decide +kernel
theorem dX10_nextName_130 : decode cX10_nextName 130 = .ok (.ireturn, 1) := by decide +kernel
theorem dX10_nextName_131 : decode cX10_nextName 131 = .ok (.aload_n 0, 1) := by decide +kernel
theorem dX10_nextName_132 : decode cX10_nextName 132 = .ok (.getfield 22, 3) := by decide +kernel
theorem dX10_nextName_135 : decode cX10_nextName 135 = .ok (.iload_n 1, 1) := by decide +kernel
theorem dX10_nextName_136 : decode cX10_nextName 136 = .ok (.lload_n 3, 1) := by decide +kernel
theorem dX10_nextName_137 : decode cX10_nextName 137 = .ok (.lastore, 1) := by decide +kernel
theorem dX10_nextName_138 : decode cX10_nextName 138 = .ok (.iconst 0, 1) := by decide +kernel
theorem dX10_nextName_139 : decode cX10_nextName 139 = .ok (.istore 5, 2) := by decide +kernel
theorem dX10_nextName_141 : decode cX10_nextName 141 = .ok (.iload 5, 2) := by decide +kernel
theorem dX10_nextName_143 : decode cX10_nextName 143 = .ok (.bipush 18, 2) := by decide +kernel
theorem dX10_nextName_145 : decode cX10_nextName 145 = .ok (.if_icmp .ge 28, 3) := by decide +kernel
theorem dX10_nextName_148 : decode cX10_nextName 148 = .ok (.aload_n 0, 1) := by decide +kernel
theorem dX10_nextName_149 : decode cX10_nextName 149 = .ok (.getfield 11, 3) := by decide +kernel
theorem dX10_nextName_152 : decode cX10_nextName 152 = .ok (.iload 5, 2) := by decide +kernel
theorem dX10_nextName_154 : decode cX10_nextName 154 = .ok (.laload, 1) := by decide +kernel
theorem dX10_nextName_155 : decode cX10_nextName 155 = .ok (.lload_n 3, 1) := by decide +kernel
theorem dX10_nextName_156 : decode cX10_nextName 156 = .ok (.lcmp, 1) := by decide +kernel
theorem dX10_nextName_157 : decode cX10_nextName 157 = .ok (.ifCond .ne 10, 3) := by decide +kernel
theorem dX10_nextName_160 : decode cX10_nextName 160 = .ok (.sipush 300, 3) := by decide +kernel
theorem dX10_nextName_163 : decode cX10_nextName 163 = .ok (.iload 5, 2) := by decide +kernel
theorem dX10_nextName_165 : decode cX10_nextName 165 = .ok (.iadd, 1) := by decide +kernel
theorem dX10_nextName_166 : decode cX10_nextName 166 = .ok (.ireturn, 1) := by decide +kernel
theorem dX10_nextName_167 : decode cX10_nextName 167 = .ok (.iinc 5 1, 3) := by decide +kernel
theorem dX10_nextName_170 : decode cX10_nextName 170 = .ok (.goto (-29), 3) := by decide +kernel
theorem dX10_nextName_173 : decode cX10_nextName 173 = .ok (.sipush 260, 3) := by decide +kernel
theorem dX10_nextName_176 : decode cX10_nextName 176 = .ok (.ireturn, 1) := by decide +kernel
def fX10_nextName_141F (k141 : PH → Nat → Int64 → Int32 → Option (PH × Int32)) (h : PH) (x0 : Nat) (x3 : Int64) (x5 : Int32) : Option (PH × Int32) :=
  if 18 ≤ x5 then (some (h, 260)) else (oC (decide (hT h x0 = 11)) (oN (hR h 1280 x0) (fun a3 => oC (decide (hT h a3 = 102)) (oC (ix x5 (hN h a3)) (if (lg_cmp (hB h a3 (Int32.toNatClampNeg x5)) x3) = 0 then (some (h, (300 + x5))) else (oL (x5 + 1) (fun y7 => k141 h x0 x3 y7)))))))
set_option maxHeartbeats 4000000 in
theorem wfX10_nextName_141F {args : Array Value} (b : Bd p s m c cX10_nextName 6 RX10 D aC) (hlk : meth.locks = false) (hr : meth.sig.returnType = some .int) {Z : State → Prop} (zs : Z s) (zk : ZOK Z (Rg ad)) {hz : PH} {rz : Int32} {k141 : PH → Nat → Int64 → Int32 → Option (PH × Int32)} (H141 : ∀ (h : PH) (x0 : Nat) (x3 : Int64) (x5 : Int32), ∀ (H : Heap) (locs : List Loc) (ls : Array Slot), k141 h x0 x3 x5 = some (hz, rz) → CE (EX D aC ad h) (Rg ad) s H locs → lv_has ls 6 [(0, .ref (ad x0)), (3, .long x3), (5, .int x5)] → W p l e (RM 1 21 0 0) s m args below meth c H locs 0 0 (MQ below (PQ (EX D aC ad hz) (Rg ad) (some (.int rz))) args s 0 0 (Rg ad)) (F0 m 141 ls [])) {h : PH} {x0 : Nat} {x3 : Int64} {x5 : Int32}  {H : Heap} {locs : List Loc} {ls : Array Slot} (hf : fX10_nextName_141F k141 h x0 x3 x5 = some (hz, rz)) (hE : CE (EX D aC ad h) (Rg ad) s H locs) (hl : lv_has ls 6 [(0, .ref (ad x0)), (3, .long x3), (5, .int x5)]) : W p l e (RM 1 21 0 0) s m args below meth c H locs 0 0 (MQ below (PQ (EX D aC ad hz) (Rg ad) (some (.int rz))) args s 0 0 (Rg ad)) (F0 m 141 ls []) := by
  unfold fX10_nextName_141F at hf
  refine lv_iload b.1 b.2.1 dX10_nextName_141 (lv_at hl 2 rfl) ?_
  refine lv_bipush (v := 18) b.1 b.2.1 dX10_nextName_143 (by decide) ?_
  refine lv_icmp_ge (tgt := 173) b.1 b.2.1 dX10_nextName_145 (by decide) (fun c1 => ?_) (fun c1 => ?_)
  · have hf := oI_t c1 hf
    refine lv_sipush (v := 260) b.1 b.2.1 dX10_nextName_173 (by decide) ?_
    cases hf
    exact k_iret b hlk hr hE (Nat.le_refl _) (Nat.le_refl _) dX10_nextName_176
  · have hf := oI_f c1 hf
    refine lv_aload_n b.1 b.2.1 dX10_nextName_148 rfl (lv_at hl 0 rfl) ?_
    obtain ⟨t2, hf⟩ := oC_s hf
    have t2 := of_decide_eq_true t2
    refine gX10_11 (x := (some x0)) b hE rfl t2 dX10_nextName_149 ?_
    refine lv_iload b.1 b.2.1 dX10_nextName_152 (lv_at hl 2 rfl) ?_
    obtain ⟨a3, ea3, hf⟩ := oN_s hf
    obtain ⟨t4, hf⟩ := oC_s hf
    have t4 := of_decide_eq_true t4
    obtain ⟨g5, hf⟩ := oC_s hf
    refine q_lald (x := (hR h 1280 x0)) b hE ea3 t4 g5 dX10_nextName_154 ?_
    refine lv_lload_n b.1 b.2.1 dX10_nextName_155 rfl (lv_at hl 1 rfl) ?_
    refine W.lcmp b.1 b.2.1 dX10_nextName_156 ?_
    refine lv_if_ne (tgt := 167) b.1 b.2.1 dX10_nextName_157 (by decide) (fun c6 => ?_) (fun c6 => ?_)
    · have hf := oI_f c6 hf
      obtain ⟨y7, ey7, hf⟩ := oL_s hf
      refine lv_iinc (v := y7) (lv' := [(5, .int y7), (0, .ref (ad x0)), (3, .long x3)]) b.1 b.2.1 dX10_nextName_167 hl (k := 2) rfl (by rw [ey7]; rfl) (by decide) rfl (fun ls hl => ?_)
      refine lv_goto (tgt := 141) b.1 b.2.1 dX10_nextName_170 (by decide) ?_
      exact H141 h x0 x3 y7 _ _ _ hf hE (lv_sub hl [1, 2, 0] rfl)
    · have hf := oI_t c6 hf
      refine lv_sipush (v := 300) b.1 b.2.1 dX10_nextName_160 (by decide) ?_
      refine lv_iload b.1 b.2.1 dX10_nextName_163 (lv_at hl 2 rfl) ?_
      refine lv_iadd b.1 b.2.1 dX10_nextName_165 ?_
      cases hf
      exact k_iret b hlk hr hE (Nat.le_refl _) (Nat.le_refl _) dX10_nextName_166
def fX10_nextName_141  : Nat → PH → Nat → Int64 → Int32 → Option (PH × Int32)
  | 0 => fun _ _ _ _ => none
  | n + 1 => fX10_nextName_141F  (fX10_nextName_141  n)
set_option maxHeartbeats 4000000 in
theorem wfX10_nextName_141 {args : Array Value} (b : Bd p s m c cX10_nextName 6 RX10 D aC) (hlk : meth.locks = false) (hr : meth.sig.returnType = some .int) {Z : State → Prop} (zs : Z s) (zk : ZOK Z (Rg ad)) {hz : PH} {rz : Int32} : ∀ n : Nat, ∀ (h : PH) (x0 : Nat) (x3 : Int64) (x5 : Int32), ∀ (H : Heap) (locs : List Loc) (ls : Array Slot), fX10_nextName_141  n h x0 x3 x5 = some (hz, rz) → CE (EX D aC ad h) (Rg ad) s H locs → lv_has ls 6 [(0, .ref (ad x0)), (3, .long x3), (5, .int x5)] → W p l e (RM 1 21 0 0) s m args below meth c H locs 0 0 (MQ below (PQ (EX D aC ad hz) (Rg ad) (some (.int rz))) args s 0 0 (Rg ad)) (F0 m 141 ls []) := by
  intro n
  induction n with
  | zero =>
    intro h x0 x3 x5 H locs ls hf
    have hf : (none : Option (PH × Int32)) = some _ := hf
    cases hf
  | succ n ih =>
    intro h x0 x3 x5 H locs ls hf hE hl
    exact wfX10_nextName_141F b hlk hr zs zk  ih hf hE hl
def fX10_nextName_116  (h : PH) (x0 : Nat) (x1 : Int32) (x2 : Int32) (x3 : Int64) : Option (PH × Int32) :=
  oC (decide (hT h x0 = 11)) (if ((hI h 1286 x0) - x2) ≤ 10 then (oN (hR h 1283 x0) (fun a10 => oC (decide (hT h a10 = 102)) (oC (ix x1 (hN h a10)) (oL (sB h a10 (Int32.toNatClampNeg x1) x3) (fun h13 => fX10_nextName_141  FU h13 x0 x3 0))))) else (some (h, 264)))
set_option maxHeartbeats 4000000 in
theorem wfX10_nextName_116 {args : Array Value} (b : Bd p s m c cX10_nextName 6 RX10 D aC) (hlk : meth.locks = false) (hr : meth.sig.returnType = some .int) {Z : State → Prop} (zs : Z s) (zk : ZOK Z (Rg ad)) {hz : PH} {rz : Int32} {h : PH} {x0 : Nat} {x1 : Int32} {x2 : Int32} {x3 : Int64}  {H : Heap} {locs : List Loc} {ls : Array Slot} (hf : fX10_nextName_116 h x0 x1 x2 x3 = some (hz, rz)) (hE : CE (EX D aC ad h) (Rg ad) s H locs) (hl : lv_has ls 6 [(0, .ref (ad x0)), (1, .int x1), (2, .int x2), (3, .long x3)]) : W p l e (RM 1 21 0 0) s m args below meth c H locs 0 0 (MQ below (PQ (EX D aC ad hz) (Rg ad) (some (.int rz))) args s 0 0 (Rg ad)) (F0 m 116 ls []) := by
  unfold fX10_nextName_116 at hf
  refine lv_aload_n b.1 b.2.1 dX10_nextName_116 rfl (lv_at hl 0 rfl) ?_
  obtain ⟨t8, hf⟩ := oC_s hf
  have t8 := of_decide_eq_true t8
  refine gX10_41 (x := (some x0)) b hE rfl t8 dX10_nextName_117 ?_
  refine lv_iload_n b.1 b.2.1 dX10_nextName_120 rfl (lv_at hl 2 rfl) ?_
  refine lv_isub b.1 b.2.1 dX10_nextName_121 ?_
  refine lv_bipush (v := 10) b.1 b.2.1 dX10_nextName_122 (by decide) ?_
  refine lv_icmp_le (tgt := 131) b.1 b.2.1 dX10_nextName_124 (by decide) (fun c9 => ?_) (fun c9 => ?_)
  · have hf := oI_t c9 hf
    refine lv_aload_n b.1 b.2.1 dX10_nextName_131 rfl (lv_at hl 0 rfl) ?_
    refine gX10_22 (x := (some x0)) b hE rfl t8 dX10_nextName_132 ?_
    refine lv_iload_n b.1 b.2.1 dX10_nextName_135 rfl (lv_at hl 1 rfl) ?_
    refine lv_lload_n b.1 b.2.1 dX10_nextName_136 rfl (lv_at hl 3 rfl) ?_
    obtain ⟨a10, ea10, hf⟩ := oN_s hf
    obtain ⟨t11, hf⟩ := oC_s hf
    have t11 := of_decide_eq_true t11
    obtain ⟨g12, hf⟩ := oC_s hf
    obtain ⟨h13, eh13, hf⟩ := oL_s hf
    refine q_last (x := (hR h 1283 x0)) b hE ea10 t11 g12 eh13 dX10_nextName_137 (fun H locs hE => ?_)
    refine lv_iconst (v := 0) b.1 b.2.1 dX10_nextName_138 (by decide) ?_
    refine lv_istore (lv' := [(5, .int 0), (0, .ref (ad x0)), (1, .int x1), (2, .int x2), (3, .long x3)]) b.1 b.2.1 dX10_nextName_139 hl (by decide) rfl (fun ls hl => ?_)
    have hl := lv_sub (l' := [(5, .int 0), (0, .ref (ad x0)), (3, .long x3)]) hl [0, 1, 4] rfl
    exact wfX10_nextName_141 b hlk hr zs zk  FU h13 x0 x3 0 _ _ _ hf hE (lv_sub hl [1, 2, 0] rfl)
  · have hf := oI_f c9 hf
    refine lv_sipush (v := 264) b.1 b.2.1 dX10_nextName_127 (by decide) ?_
    cases hf
    exact k_iret b hlk hr hE (Nat.le_refl _) (Nat.le_refl _) dX10_nextName_130
def fX10_nextName_100 (k7 : PH → Nat → Int32 → Int32 → Int64 → Option (PH × Int32)) (h : PH) (x0 : Nat) (x1 : Int32) (x2 : Int32) (s0 : Int32) (s1 : Int64) : Option (PH × Int32) :=
  oL (s1 ||| (Int32.toInt64 s0)) (fun y14 => oC (decide (hT h x0 = 11)) (oL (sI h 1286 x0 ((hI h 1286 x0) + 1)) (fun h16 => k7 h16 x0 x1 x2 y14)))
set_option maxHeartbeats 4000000 in
theorem wfX10_nextName_100 {args : Array Value} (b : Bd p s m c cX10_nextName 6 RX10 D aC) (hlk : meth.locks = false) (hr : meth.sig.returnType = some .int) {Z : State → Prop} (zs : Z s) (zk : ZOK Z (Rg ad)) {hz : PH} {rz : Int32} {k7 : PH → Nat → Int32 → Int32 → Int64 → Option (PH × Int32)} (H7 : ∀ (h : PH) (x0 : Nat) (x1 : Int32) (x2 : Int32) (x3 : Int64), ∀ (H : Heap) (locs : List Loc) (ls : Array Slot), k7 h x0 x1 x2 x3 = some (hz, rz) → CE (EX D aC ad h) (Rg ad) s H locs → lv_has ls 6 [(0, .ref (ad x0)), (1, .int x1), (2, .int x2), (3, .long x3)] → W p l e (RM 1 21 0 0) s m args below meth c H locs 0 0 (MQ below (PQ (EX D aC ad hz) (Rg ad) (some (.int rz))) args s 0 0 (Rg ad)) (F0 m 7 ls [])) {h : PH} {x0 : Nat} {x1 : Int32} {x2 : Int32} {s0 : Int32} {s1 : Int64}  {H : Heap} {locs : List Loc} {ls : Array Slot} (hf : fX10_nextName_100 k7 h x0 x1 x2 s0 s1 = some (hz, rz)) (hE : CE (EX D aC ad h) (Rg ad) s H locs) (hl : lv_has ls 6 [(0, .ref (ad x0)), (1, .int x1), (2, .int x2)]) : W p l e (RM 1 21 0 0) s m args below meth c H locs 0 0 (MQ below (PQ (EX D aC ad hz) (Rg ad) (some (.int rz))) args s 0 0 (Rg ad)) (F0 m 100 ls [.int s0, .long s1]) := by
  unfold fX10_nextName_100 at hf
  refine lv_i2l b.1 b.2.1 dX10_nextName_100 rfl ?_
  refine lv_lor b.1 b.2.1 dX10_nextName_101 ?_
  obtain ⟨y14, ey14, hf⟩ := oL_s hf
  refine k_nmL ey14 ?_
  refine lv_lstore_n (lv' := [(3, .long y14), (0, .ref (ad x0)), (1, .int x1), (2, .int x2)]) b.1 b.2.1 dX10_nextName_102 rfl hl (by decide) rfl (fun ls hl => ?_)
  refine lv_aload_n b.1 b.2.1 dX10_nextName_103 rfl (lv_at hl 1 rfl) ?_
  refine lv_dup b.1 b.2.1 dX10_nextName_104 rfl ?_
  obtain ⟨t15, hf⟩ := oC_s hf
  have t15 := of_decide_eq_true t15
  refine gX10_41 (x := (some x0)) b hE rfl t15 dX10_nextName_105 ?_
  refine lv_iconst (v := 1) b.1 b.2.1 dX10_nextName_108 (by decide) ?_
  refine lv_iadd b.1 b.2.1 dX10_nextName_109 ?_
  obtain ⟨h16, eh16, hf⟩ := oL_s hf
  refine pX10_41 (x := (some x0)) b hE rfl t15 eh16 dX10_nextName_110 (fun H locs hE => ?_)
  refine lv_goto (tgt := 7) b.1 b.2.1 dX10_nextName_113 (by decide) ?_
  exact H7 h16 x0 x1 x2 y14 _ _ _ hf hE (lv_sub hl [1, 2, 3, 0] rfl)
def fX10_nextName_55 (k7 : PH → Nat → Int32 → Int32 → Int64 → Option (PH × Int32)) (h : PH) (x0 : Nat) (x1 : Int32) (x2 : Int32) (x3 : Int64) : Option (PH × Int32) :=
  oC (decide (hT h x0 = 11)) (oN (hR h 1285 x0) (fun a18 => oC (decide (hT h a18 = 1)) (oB (fX0_byteAt h a18 (hI h 1286 x0)) (fun r21 => oB (fX10_isDigit r21) (fun r23 => if r23 = 0 then (fX10_nextName_100 k7 h x0 x1 x2 ((r21 - 97) + 1) (x3 <<< ((6 : Int32).toInt64 &&& 63))) else (fX10_nextName_100 k7 h x0 x1 x2 (((r21 - 48) + 26) + 1) (x3 <<< ((6 : Int32).toInt64 &&& 63))))))))
set_option maxHeartbeats 4000000 in
theorem wfX10_nextName_55 {args : Array Value} (b : Bd p s m c cX10_nextName 6 RX10 D aC) (hlk : meth.locks = false) (hr : meth.sig.returnType = some .int) {Z : State → Prop} (zs : Z s) (zk : ZOK Z (Rg ad)) {hz : PH} {rz : Int32} {k7 : PH → Nat → Int32 → Int32 → Int64 → Option (PH × Int32)} (H7 : ∀ (h : PH) (x0 : Nat) (x1 : Int32) (x2 : Int32) (x3 : Int64), ∀ (H : Heap) (locs : List Loc) (ls : Array Slot), k7 h x0 x1 x2 x3 = some (hz, rz) → CE (EX D aC ad h) (Rg ad) s H locs → lv_has ls 6 [(0, .ref (ad x0)), (1, .int x1), (2, .int x2), (3, .long x3)] → W p l e (RM 1 21 0 0) s m args below meth c H locs 0 0 (MQ below (PQ (EX D aC ad hz) (Rg ad) (some (.int rz))) args s 0 0 (Rg ad)) (F0 m 7 ls [])) {h : PH} {x0 : Nat} {x1 : Int32} {x2 : Int32} {x3 : Int64}  {H : Heap} {locs : List Loc} {ls : Array Slot} (hf : fX10_nextName_55 k7 h x0 x1 x2 x3 = some (hz, rz)) (hE : CE (EX D aC ad h) (Rg ad) s H locs) (hl : lv_has ls 6 [(0, .ref (ad x0)), (1, .int x1), (2, .int x2), (3, .long x3)]) : W p l e (RM 1 21 0 0) s m args below meth c H locs 0 0 (MQ below (PQ (EX D aC ad hz) (Rg ad) (some (.int rz))) args s 0 0 (Rg ad)) (F0 m 55 ls []) := by
  unfold fX10_nextName_55 at hf
  refine lv_aload_n b.1 b.2.1 dX10_nextName_55 rfl (lv_at hl 0 rfl) ?_
  obtain ⟨t17, hf⟩ := oC_s hf
  have t17 := of_decide_eq_true t17
  refine gX10_37 (x := (some x0)) b hE rfl t17 dX10_nextName_56 ?_
  refine lv_aload_n b.1 b.2.1 dX10_nextName_59 rfl (lv_at hl 0 rfl) ?_
  refine gX10_41 (x := (some x0)) b hE rfl t17 dX10_nextName_60 ?_
  obtain ⟨a18, ea18, hf⟩ := oN_s hf
  obtain ⟨t19, hf⟩ := oC_s hf
  have t19 := of_decide_eq_true t19
  obtain ⟨r21, hc20, hf⟩ := oB_s hf
  refine k_stk [.int (hI h 1286 x0)] ea18 ?_
  refine k_callV0 (C := RX0) b zs zk hE (CX0_byteAt l D aC ad zk hc20) mc_X0_byteAt (in2 129 rfl rfl) mi_X0_byteAt ms_X0_byteAt ini_RX0 ok_X0_byteAt (x_recv b hE (ci := 0) rfl (by decide) t19) ⟨Nat.le_of_ble_eq_true rfl, Nat.le_of_ble_eq_true rfl⟩ rfl hl.1 rfl (k_room _ (by exact Nat.le_of_ble_eq_true rfl)) ⟨Nat.le_refl _, Nat.le_refl _⟩ dX10_nextName_63 (fun H locs hE => ?_)
  refine lv_istore (lv' := [(5, .int r21), (0, .ref (ad x0)), (1, .int x1), (2, .int x2), (3, .long x3)]) b.1 b.2.1 dX10_nextName_66 hl (by decide) rfl (fun ls hl => ?_)
  refine lv_lload_n b.1 b.2.1 dX10_nextName_68 rfl (lv_at hl 4 rfl) ?_
  refine lv_bipush (v := 6) b.1 b.2.1 dX10_nextName_69 (by decide) ?_
  refine lv_lshl b.1 b.2.1 dX10_nextName_71 rfl ?_
  refine lv_iload b.1 b.2.1 dX10_nextName_72 (lv_at hl 0 rfl) ?_
  obtain ⟨r23, hc22, hf⟩ := oB_s hf
  refine k_callS0 b zs zk hE (CX10_isDigit l D aC zk hc22) mc_X10_isDigit (in2 147 rfl rfl) mt_X10_isDigit ini_RX10 ok_X10_isDigit ⟨Nat.le_of_ble_eq_true rfl, Nat.le_of_ble_eq_true rfl⟩ rfl hl.1 rfl (k_room _ (by exact Nat.le_of_ble_eq_true rfl)) ⟨Nat.le_refl _, Nat.le_refl _⟩ dX10_nextName_74 (fun H locs hE => ?_)
  refine lv_if_eq (tgt := 93) b.1 b.2.1 dX10_nextName_77 (by decide) (fun c24 => ?_) (fun c24 => ?_)
  · have hf := oI_t c24 hf
    refine lv_iload b.1 b.2.1 dX10_nextName_93 (lv_at hl 0 rfl) ?_
    refine lv_bipush (v := 97) b.1 b.2.1 dX10_nextName_95 (by decide) ?_
    refine lv_isub b.1 b.2.1 dX10_nextName_97 ?_
    refine lv_iconst (v := 1) b.1 b.2.1 dX10_nextName_98 (by decide) ?_
    refine lv_iadd b.1 b.2.1 dX10_nextName_99 ?_
    exact wfX10_nextName_100 b hlk hr zs zk H7 hf hE (lv_sub hl [1, 2, 3] rfl)
  · have hf := oI_f c24 hf
    refine lv_iload b.1 b.2.1 dX10_nextName_80 (lv_at hl 0 rfl) ?_
    refine lv_bipush (v := 48) b.1 b.2.1 dX10_nextName_82 (by decide) ?_
    refine lv_isub b.1 b.2.1 dX10_nextName_84 ?_
    refine lv_bipush (v := 26) b.1 b.2.1 dX10_nextName_85 (by decide) ?_
    refine lv_iadd b.1 b.2.1 dX10_nextName_87 ?_
    refine lv_iconst (v := 1) b.1 b.2.1 dX10_nextName_88 (by decide) ?_
    refine lv_iadd b.1 b.2.1 dX10_nextName_89 ?_
    refine lv_goto (tgt := 100) b.1 b.2.1 dX10_nextName_90 (by decide) ?_
    exact wfX10_nextName_100 b hlk hr zs zk H7 hf hE (lv_sub hl [1, 2, 3] rfl)
def fX10_nextName_7F (k7 : PH → Nat → Int32 → Int32 → Int64 → Option (PH × Int32)) (h : PH) (x0 : Nat) (x1 : Int32) (x2 : Int32) (x3 : Int64) : Option (PH × Int32) :=
  oC (decide (hT h x0 = 11)) (oN (hR h 1285 x0) (fun a26 => oC (decide (hT h a26 = 1)) (if (hI h 1 a26) ≤ (hI h 1286 x0) then (fX10_nextName_116  h x0 x1 x2 x3) else (oB (fX0_byteAt h a26 (hI h 1286 x0)) (fun r30 => oB (fX10_isSmall r30) (fun r32 => if r32 = 0 then (oB (fX0_byteAt h a26 (hI h 1286 x0)) (fun r35 => oB (fX10_isDigit r35) (fun r37 => if r37 = 0 then (fX10_nextName_116  h x0 x1 x2 x3) else (fX10_nextName_55 k7 h x0 x1 x2 x3)))) else (fX10_nextName_55 k7 h x0 x1 x2 x3)))))))
set_option maxHeartbeats 4000000 in
theorem wfX10_nextName_7F {args : Array Value} (b : Bd p s m c cX10_nextName 6 RX10 D aC) (hlk : meth.locks = false) (hr : meth.sig.returnType = some .int) {Z : State → Prop} (zs : Z s) (zk : ZOK Z (Rg ad)) {hz : PH} {rz : Int32} {k7 : PH → Nat → Int32 → Int32 → Int64 → Option (PH × Int32)} (H7 : ∀ (h : PH) (x0 : Nat) (x1 : Int32) (x2 : Int32) (x3 : Int64), ∀ (H : Heap) (locs : List Loc) (ls : Array Slot), k7 h x0 x1 x2 x3 = some (hz, rz) → CE (EX D aC ad h) (Rg ad) s H locs → lv_has ls 6 [(0, .ref (ad x0)), (1, .int x1), (2, .int x2), (3, .long x3)] → W p l e (RM 1 21 0 0) s m args below meth c H locs 0 0 (MQ below (PQ (EX D aC ad hz) (Rg ad) (some (.int rz))) args s 0 0 (Rg ad)) (F0 m 7 ls [])) {h : PH} {x0 : Nat} {x1 : Int32} {x2 : Int32} {x3 : Int64}  {H : Heap} {locs : List Loc} {ls : Array Slot} (hf : fX10_nextName_7F k7 h x0 x1 x2 x3 = some (hz, rz)) (hE : CE (EX D aC ad h) (Rg ad) s H locs) (hl : lv_has ls 6 [(0, .ref (ad x0)), (1, .int x1), (2, .int x2), (3, .long x3)]) : W p l e (RM 1 21 0 0) s m args below meth c H locs 0 0 (MQ below (PQ (EX D aC ad hz) (Rg ad) (some (.int rz))) args s 0 0 (Rg ad)) (F0 m 7 ls []) := by
  unfold fX10_nextName_7F at hf
  refine lv_aload_n b.1 b.2.1 dX10_nextName_7 rfl (lv_at hl 0 rfl) ?_
  obtain ⟨t25, hf⟩ := oC_s hf
  have t25 := of_decide_eq_true t25
  refine gX10_41 (x := (some x0)) b hE rfl t25 dX10_nextName_8 ?_
  refine lv_aload_n b.1 b.2.1 dX10_nextName_11 rfl (lv_at hl 0 rfl) ?_
  refine gX10_37 (x := (some x0)) b hE rfl t25 dX10_nextName_12 ?_
  obtain ⟨a26, ea26, hf⟩ := oN_s hf
  obtain ⟨t27, hf⟩ := oC_s hf
  have t27 := of_decide_eq_true t27
  refine gX10_48 (x := (hR h 1285 x0)) b hE ea26 t27 dX10_nextName_15 ?_
  refine lv_icmp_ge (tgt := 116) b.1 b.2.1 dX10_nextName_18 (by decide) (fun c28 => ?_) (fun c28 => ?_)
  · have hf := oI_t c28 hf
    exact wfX10_nextName_116 b hlk hr zs zk  hf hE (lv_sub hl [0, 1, 2, 3] rfl)
  · have hf := oI_f c28 hf
    refine lv_aload_n b.1 b.2.1 dX10_nextName_21 rfl (lv_at hl 0 rfl) ?_
    refine gX10_37 (x := (some x0)) b hE rfl t25 dX10_nextName_22 ?_
    refine lv_aload_n b.1 b.2.1 dX10_nextName_25 rfl (lv_at hl 0 rfl) ?_
    refine gX10_41 (x := (some x0)) b hE rfl t25 dX10_nextName_26 ?_
    obtain ⟨r30, hc29, hf⟩ := oB_s hf
    refine k_stk [.int (hI h 1286 x0)] ea26 ?_
    refine k_callV0 (C := RX0) b zs zk hE (CX0_byteAt l D aC ad zk hc29) mc_X0_byteAt (in2 129 rfl rfl) mi_X0_byteAt ms_X0_byteAt ini_RX0 ok_X0_byteAt (x_recv b hE (ci := 0) rfl (by decide) t27) ⟨Nat.le_of_ble_eq_true rfl, Nat.le_of_ble_eq_true rfl⟩ rfl hl.1 rfl (k_room _ (by exact Nat.le_of_ble_eq_true rfl)) ⟨Nat.le_refl _, Nat.le_refl _⟩ dX10_nextName_29 (fun H locs hE => ?_)
    obtain ⟨r32, hc31, hf⟩ := oB_s hf
    refine k_callS0 b zs zk hE (CX10_isSmall l D aC zk hc31) mc_X10_isSmall (in2 140 rfl rfl) mt_X10_isSmall ini_RX10 ok_X10_isSmall ⟨Nat.le_of_ble_eq_true rfl, Nat.le_of_ble_eq_true rfl⟩ rfl hl.1 rfl (k_room _ (by exact Nat.le_of_ble_eq_true rfl)) ⟨Nat.le_refl _, Nat.le_refl _⟩ dX10_nextName_32 (fun H locs hE => ?_)
    refine lv_if_ne (tgt := 55) b.1 b.2.1 dX10_nextName_35 (by decide) (fun c33 => ?_) (fun c33 => ?_)
    · have hf := oI_f c33 hf
      exact wfX10_nextName_55 b hlk hr zs zk H7 hf hE (lv_sub hl [0, 1, 2, 3] rfl)
    · have hf := oI_t c33 hf
      refine lv_aload_n b.1 b.2.1 dX10_nextName_38 rfl (lv_at hl 0 rfl) ?_
      refine gX10_37 (x := (some x0)) b hE rfl t25 dX10_nextName_39 ?_
      refine lv_aload_n b.1 b.2.1 dX10_nextName_42 rfl (lv_at hl 0 rfl) ?_
      refine gX10_41 (x := (some x0)) b hE rfl t25 dX10_nextName_43 ?_
      obtain ⟨r35, hc34, hf⟩ := oB_s hf
      refine k_stk [.int (hI h 1286 x0)] ea26 ?_
      refine k_callV0 (C := RX0) b zs zk hE (CX0_byteAt l D aC ad zk hc34) mc_X0_byteAt (in2 129 rfl rfl) mi_X0_byteAt ms_X0_byteAt ini_RX0 ok_X0_byteAt (x_recv b hE (ci := 0) rfl (by decide) t27) ⟨Nat.le_of_ble_eq_true rfl, Nat.le_of_ble_eq_true rfl⟩ rfl hl.1 rfl (k_room _ (by exact Nat.le_of_ble_eq_true rfl)) ⟨Nat.le_refl _, Nat.le_refl _⟩ dX10_nextName_46 (fun H locs hE => ?_)
      obtain ⟨r37, hc36, hf⟩ := oB_s hf
      refine k_callS0 b zs zk hE (CX10_isDigit l D aC zk hc36) mc_X10_isDigit (in2 147 rfl rfl) mt_X10_isDigit ini_RX10 ok_X10_isDigit ⟨Nat.le_of_ble_eq_true rfl, Nat.le_of_ble_eq_true rfl⟩ rfl hl.1 rfl (k_room _ (by exact Nat.le_of_ble_eq_true rfl)) ⟨Nat.le_refl _, Nat.le_refl _⟩ dX10_nextName_49 (fun H locs hE => ?_)
      refine lv_if_eq (tgt := 116) b.1 b.2.1 dX10_nextName_52 (by decide) (fun c38 => ?_) (fun c38 => ?_)
      · have hf := oI_t c38 hf
        exact wfX10_nextName_116 b hlk hr zs zk  hf hE (lv_sub hl [0, 1, 2, 3] rfl)
      · have hf := oI_f c38 hf
        exact wfX10_nextName_55 b hlk hr zs zk H7 hf hE (lv_sub hl [0, 1, 2, 3] rfl)
def fX10_nextName_7  : Nat → PH → Nat → Int32 → Int32 → Int64 → Option (PH × Int32)
  | 0 => fun _ _ _ _ _ => none
  | n + 1 => fX10_nextName_7F  (fX10_nextName_7  n)
set_option maxHeartbeats 4000000 in
theorem wfX10_nextName_7 {args : Array Value} (b : Bd p s m c cX10_nextName 6 RX10 D aC) (hlk : meth.locks = false) (hr : meth.sig.returnType = some .int) {Z : State → Prop} (zs : Z s) (zk : ZOK Z (Rg ad)) {hz : PH} {rz : Int32} : ∀ n : Nat, ∀ (h : PH) (x0 : Nat) (x1 : Int32) (x2 : Int32) (x3 : Int64), ∀ (H : Heap) (locs : List Loc) (ls : Array Slot), fX10_nextName_7  n h x0 x1 x2 x3 = some (hz, rz) → CE (EX D aC ad h) (Rg ad) s H locs → lv_has ls 6 [(0, .ref (ad x0)), (1, .int x1), (2, .int x2), (3, .long x3)] → W p l e (RM 1 21 0 0) s m args below meth c H locs 0 0 (MQ below (PQ (EX D aC ad hz) (Rg ad) (some (.int rz))) args s 0 0 (Rg ad)) (F0 m 7 ls []) := by
  intro n
  induction n with
  | zero =>
    intro h x0 x1 x2 x3 H locs ls hf
    have hf : (none : Option (PH × Int32)) = some _ := hf
    cases hf
  | succ n ih =>
    intro h x0 x1 x2 x3 H locs ls hf hE hl
    exact wfX10_nextName_7F b hlk hr zs zk  ih hf hE hl
def fX10_nextName_0  (h : PH) (x0 : Nat) (x1 : Int32) : Option (PH × Int32) :=
  oC (decide (hT h x0 = 11)) (oL (hI h 1286 x0) (fun y40 => fX10_nextName_7  FU h x0 x1 y40 0))
set_option maxHeartbeats 4000000 in
theorem wfX10_nextName_0 {args : Array Value} (b : Bd p s m c cX10_nextName 6 RX10 D aC) (hlk : meth.locks = false) (hr : meth.sig.returnType = some .int) {Z : State → Prop} (zs : Z s) (zk : ZOK Z (Rg ad)) {hz : PH} {rz : Int32} {h : PH} {x0 : Nat} {x1 : Int32}  {H : Heap} {locs : List Loc} {ls : Array Slot} (hf : fX10_nextName_0 h x0 x1 = some (hz, rz)) (hE : CE (EX D aC ad h) (Rg ad) s H locs) (hl : lv_has ls 6 [(0, .ref (ad x0)), (1, .int x1)]) : W p l e (RM 1 21 0 0) s m args below meth c H locs 0 0 (MQ below (PQ (EX D aC ad hz) (Rg ad) (some (.int rz))) args s 0 0 (Rg ad)) (F0 m 0 ls []) := by
  unfold fX10_nextName_0 at hf
  refine lv_aload_n b.1 b.2.1 dX10_nextName_0 rfl (lv_at hl 0 rfl) ?_
  obtain ⟨t39, hf⟩ := oC_s hf
  have t39 := of_decide_eq_true t39
  refine gX10_41 (x := (some x0)) b hE rfl t39 dX10_nextName_1 ?_
  obtain ⟨y40, ey40, hf⟩ := oL_s hf
  refine k_nmI ey40 ?_
  refine lv_istore_n (lv' := [(2, .int y40), (0, .ref (ad x0)), (1, .int x1)]) b.1 b.2.1 dX10_nextName_4 rfl hl (by decide) rfl (fun ls hl => ?_)
  refine lv_lconst (v := 0) b.1 b.2.1 dX10_nextName_5 rfl ?_
  refine lv_lstore_n (lv' := [(3, .long 0), (2, .int y40), (0, .ref (ad x0)), (1, .int x1)]) b.1 b.2.1 dX10_nextName_6 rfl hl (by decide) rfl (fun ls hl => ?_)
  exact wfX10_nextName_7 b hlk hr zs zk  FU h x0 x1 y40 0 _ _ _ hf hE (lv_sub hl [2, 3, 1, 0] rfl)
def fX10_nextName (h : PH) (x0 : Nat) (x1 : Int32) : Option (PH × Int32) := fX10_nextName_0 h x0 x1
set_option maxHeartbeats 4000000 in
theorem CX10_nextName (l : Launch) (D : va_G) (aC : Nat → ClassId) (ad : Nat → Nat) {Z : State → Prop} (zk : ZOK Z (Rg ad)) {h : PH} {x0 : Nat} {x1 : Int32} {hz : PH} {rz : Int32} (hf : fX10_nextName h x0 x1 = some (hz, rz)) : CM l D aC Z yX10_nextName cX10_nextName 6 (some .int) 1 21 0 0 (EX D aC ad h) [.ref (ad x0), .int x1] (EX D aC ad hz) (some (.int rz)) (Rg ad) := by
  refine CM.of rfl ?_
  intro p e s m below meth c b hr hlk hin2 zs hE
  refine k_ent (Nat.le_of_ble_eq_true rfl) (fun ls hl => ?_)
  exact wfX10_nextName_0 b hlk hr zs zk hf hE (lv_sub hl [0, 1] rfl)
theorem dX10_nextInteger_0 : decode cX10_nextInteger 0 = .ok (.aload_n 0, 1) := by decide +kernel
theorem dX10_nextInteger_1 : decode cX10_nextInteger 1 = .ok (.getfield 41, 3) := by decide +kernel
theorem dX10_nextInteger_4 : decode cX10_nextInteger 4 = .ok (.istore_n 2, 1) := by decide +kernel
theorem dX10_nextInteger_5 : decode cX10_nextInteger 5 = .ok (.lconst 0, 1) := by decide +kernel
theorem dX10_nextInteger_6 : decode cX10_nextInteger 6 = .ok (.lstore_n 3, 1) := by decide +kernel
theorem dX10_nextInteger_7 : decode cX10_nextInteger 7 = .ok (.aload_n 0, 1) := by decide +kernel
theorem dX10_nextInteger_8 : decode cX10_nextInteger 8 = .ok (.getfield 41, 3) := by decide +kernel
theorem dX10_nextInteger_11 : decode cX10_nextInteger 11 = .ok (.aload_n 0, 1) := by decide +kernel
theorem dX10_nextInteger_12 : decode cX10_nextInteger 12 = .ok (.getfield 37, 3) := by decide +kernel
theorem dX10_nextInteger_15 : decode cX10_nextInteger 15 = .ok (.getfield 48, 3) := by decide +kernel
theorem dX10_nextInteger_18 : decode cX10_nextInteger 18 = .ok (.if_icmp .ge 56, 3) := by decide +kernel
theorem dX10_nextInteger_21 : decode cX10_nextInteger 21 = .ok (.aload_n 0, 1) := by decide +kernel
theorem dX10_nextInteger_22 : decode cX10_nextInteger 22 = .ok (.getfield 37, 3) := by decide +kernel
theorem dX10_nextInteger_25 : decode cX10_nextInteger 25 = .ok (.aload_n 0, 1) := by decide +kernel
theorem dX10_nextInteger_26 : decode cX10_nextInteger 26 = .ok (.getfield 41, 3) := by decide +kernel
theorem dX10_nextInteger_29 : decode cX10_nextInteger 29 = .ok (.invokevirtual 69, 3) := by decide +kernel
theorem dX10_nextInteger_32 : decode cX10_nextInteger 32 = .ok (.invokestatic 82, 3) := by decide +kernel
theorem dX10_nextInteger_35 : decode cX10_nextInteger 35 = .ok (.ifCond .eq 39, 3) := by decide +kernel
theorem dX10_nextInteger_38 : decode cX10_nextInteger 38 = .ok (.lload_n 3, 1) := by decide +kernel
theorem dX10_nextInteger_39 : decode cX10_nextInteger 39 = .ok (.ldc2_w 91, 3) := by decide +kernel
theorem dX10_nextInteger_42 : decode cX10_nextInteger 42 = .ok (.lmul, 1) := by decide +kernel
theorem dX10_nextInteger_43 : decode cX10_nextInteger 43 = .ok (.aload_n 0, 1) := by decide +kernel
theorem dX10_nextInteger_44 : decode cX10_nextInteger 44 = .ok (.getfield 37, 3) := by decide +kernel
theorem dX10_nextInteger_47 : decode cX10_nextInteger 47 = .ok (.aload_n 0, 1) := by decide +kernel
theorem dX10_nextInteger_48 : decode cX10_nextInteger 48 = .ok (.getfield 41, 3) := by decide +kernel
theorem dX10_nextInteger_51 : decode cX10_nextInteger 51 = .ok (.invokevirtual 69, 3) := by decide +kernel
theorem dX10_nextInteger_54 : decode cX10_nextInteger 54 = .ok (.i2l, 1) := by decide +kernel
theorem dX10_nextInteger_55 : decode cX10_nextInteger 55 = .ok (.ladd, 1) := by decide +kernel
theorem dX10_nextInteger_56 : decode cX10_nextInteger 56 = .ok (.ldc2_w 93, 3) := by decide +kernel
theorem dX10_nextInteger_59 : decode cX10_nextInteger 59 = .ok (.lsub, 1) := by decide +kernel
theorem dX10_nextInteger_60 : decode cX10_nextInteger 60 = .ok (.lstore_n 3, 1) := by decide +kernel
theorem dX10_nextInteger_61 : decode cX10_nextInteger 61 = .ok (.aload_n 0, 1) := by decide +kernel
theorem dX10_nextInteger_62 : decode cX10_nextInteger 62 = .ok (.dup, 1) := by decide +kernel
theorem dX10_nextInteger_63 : decode cX10_nextInteger 63 = .ok (.getfield 41, 3) := by decide +kernel
theorem dX10_nextInteger_66 : decode cX10_nextInteger 66 = .ok (.iconst 1, 1) := by decide +kernel
theorem dX10_nextInteger_67 : decode cX10_nextInteger 67 = .ok (.iadd, 1) := by decide +kernel
theorem dX10_nextInteger_68 : decode cX10_nextInteger 68 = .ok (.putfield 41, 3) := by decide +kernel
theorem dX10_nextInteger_71 : decode cX10_nextInteger 71 = .ok (.goto (-64), 3) := by decide +kernel
theorem dX10_nextInteger_74 : decode cX10_nextInteger 74 = .ok (.aload_n 0, 1) := by decide +kernel
theorem dX10_nextInteger_75 : decode cX10_nextInteger 75 = .ok (.getfield 41, 3) := by decide +kernel
theorem dX10_nextInteger_78 : decode cX10_nextInteger 78 = .ok (.iload_n 2, 1) := by decide +kernel
theorem dX10_nextInteger_79 : decode cX10_nextInteger 79 = .ok (.isub, 1) := by decide +kernel
theorem dX10_nextInteger_80 : decode cX10_nextInteger 80 = .ok (.bipush 6, 2) := by decide +kernel
theorem dX10_nextInteger_82 : decode cX10_nextInteger 82 = .ok (.if_icmp .le 7, 3) := by decide +kernel
theorem dX10_nextInteger_85 : decode cX10_nextInteger 85 = .ok (.sipush 264, 3) := by decide +kernel
theorem dX10_nextInteger_88 : decode cX10_nextInteger 88 = .ok (.ireturn, 1) := by decide +kernel
theorem dX10_nextInteger_89 : decode cX10_nextInteger 89 = .ok (.aload_n 0, 1) := by decide +kernel
theorem dX10_nextInteger_90 : decode cX10_nextInteger 90 = .ok (.getfield 22, 3) := by decide +kernel
theorem dX10_nextInteger_93 : decode cX10_nextInteger 93 = .ok (.iload_n 1, 1) := by decide +kernel
theorem dX10_nextInteger_94 : decode cX10_nextInteger 94 = .ok (.lload_n 3, 1) := by decide +kernel
theorem dX10_nextInteger_95 : decode cX10_nextInteger 95 = .ok (.lastore, 1) := by decide +kernel
theorem dX10_nextInteger_96 : decode cX10_nextInteger 96 = .ok (.sipush 262, 3) := by decide +kernel
theorem dX10_nextInteger_99 : decode cX10_nextInteger 99 = .ok (.ireturn, 1) := by decide +kernel
def fX10_nextInteger_74  (h : PH) (x0 : Nat) (x1 : Int32) (x2 : Int32) (x3 : Int64) : Option (PH × Int32) :=
  oC (decide (hT h x0 = 11)) (if ((hI h 1286 x0) - x2) ≤ 6 then (oN (hR h 1283 x0) (fun a3 => oC (decide (hT h a3 = 102)) (oC (ix x1 (hN h a3)) (oL (sB h a3 (Int32.toNatClampNeg x1) x3) (fun h6 => some (h6, 262)))))) else (some (h, 264)))
set_option maxHeartbeats 4000000 in
theorem wfX10_nextInteger_74 {args : Array Value} (b : Bd p s m c cX10_nextInteger 5 RX10 D aC) (hlk : meth.locks = false) (hr : meth.sig.returnType = some .int) {Z : State → Prop} (zs : Z s) (zk : ZOK Z (Rg ad)) {hz : PH} {rz : Int32} {h : PH} {x0 : Nat} {x1 : Int32} {x2 : Int32} {x3 : Int64}  {H : Heap} {locs : List Loc} {ls : Array Slot} (hf : fX10_nextInteger_74 h x0 x1 x2 x3 = some (hz, rz)) (hE : CE (EX D aC ad h) (Rg ad) s H locs) (hl : lv_has ls 5 [(0, .ref (ad x0)), (1, .int x1), (2, .int x2), (3, .long x3)]) : W p l e (RM 1 21 0 0) s m args below meth c H locs 0 0 (MQ below (PQ (EX D aC ad hz) (Rg ad) (some (.int rz))) args s 0 0 (Rg ad)) (F0 m 74 ls []) := by
  unfold fX10_nextInteger_74 at hf
  refine lv_aload_n b.1 b.2.1 dX10_nextInteger_74 rfl (lv_at hl 0 rfl) ?_
  obtain ⟨t1, hf⟩ := oC_s hf
  have t1 := of_decide_eq_true t1
  refine gX10_41 (x := (some x0)) b hE rfl t1 dX10_nextInteger_75 ?_
  refine lv_iload_n b.1 b.2.1 dX10_nextInteger_78 rfl (lv_at hl 2 rfl) ?_
  refine lv_isub b.1 b.2.1 dX10_nextInteger_79 ?_
  refine lv_bipush (v := 6) b.1 b.2.1 dX10_nextInteger_80 (by decide) ?_
  refine lv_icmp_le (tgt := 89) b.1 b.2.1 dX10_nextInteger_82 (by decide) (fun c2 => ?_) (fun c2 => ?_)
  · have hf := oI_t c2 hf
    refine lv_aload_n b.1 b.2.1 dX10_nextInteger_89 rfl (lv_at hl 0 rfl) ?_
    refine gX10_22 (x := (some x0)) b hE rfl t1 dX10_nextInteger_90 ?_
    refine lv_iload_n b.1 b.2.1 dX10_nextInteger_93 rfl (lv_at hl 1 rfl) ?_
    refine lv_lload_n b.1 b.2.1 dX10_nextInteger_94 rfl (lv_at hl 3 rfl) ?_
    obtain ⟨a3, ea3, hf⟩ := oN_s hf
    obtain ⟨t4, hf⟩ := oC_s hf
    have t4 := of_decide_eq_true t4
    obtain ⟨g5, hf⟩ := oC_s hf
    obtain ⟨h6, eh6, hf⟩ := oL_s hf
    refine q_last (x := (hR h 1283 x0)) b hE ea3 t4 g5 eh6 dX10_nextInteger_95 (fun H locs hE => ?_)
    refine lv_sipush (v := 262) b.1 b.2.1 dX10_nextInteger_96 (by decide) ?_
    cases hf
    exact k_iret b hlk hr hE (Nat.le_refl _) (Nat.le_refl _) dX10_nextInteger_99
  · have hf := oI_f c2 hf
    refine lv_sipush (v := 264) b.1 b.2.1 dX10_nextInteger_85 (by decide) ?_
    cases hf
    exact k_iret b hlk hr hE (Nat.le_refl _) (Nat.le_refl _) dX10_nextInteger_88
def fX10_nextInteger_7F (k7 : PH → Nat → Int32 → Int32 → Int64 → Option (PH × Int32)) (h : PH) (x0 : Nat) (x1 : Int32) (x2 : Int32) (x3 : Int64) : Option (PH × Int32) :=
  oC (decide (hT h x0 = 11)) (oN (hR h 1285 x0) (fun a8 => oC (decide (hT h a8 = 1)) (if (hI h 1 a8) ≤ (hI h 1286 x0) then (fX10_nextInteger_74  h x0 x1 x2 x3) else (oB (fX0_byteAt h a8 (hI h 1286 x0)) (fun r12 => oB (fX10_isDigit r12) (fun r14 => if r14 = 0 then (fX10_nextInteger_74  h x0 x1 x2 x3) else (oB (fX0_byteAt h a8 (hI h 1286 x0)) (fun r17 => oL (((x3 * 10) + (Int32.toInt64 r17)) - 48) (fun y18 => oL (sI h 1286 x0 ((hI h 1286 x0) + 1)) (fun h19 => k7 h19 x0 x1 x2 y18))))))))))
set_option maxHeartbeats 4000000 in
theorem wfX10_nextInteger_7F {args : Array Value} (b : Bd p s m c cX10_nextInteger 5 RX10 D aC) (hlk : meth.locks = false) (hr : meth.sig.returnType = some .int) {Z : State → Prop} (zs : Z s) (zk : ZOK Z (Rg ad)) {hz : PH} {rz : Int32} {k7 : PH → Nat → Int32 → Int32 → Int64 → Option (PH × Int32)} (H7 : ∀ (h : PH) (x0 : Nat) (x1 : Int32) (x2 : Int32) (x3 : Int64), ∀ (H : Heap) (locs : List Loc) (ls : Array Slot), k7 h x0 x1 x2 x3 = some (hz, rz) → CE (EX D aC ad h) (Rg ad) s H locs → lv_has ls 5 [(0, .ref (ad x0)), (1, .int x1), (2, .int x2), (3, .long x3)] → W p l e (RM 1 21 0 0) s m args below meth c H locs 0 0 (MQ below (PQ (EX D aC ad hz) (Rg ad) (some (.int rz))) args s 0 0 (Rg ad)) (F0 m 7 ls [])) {h : PH} {x0 : Nat} {x1 : Int32} {x2 : Int32} {x3 : Int64}  {H : Heap} {locs : List Loc} {ls : Array Slot} (hf : fX10_nextInteger_7F k7 h x0 x1 x2 x3 = some (hz, rz)) (hE : CE (EX D aC ad h) (Rg ad) s H locs) (hl : lv_has ls 5 [(0, .ref (ad x0)), (1, .int x1), (2, .int x2), (3, .long x3)]) : W p l e (RM 1 21 0 0) s m args below meth c H locs 0 0 (MQ below (PQ (EX D aC ad hz) (Rg ad) (some (.int rz))) args s 0 0 (Rg ad)) (F0 m 7 ls []) := by
  unfold fX10_nextInteger_7F at hf
  refine lv_aload_n b.1 b.2.1 dX10_nextInteger_7 rfl (lv_at hl 0 rfl) ?_
  obtain ⟨t7, hf⟩ := oC_s hf
  have t7 := of_decide_eq_true t7
  refine gX10_41 (x := (some x0)) b hE rfl t7 dX10_nextInteger_8 ?_
  refine lv_aload_n b.1 b.2.1 dX10_nextInteger_11 rfl (lv_at hl 0 rfl) ?_
  refine gX10_37 (x := (some x0)) b hE rfl t7 dX10_nextInteger_12 ?_
  obtain ⟨a8, ea8, hf⟩ := oN_s hf
  obtain ⟨t9, hf⟩ := oC_s hf
  have t9 := of_decide_eq_true t9
  refine gX10_48 (x := (hR h 1285 x0)) b hE ea8 t9 dX10_nextInteger_15 ?_
  refine lv_icmp_ge (tgt := 74) b.1 b.2.1 dX10_nextInteger_18 (by decide) (fun c10 => ?_) (fun c10 => ?_)
  · have hf := oI_t c10 hf
    exact wfX10_nextInteger_74 b hlk hr zs zk  hf hE (lv_sub hl [0, 1, 2, 3] rfl)
  · have hf := oI_f c10 hf
    refine lv_aload_n b.1 b.2.1 dX10_nextInteger_21 rfl (lv_at hl 0 rfl) ?_
    refine gX10_37 (x := (some x0)) b hE rfl t7 dX10_nextInteger_22 ?_
    refine lv_aload_n b.1 b.2.1 dX10_nextInteger_25 rfl (lv_at hl 0 rfl) ?_
    refine gX10_41 (x := (some x0)) b hE rfl t7 dX10_nextInteger_26 ?_
    obtain ⟨r12, hc11, hf⟩ := oB_s hf
    refine k_stk [.int (hI h 1286 x0)] ea8 ?_
    refine k_callV0 (C := RX0) b zs zk hE (CX0_byteAt l D aC ad zk hc11) mc_X0_byteAt (in2 129 rfl rfl) mi_X0_byteAt ms_X0_byteAt ini_RX0 ok_X0_byteAt (x_recv b hE (ci := 0) rfl (by decide) t9) ⟨Nat.le_of_ble_eq_true rfl, Nat.le_of_ble_eq_true rfl⟩ rfl hl.1 rfl (k_room _ (by exact Nat.le_of_ble_eq_true rfl)) ⟨Nat.le_refl _, Nat.le_refl _⟩ dX10_nextInteger_29 (fun H locs hE => ?_)
    obtain ⟨r14, hc13, hf⟩ := oB_s hf
    refine k_callS0 b zs zk hE (CX10_isDigit l D aC zk hc13) mc_X10_isDigit (in2 147 rfl rfl) mt_X10_isDigit ini_RX10 ok_X10_isDigit ⟨Nat.le_of_ble_eq_true rfl, Nat.le_of_ble_eq_true rfl⟩ rfl hl.1 rfl (k_room _ (by exact Nat.le_of_ble_eq_true rfl)) ⟨Nat.le_refl _, Nat.le_refl _⟩ dX10_nextInteger_32 (fun H locs hE => ?_)
    refine lv_if_eq (tgt := 74) b.1 b.2.1 dX10_nextInteger_35 (by decide) (fun c15 => ?_) (fun c15 => ?_)
    · have hf := oI_t c15 hf
      exact wfX10_nextInteger_74 b hlk hr zs zk  hf hE (lv_sub hl [0, 1, 2, 3] rfl)
    · have hf := oI_f c15 hf
      refine lv_lload_n b.1 b.2.1 dX10_nextInteger_38 rfl (lv_at hl 3 rfl) ?_
      refine k_ldc2 (v := 10) b (in2 154 rfl rfl) dX10_nextInteger_39 ?_
      refine lv_lmul b.1 b.2.1 dX10_nextInteger_42 ?_
      refine lv_aload_n b.1 b.2.1 dX10_nextInteger_43 rfl (lv_at hl 0 rfl) ?_
      refine gX10_37 (x := (some x0)) b hE rfl t7 dX10_nextInteger_44 ?_
      refine lv_aload_n b.1 b.2.1 dX10_nextInteger_47 rfl (lv_at hl 0 rfl) ?_
      refine gX10_41 (x := (some x0)) b hE rfl t7 dX10_nextInteger_48 ?_
      obtain ⟨r17, hc16, hf⟩ := oB_s hf
      refine k_stk [.int (hI h 1286 x0)] ea8 ?_
      refine k_callV0 (C := RX0) b zs zk hE (CX0_byteAt l D aC ad zk hc16) mc_X0_byteAt (in2 129 rfl rfl) mi_X0_byteAt ms_X0_byteAt ini_RX0 ok_X0_byteAt (x_recv b hE (ci := 0) rfl (by decide) t9) ⟨Nat.le_of_ble_eq_true rfl, Nat.le_of_ble_eq_true rfl⟩ rfl hl.1 rfl (k_room _ (by exact Nat.le_of_ble_eq_true rfl)) ⟨Nat.le_refl _, Nat.le_refl _⟩ dX10_nextInteger_51 (fun H locs hE => ?_)
      refine lv_i2l b.1 b.2.1 dX10_nextInteger_54 rfl ?_
      refine lv_ladd b.1 b.2.1 dX10_nextInteger_55 ?_
      refine k_ldc2 (v := 48) b (in2 155 rfl rfl) dX10_nextInteger_56 ?_
      refine lv_lsub b.1 b.2.1 dX10_nextInteger_59 ?_
      obtain ⟨y18, ey18, hf⟩ := oL_s hf
      refine k_nmL ey18 ?_
      refine lv_lstore_n (lv' := [(3, .long y18), (0, .ref (ad x0)), (1, .int x1), (2, .int x2)]) b.1 b.2.1 dX10_nextInteger_60 rfl hl (by decide) rfl (fun ls hl => ?_)
      refine lv_aload_n b.1 b.2.1 dX10_nextInteger_61 rfl (lv_at hl 1 rfl) ?_
      refine lv_dup b.1 b.2.1 dX10_nextInteger_62 rfl ?_
      refine gX10_41 (x := (some x0)) b hE rfl t7 dX10_nextInteger_63 ?_
      refine lv_iconst (v := 1) b.1 b.2.1 dX10_nextInteger_66 (by decide) ?_
      refine lv_iadd b.1 b.2.1 dX10_nextInteger_67 ?_
      obtain ⟨h19, eh19, hf⟩ := oL_s hf
      refine pX10_41 (x := (some x0)) b hE rfl t7 eh19 dX10_nextInteger_68 (fun H locs hE => ?_)
      refine lv_goto (tgt := 7) b.1 b.2.1 dX10_nextInteger_71 (by decide) ?_
      exact H7 h19 x0 x1 x2 y18 _ _ _ hf hE (lv_sub hl [1, 2, 3, 0] rfl)
def fX10_nextInteger_7  : Nat → PH → Nat → Int32 → Int32 → Int64 → Option (PH × Int32)
  | 0 => fun _ _ _ _ _ => none
  | n + 1 => fX10_nextInteger_7F  (fX10_nextInteger_7  n)
set_option maxHeartbeats 4000000 in
theorem wfX10_nextInteger_7 {args : Array Value} (b : Bd p s m c cX10_nextInteger 5 RX10 D aC) (hlk : meth.locks = false) (hr : meth.sig.returnType = some .int) {Z : State → Prop} (zs : Z s) (zk : ZOK Z (Rg ad)) {hz : PH} {rz : Int32} : ∀ n : Nat, ∀ (h : PH) (x0 : Nat) (x1 : Int32) (x2 : Int32) (x3 : Int64), ∀ (H : Heap) (locs : List Loc) (ls : Array Slot), fX10_nextInteger_7  n h x0 x1 x2 x3 = some (hz, rz) → CE (EX D aC ad h) (Rg ad) s H locs → lv_has ls 5 [(0, .ref (ad x0)), (1, .int x1), (2, .int x2), (3, .long x3)] → W p l e (RM 1 21 0 0) s m args below meth c H locs 0 0 (MQ below (PQ (EX D aC ad hz) (Rg ad) (some (.int rz))) args s 0 0 (Rg ad)) (F0 m 7 ls []) := by
  intro n
  induction n with
  | zero =>
    intro h x0 x1 x2 x3 H locs ls hf
    have hf : (none : Option (PH × Int32)) = some _ := hf
    cases hf
  | succ n ih =>
    intro h x0 x1 x2 x3 H locs ls hf hE hl
    exact wfX10_nextInteger_7F b hlk hr zs zk  ih hf hE hl
def fX10_nextInteger_0  (h : PH) (x0 : Nat) (x1 : Int32) : Option (PH × Int32) :=
  oC (decide (hT h x0 = 11)) (oL (hI h 1286 x0) (fun y21 => fX10_nextInteger_7  FU h x0 x1 y21 0))
set_option maxHeartbeats 4000000 in
theorem wfX10_nextInteger_0 {args : Array Value} (b : Bd p s m c cX10_nextInteger 5 RX10 D aC) (hlk : meth.locks = false) (hr : meth.sig.returnType = some .int) {Z : State → Prop} (zs : Z s) (zk : ZOK Z (Rg ad)) {hz : PH} {rz : Int32} {h : PH} {x0 : Nat} {x1 : Int32}  {H : Heap} {locs : List Loc} {ls : Array Slot} (hf : fX10_nextInteger_0 h x0 x1 = some (hz, rz)) (hE : CE (EX D aC ad h) (Rg ad) s H locs) (hl : lv_has ls 5 [(0, .ref (ad x0)), (1, .int x1)]) : W p l e (RM 1 21 0 0) s m args below meth c H locs 0 0 (MQ below (PQ (EX D aC ad hz) (Rg ad) (some (.int rz))) args s 0 0 (Rg ad)) (F0 m 0 ls []) := by
  unfold fX10_nextInteger_0 at hf
  refine lv_aload_n b.1 b.2.1 dX10_nextInteger_0 rfl (lv_at hl 0 rfl) ?_
  obtain ⟨t20, hf⟩ := oC_s hf
  have t20 := of_decide_eq_true t20
  refine gX10_41 (x := (some x0)) b hE rfl t20 dX10_nextInteger_1 ?_
  obtain ⟨y21, ey21, hf⟩ := oL_s hf
  refine k_nmI ey21 ?_
  refine lv_istore_n (lv' := [(2, .int y21), (0, .ref (ad x0)), (1, .int x1)]) b.1 b.2.1 dX10_nextInteger_4 rfl hl (by decide) rfl (fun ls hl => ?_)
  refine lv_lconst (v := 0) b.1 b.2.1 dX10_nextInteger_5 rfl ?_
  refine lv_lstore_n (lv' := [(3, .long 0), (2, .int y21), (0, .ref (ad x0)), (1, .int x1)]) b.1 b.2.1 dX10_nextInteger_6 rfl hl (by decide) rfl (fun ls hl => ?_)
  exact wfX10_nextInteger_7 b hlk hr zs zk  FU h x0 x1 y21 0 _ _ _ hf hE (lv_sub hl [2, 3, 1, 0] rfl)
def fX10_nextInteger (h : PH) (x0 : Nat) (x1 : Int32) : Option (PH × Int32) := fX10_nextInteger_0 h x0 x1
set_option maxHeartbeats 4000000 in
theorem CX10_nextInteger (l : Launch) (D : va_G) (aC : Nat → ClassId) (ad : Nat → Nat) {Z : State → Prop} (zk : ZOK Z (Rg ad)) {h : PH} {x0 : Nat} {x1 : Int32} {hz : PH} {rz : Int32} (hf : fX10_nextInteger h x0 x1 = some (hz, rz)) : CM l D aC Z yX10_nextInteger cX10_nextInteger 5 (some .int) 1 21 0 0 (EX D aC ad h) [.ref (ad x0), .int x1] (EX D aC ad hz) (some (.int rz)) (Rg ad) := by
  refine CM.of rfl ?_
  intro p e s m below meth c b hr hlk hin2 zs hE
  refine k_ent (Nat.le_of_ble_eq_true rfl) (fun ls hl => ?_)
  exact wfX10_nextInteger_0 b hlk hr zs zk hf hE (lv_sub hl [0, 1] rfl)
theorem dX10_signOfTwo_0 : decode cX10_signOfTwo 0 = .ok (.iload_n 0, 1) := by decide +kernel
theorem dX10_signOfTwo_1 : decode cX10_signOfTwo 1 = .ok (.bipush 61, 2) := by decide +kernel
theorem dX10_signOfTwo_3 : decode cX10_signOfTwo 3 = .ok (.if_icmp .ne 13, 3) := by decide +kernel
theorem dX10_signOfTwo_6 : decode cX10_signOfTwo 6 = .ok (.iload_n 1, 1) := by decide +kernel
theorem dX10_signOfTwo_7 : decode cX10_signOfTwo 7 = .ok (.bipush 62, 2) := by decide +kernel
theorem dX10_signOfTwo_9 : decode cX10_signOfTwo 9 = .ok (.if_icmp .ne 7, 3) := by decide +kernel
theorem dX10_signOfTwo_12 : decode cX10_signOfTwo 12 = .ok (.sipush 256, 3) := by decide +kernel
theorem dX10_signOfTwo_15 : decode cX10_signOfTwo 15 = .ok (.ireturn, 1) := by decide +kernel
theorem dX10_signOfTwo_16 : decode cX10_signOfTwo 16 = .ok (.iload_n 1, 1) := by decide +kernel
theorem dX10_signOfTwo_17 : decode cX10_signOfTwo 17 = .ok (.bipush 61, 2) := by decide +kernel
theorem dX10_signOfTwo_19 : decode cX10_signOfTwo 19 = .ok (.if_icmp .eq 7, 3) := by decide +kernel
theorem dX10_signOfTwo_22 : decode cX10_signOfTwo 22 = .ok (.sipush 264, 3) := by decide +kernel
theorem dX10_signOfTwo_25 : decode cX10_signOfTwo 25 = .ok (.ireturn, 1) := by decide +kernel
theorem dX10_signOfTwo_26 : decode cX10_signOfTwo 26 = .ok (.iload_n 0, 1) := by decide +kernel
theorem dX10_signOfTwo_27 : decode cX10_signOfTwo 27 = .ok (.lookupswitch 45 #[(33, 37), (60, 41), (61, 33)], 33) := by decide +kernel
theorem dX10_signOfTwo_60 : decode cX10_signOfTwo 60 = .ok (.sipush 257, 3) := by decide +kernel
theorem dX10_signOfTwo_63 : decode cX10_signOfTwo 63 = .ok (.ireturn, 1) := by decide +kernel
theorem dX10_signOfTwo_64 : decode cX10_signOfTwo 64 = .ok (.sipush 258, 3) := by decide +kernel
theorem dX10_signOfTwo_67 : decode cX10_signOfTwo 67 = .ok (.ireturn, 1) := by decide +kernel
theorem dX10_signOfTwo_68 : decode cX10_signOfTwo 68 = .ok (.sipush 259, 3) := by decide +kernel
theorem dX10_signOfTwo_71 : decode cX10_signOfTwo 71 = .ok (.ireturn, 1) := by decide +kernel
theorem dX10_signOfTwo_72 : decode cX10_signOfTwo 72 = .ok (.sipush 264, 3) := by decide +kernel
theorem dX10_signOfTwo_75 : decode cX10_signOfTwo 75 = .ok (.ireturn, 1) := by decide +kernel
def fX10_signOfTwo_16  (x0 : Int32) (x1 : Int32) : Option (Int32) :=
  if x1 = 61 then (if x0 = 33 then (some (258)) else (if x0 = 60 then (some (259)) else (if x0 = 61 then (some (257)) else (some (264))))) else (some (264))
set_option maxHeartbeats 4000000 in
theorem wfX10_signOfTwo_16 {E : Heap → Prop} {A : Nat → Prop} {args : Array Value} (b : Bd p s m c cX10_signOfTwo 2 RX10 D aC) (hlk : meth.locks = false) (hr : meth.sig.returnType = some .int) {Z : State → Prop} (zs : Z s) (zk : ZOK Z A) {rz : Int32} {x0 : Int32} {x1 : Int32}  {H : Heap} {locs : List Loc} {ls : Array Slot} (hf : fX10_signOfTwo_16 x0 x1 = some rz) (hE : CE E A s H locs) (hl : lv_has ls 2 [(0, .int x0), (1, .int x1)]) : W p l e (RM 0 0 0 0) s m args below meth c H locs 0 0 (MQ below (PQ E A (some (.int rz))) args s 0 0 A) (F0 m 16 ls []) := by
  unfold fX10_signOfTwo_16 at hf
  refine lv_iload_n b.1 b.2.1 dX10_signOfTwo_16 rfl (lv_at hl 1 rfl) ?_
  refine lv_bipush (v := 61) b.1 b.2.1 dX10_signOfTwo_17 (by decide) ?_
  refine lv_icmp_eq (tgt := 26) b.1 b.2.1 dX10_signOfTwo_19 (by decide) (fun c1 => ?_) (fun c1 => ?_)
  · have hf := oI_t c1 hf
    refine lv_iload_n b.1 b.2.1 dX10_signOfTwo_26 rfl (lv_at hl 0 rfl) ?_
    rcases Decidable.em (x0 = 33) with c2 | c2
    · have hf := oI_t c2 hf
      refine lv_lookup (tgt := 64) (off := 37) b.1 b.2.1 dX10_signOfTwo_27 (by decide) (by rw [c2] <;> rfl) (by decide) ?_
      refine lv_sipush (v := 258) b.1 b.2.1 dX10_signOfTwo_64 (by decide) ?_
      cases hf
      exact k_iret b hlk hr hE (Nat.le_refl _) (Nat.le_refl _) dX10_signOfTwo_67
    have hf := oI_f c2 hf
    rcases Decidable.em (x0 = 60) with c3 | c3
    · have hf := oI_t c3 hf
      refine lv_lookup (tgt := 68) (off := 41) b.1 b.2.1 dX10_signOfTwo_27 (by decide) (by rw [c3] <;> rfl) (by decide) ?_
      refine lv_sipush (v := 259) b.1 b.2.1 dX10_signOfTwo_68 (by decide) ?_
      cases hf
      exact k_iret b hlk hr hE (Nat.le_refl _) (Nat.le_refl _) dX10_signOfTwo_71
    have hf := oI_f c3 hf
    rcases Decidable.em (x0 = 61) with c4 | c4
    · have hf := oI_t c4 hf
      refine lv_lookup (tgt := 60) (off := 33) b.1 b.2.1 dX10_signOfTwo_27 (by decide) (by rw [c4] <;> rfl) (by decide) ?_
      refine lv_sipush (v := 257) b.1 b.2.1 dX10_signOfTwo_60 (by decide) ?_
      cases hf
      exact k_iret b hlk hr hE (Nat.le_refl _) (Nat.le_refl _) dX10_signOfTwo_63
    have hf := oI_f c4 hf
    refine lv_lookup (tgt := 72) (off := 45) b.1 b.2.1 dX10_signOfTwo_27 (by decide) (by rw [lv_osw c2 (by decide), lv_osw c3 (by decide), lv_osw c4 (by decide)] <;> rfl) (by decide) ?_
    refine lv_sipush (v := 264) b.1 b.2.1 dX10_signOfTwo_72 (by decide) ?_
    cases hf
    exact k_iret b hlk hr hE (Nat.le_refl _) (Nat.le_refl _) dX10_signOfTwo_75
  · have hf := oI_f c1 hf
    refine lv_sipush (v := 264) b.1 b.2.1 dX10_signOfTwo_22 (by decide) ?_
    cases hf
    exact k_iret b hlk hr hE (Nat.le_refl _) (Nat.le_refl _) dX10_signOfTwo_25
def fX10_signOfTwo_0  (x0 : Int32) (x1 : Int32) : Option (Int32) :=
  if x0 = 61 then (if x1 = 62 then (some (256)) else (fX10_signOfTwo_16  x0 x1)) else (fX10_signOfTwo_16  x0 x1)
set_option maxHeartbeats 4000000 in
theorem wfX10_signOfTwo_0 {E : Heap → Prop} {A : Nat → Prop} {args : Array Value} (b : Bd p s m c cX10_signOfTwo 2 RX10 D aC) (hlk : meth.locks = false) (hr : meth.sig.returnType = some .int) {Z : State → Prop} (zs : Z s) (zk : ZOK Z A) {rz : Int32} {x0 : Int32} {x1 : Int32}  {H : Heap} {locs : List Loc} {ls : Array Slot} (hf : fX10_signOfTwo_0 x0 x1 = some rz) (hE : CE E A s H locs) (hl : lv_has ls 2 [(0, .int x0), (1, .int x1)]) : W p l e (RM 0 0 0 0) s m args below meth c H locs 0 0 (MQ below (PQ E A (some (.int rz))) args s 0 0 A) (F0 m 0 ls []) := by
  unfold fX10_signOfTwo_0 at hf
  refine lv_iload_n b.1 b.2.1 dX10_signOfTwo_0 rfl (lv_at hl 0 rfl) ?_
  refine lv_bipush (v := 61) b.1 b.2.1 dX10_signOfTwo_1 (by decide) ?_
  refine lv_icmp_ne (tgt := 16) b.1 b.2.1 dX10_signOfTwo_3 (by decide) (fun c5 => ?_) (fun c5 => ?_)
  · have hf := oI_f c5 hf
    exact wfX10_signOfTwo_16 b hlk hr zs zk  hf hE (lv_sub hl [0, 1] rfl)
  · have hf := oI_t c5 hf
    refine lv_iload_n b.1 b.2.1 dX10_signOfTwo_6 rfl (lv_at hl 1 rfl) ?_
    refine lv_bipush (v := 62) b.1 b.2.1 dX10_signOfTwo_7 (by decide) ?_
    refine lv_icmp_ne (tgt := 16) b.1 b.2.1 dX10_signOfTwo_9 (by decide) (fun c6 => ?_) (fun c6 => ?_)
    · have hf := oI_f c6 hf
      exact wfX10_signOfTwo_16 b hlk hr zs zk  hf hE (lv_sub hl [0, 1] rfl)
    · have hf := oI_t c6 hf
      refine lv_sipush (v := 256) b.1 b.2.1 dX10_signOfTwo_12 (by decide) ?_
      cases hf
      exact k_iret b hlk hr hE (Nat.le_refl _) (Nat.le_refl _) dX10_signOfTwo_15
def fX10_signOfTwo (x0 : Int32) (x1 : Int32) : Option (Int32) := fX10_signOfTwo_0 x0 x1
set_option maxHeartbeats 4000000 in
theorem CX10_signOfTwo (l : Launch) (D : va_G) (aC : Nat → ClassId) {E : Heap → Prop} {A : Nat → Prop} {Z : State → Prop} (zk : ZOK Z A) {x0 : Int32} {x1 : Int32} {rz : Int32} (hf : fX10_signOfTwo x0 x1 = some rz) : CM l D aC Z yX10_signOfTwo cX10_signOfTwo 2 (some .int) 0 0 0 0 E [.int x0, .int x1] E (some (.int rz)) A := by
  refine CM.of rfl ?_
  intro p e s m below meth c b hr hlk hin2 zs hE
  refine k_ent (Nat.le_of_ble_eq_true rfl) (fun ls hl => ?_)
  exact wfX10_signOfTwo_0 b hlk hr zs zk hf hE (lv_sub hl [0, 1] rfl)
theorem dX10_nextSign_0 : decode cX10_nextSign 0 = .ok (.aload_n 0, 1) := by decide +kernel
theorem dX10_nextSign_1 : decode cX10_nextSign 1 = .ok (.getfield 37, 3) := by decide +kernel
theorem dX10_nextSign_4 : decode cX10_nextSign 4 = .ok (.aload_n 0, 1) := by decide +kernel
theorem dX10_nextSign_5 : decode cX10_nextSign 5 = .ok (.getfield 41, 3) := by decide +kernel
theorem dX10_nextSign_8 : decode cX10_nextSign 8 = .ok (.invokevirtual 69, 3) := by decide +kernel
theorem dX10_nextSign_11 : decode cX10_nextSign 11 = .ok (.istore_n 2, 1) := by decide +kernel
theorem dX10_nextSign_12 : decode cX10_nextSign 12 = .ok (.iload_n 1, 1) := by decide +kernel
theorem dX10_nextSign_13 : decode cX10_nextSign 13 = .ok (.iload_n 2, 1) := by decide +kernel
theorem dX10_nextSign_14 : decode cX10_nextSign 14 = .ok (.invokestatic 95, 3) := by decide +kernel
theorem dX10_nextSign_17 : decode cX10_nextSign 17 = .ok (.istore_n 3, 1) := by decide +kernel
theorem dX10_nextSign_18 : decode cX10_nextSign 18 = .ok (.iload_n 3, 1) := by decide +kernel
theorem dX10_nextSign_19 : decode cX10_nextSign 19 = .ok (.sipush 264, 3) := by decide +kernel
theorem dX10_nextSign_22 : decode cX10_nextSign 22 = .ok (.if_icmp .eq 15, 3) := by decide +kernel
theorem dX10_nextSign_25 : decode cX10_nextSign 25 = .ok (.aload_n 0, 1) := by decide +kernel
theorem dX10_nextSign_26 : decode cX10_nextSign 26 = .ok (.dup, 1) := by decide +kernel
theorem dX10_nextSign_27 : decode cX10_nextSign 27 = .ok (.getfield 41, 3) := by decide +kernel
theorem dX10_nextSign_30 : decode cX10_nextSign 30 = .ok (.iconst 1, 1) := by decide +kernel
theorem dX10_nextSign_31 : decode cX10_nextSign 31 = .ok (.iadd, 1) := by decide +kernel
theorem dX10_nextSign_32 : decode cX10_nextSign 32 = .ok (.putfield 41, 3) := by decide +kernel
theorem dX10_nextSign_35 : decode cX10_nextSign 35 = .ok (.iload_n 3, 1) := by decide +kernel
theorem dX10_nextSign_36 : decode cX10_nextSign 36 = .ok (.ireturn, 1) := by decide +kernel
theorem dX10_nextSign_37 : decode cX10_nextSign 37 = .ok (.iload_n 1, 1) := by decide +kernel
theorem dX10_nextSign_38 : decode cX10_nextSign 38 = .ok (.tableswitch 100 40 60 #[98, 98, 98, 98, 98, 98, 98, 98, 100, 100, 100, 100, 100, 100, 100, 100, 100, 100, 98, 98, 98], 98) := by decide +kernel
theorem dX10_nextSign_136 : decode cX10_nextSign 136 = .ok (.iload_n 1, 1) := by decide +kernel
theorem dX10_nextSign_137 : decode cX10_nextSign 137 = .ok (.ireturn, 1) := by decide +kernel
theorem dX10_nextSign_138 : decode cX10_nextSign 138 = .ok (.sipush 264, 3) := by decide +kernel
theorem dX10_nextSign_141 : decode cX10_nextSign 141 = .ok (.ireturn, 1) := by decide +kernel
def fX10_nextSign_0  (h : PH) (x0 : Nat) (x1 : Int32) : Option (PH × Int32) :=
  oC (decide (hT h x0 = 11)) (oN (hR h 1285 x0) (fun a2 => oC (decide (hT h a2 = 1)) (oB (fX0_byteAt h a2 (hI h 1286 x0)) (fun r5 => oB (fX10_signOfTwo x1 r5) (fun r7 => if r7 = 264 then (if x1 = 40 then (some (h, x1)) else (if x1 = 41 then (some (h, x1)) else (if x1 = 42 then (some (h, x1)) else (if x1 = 43 then (some (h, x1)) else (if x1 = 44 then (some (h, x1)) else (if x1 = 45 then (some (h, x1)) else (if x1 = 46 then (some (h, x1)) else (if x1 = 47 then (some (h, x1)) else (if x1 = 48 then (some (h, 264)) else (if x1 = 49 then (some (h, 264)) else (if x1 = 50 then (some (h, 264)) else (if x1 = 51 then (some (h, 264)) else (if x1 = 52 then (some (h, 264)) else (if x1 = 53 then (some (h, 264)) else (if x1 = 54 then (some (h, 264)) else (if x1 = 55 then (some (h, 264)) else (if x1 = 56 then (some (h, 264)) else (if x1 = 57 then (some (h, 264)) else (if x1 = 58 then (some (h, x1)) else (if x1 = 59 then (some (h, x1)) else (if x1 = 60 then (some (h, x1)) else (some (h, 264))))))))))))))))))))))) else (oL (sI h 1286 x0 ((hI h 1286 x0) + 1)) (fun h30 => some (h30, r7))))))))
set_option maxHeartbeats 4000000 in
theorem wfX10_nextSign_0 {args : Array Value} (b : Bd p s m c cX10_nextSign 4 RX10 D aC) (hlk : meth.locks = false) (hr : meth.sig.returnType = some .int) {Z : State → Prop} (zs : Z s) (zk : ZOK Z (Rg ad)) {hz : PH} {rz : Int32} {h : PH} {x0 : Nat} {x1 : Int32}  {H : Heap} {locs : List Loc} {ls : Array Slot} (hf : fX10_nextSign_0 h x0 x1 = some (hz, rz)) (hE : CE (EX D aC ad h) (Rg ad) s H locs) (hl : lv_has ls 4 [(0, .ref (ad x0)), (1, .int x1)]) : W p l e (RM 1 21 0 0) s m args below meth c H locs 0 0 (MQ below (PQ (EX D aC ad hz) (Rg ad) (some (.int rz))) args s 0 0 (Rg ad)) (F0 m 0 ls []) := by
  unfold fX10_nextSign_0 at hf
  refine lv_aload_n b.1 b.2.1 dX10_nextSign_0 rfl (lv_at hl 0 rfl) ?_
  obtain ⟨t1, hf⟩ := oC_s hf
  have t1 := of_decide_eq_true t1
  refine gX10_37 (x := (some x0)) b hE rfl t1 dX10_nextSign_1 ?_
  refine lv_aload_n b.1 b.2.1 dX10_nextSign_4 rfl (lv_at hl 0 rfl) ?_
  refine gX10_41 (x := (some x0)) b hE rfl t1 dX10_nextSign_5 ?_
  obtain ⟨a2, ea2, hf⟩ := oN_s hf
  obtain ⟨t3, hf⟩ := oC_s hf
  have t3 := of_decide_eq_true t3
  obtain ⟨r5, hc4, hf⟩ := oB_s hf
  refine k_stk [.int (hI h 1286 x0)] ea2 ?_
  refine k_callV0 (C := RX0) b zs zk hE (CX0_byteAt l D aC ad zk hc4) mc_X0_byteAt (in2 129 rfl rfl) mi_X0_byteAt ms_X0_byteAt ini_RX0 ok_X0_byteAt (x_recv b hE (ci := 0) rfl (by decide) t3) ⟨Nat.le_of_ble_eq_true rfl, Nat.le_of_ble_eq_true rfl⟩ rfl hl.1 rfl (k_room _ (by exact Nat.le_of_ble_eq_true rfl)) ⟨Nat.le_refl _, Nat.le_refl _⟩ dX10_nextSign_8 (fun H locs hE => ?_)
  refine lv_istore_n (lv' := [(2, .int r5), (0, .ref (ad x0)), (1, .int x1)]) b.1 b.2.1 dX10_nextSign_11 rfl hl (by decide) rfl (fun ls hl => ?_)
  refine lv_iload_n b.1 b.2.1 dX10_nextSign_12 rfl (lv_at hl 2 rfl) ?_
  refine lv_iload_n b.1 b.2.1 dX10_nextSign_13 rfl (lv_at hl 0 rfl) ?_
  obtain ⟨r7, hc6, hf⟩ := oB_s hf
  refine k_callS0 b zs zk hE (CX10_signOfTwo l D aC zk hc6) mc_X10_signOfTwo (in2 160 rfl rfl) mt_X10_signOfTwo ini_RX10 ok_X10_signOfTwo ⟨Nat.le_of_ble_eq_true rfl, Nat.le_of_ble_eq_true rfl⟩ rfl hl.1 rfl (k_room _ (by exact Nat.le_of_ble_eq_true rfl)) ⟨Nat.le_refl _, Nat.le_refl _⟩ dX10_nextSign_14 (fun H locs hE => ?_)
  refine lv_istore_n (lv' := [(3, .int r7), (2, .int r5), (0, .ref (ad x0)), (1, .int x1)]) b.1 b.2.1 dX10_nextSign_17 rfl hl (by decide) rfl (fun ls hl => ?_)
  have hl := lv_sub (l' := [(3, .int r7), (0, .ref (ad x0)), (1, .int x1)]) hl [0, 2, 3] rfl
  refine lv_iload_n b.1 b.2.1 dX10_nextSign_18 rfl (lv_at hl 0 rfl) ?_
  refine lv_sipush (v := 264) b.1 b.2.1 dX10_nextSign_19 (by decide) ?_
  refine lv_icmp_eq (tgt := 37) b.1 b.2.1 dX10_nextSign_22 (by decide) (fun c8 => ?_) (fun c8 => ?_)
  · have hf := oI_t c8 hf
    refine lv_iload_n b.1 b.2.1 dX10_nextSign_37 rfl (lv_at hl 2 rfl) ?_
    rcases Decidable.em (x1 = 40) with c9 | c9
    · have hf := oI_t c9 hf
      refine lv_tableIn (tgt := 136) b.1 b.2.1 dX10_nextSign_38 (off := 98) (by rw [c9]; decide) (by rw [c9]; decide) (by rw [c9] <;> rfl) (by decide) ?_
      refine lv_iload_n b.1 b.2.1 dX10_nextSign_136 rfl (lv_at hl 2 rfl) ?_
      cases hf
      exact k_iret b hlk hr hE (Nat.le_refl _) (Nat.le_refl _) dX10_nextSign_137
    have hf := oI_f c9 hf
    rcases Decidable.em (x1 = 41) with c10 | c10
    · have hf := oI_t c10 hf
      refine lv_tableIn (tgt := 136) b.1 b.2.1 dX10_nextSign_38 (off := 98) (by rw [c10]; decide) (by rw [c10]; decide) (by rw [c10] <;> rfl) (by decide) ?_
      refine lv_iload_n b.1 b.2.1 dX10_nextSign_136 rfl (lv_at hl 2 rfl) ?_
      cases hf
      exact k_iret b hlk hr hE (Nat.le_refl _) (Nat.le_refl _) dX10_nextSign_137
    have hf := oI_f c10 hf
    rcases Decidable.em (x1 = 42) with c11 | c11
    · have hf := oI_t c11 hf
      refine lv_tableIn (tgt := 136) b.1 b.2.1 dX10_nextSign_38 (off := 98) (by rw [c11]; decide) (by rw [c11]; decide) (by rw [c11] <;> rfl) (by decide) ?_
      refine lv_iload_n b.1 b.2.1 dX10_nextSign_136 rfl (lv_at hl 2 rfl) ?_
      cases hf
      exact k_iret b hlk hr hE (Nat.le_refl _) (Nat.le_refl _) dX10_nextSign_137
    have hf := oI_f c11 hf
    rcases Decidable.em (x1 = 43) with c12 | c12
    · have hf := oI_t c12 hf
      refine lv_tableIn (tgt := 136) b.1 b.2.1 dX10_nextSign_38 (off := 98) (by rw [c12]; decide) (by rw [c12]; decide) (by rw [c12] <;> rfl) (by decide) ?_
      refine lv_iload_n b.1 b.2.1 dX10_nextSign_136 rfl (lv_at hl 2 rfl) ?_
      cases hf
      exact k_iret b hlk hr hE (Nat.le_refl _) (Nat.le_refl _) dX10_nextSign_137
    have hf := oI_f c12 hf
    rcases Decidable.em (x1 = 44) with c13 | c13
    · have hf := oI_t c13 hf
      refine lv_tableIn (tgt := 136) b.1 b.2.1 dX10_nextSign_38 (off := 98) (by rw [c13]; decide) (by rw [c13]; decide) (by rw [c13] <;> rfl) (by decide) ?_
      refine lv_iload_n b.1 b.2.1 dX10_nextSign_136 rfl (lv_at hl 2 rfl) ?_
      cases hf
      exact k_iret b hlk hr hE (Nat.le_refl _) (Nat.le_refl _) dX10_nextSign_137
    have hf := oI_f c13 hf
    rcases Decidable.em (x1 = 45) with c14 | c14
    · have hf := oI_t c14 hf
      refine lv_tableIn (tgt := 136) b.1 b.2.1 dX10_nextSign_38 (off := 98) (by rw [c14]; decide) (by rw [c14]; decide) (by rw [c14] <;> rfl) (by decide) ?_
      refine lv_iload_n b.1 b.2.1 dX10_nextSign_136 rfl (lv_at hl 2 rfl) ?_
      cases hf
      exact k_iret b hlk hr hE (Nat.le_refl _) (Nat.le_refl _) dX10_nextSign_137
    have hf := oI_f c14 hf
    rcases Decidable.em (x1 = 46) with c15 | c15
    · have hf := oI_t c15 hf
      refine lv_tableIn (tgt := 136) b.1 b.2.1 dX10_nextSign_38 (off := 98) (by rw [c15]; decide) (by rw [c15]; decide) (by rw [c15] <;> rfl) (by decide) ?_
      refine lv_iload_n b.1 b.2.1 dX10_nextSign_136 rfl (lv_at hl 2 rfl) ?_
      cases hf
      exact k_iret b hlk hr hE (Nat.le_refl _) (Nat.le_refl _) dX10_nextSign_137
    have hf := oI_f c15 hf
    rcases Decidable.em (x1 = 47) with c16 | c16
    · have hf := oI_t c16 hf
      refine lv_tableIn (tgt := 136) b.1 b.2.1 dX10_nextSign_38 (off := 98) (by rw [c16]; decide) (by rw [c16]; decide) (by rw [c16] <;> rfl) (by decide) ?_
      refine lv_iload_n b.1 b.2.1 dX10_nextSign_136 rfl (lv_at hl 2 rfl) ?_
      cases hf
      exact k_iret b hlk hr hE (Nat.le_refl _) (Nat.le_refl _) dX10_nextSign_137
    have hf := oI_f c16 hf
    rcases Decidable.em (x1 = 48) with c17 | c17
    · have hf := oI_t c17 hf
      refine lv_tableIn (tgt := 138) b.1 b.2.1 dX10_nextSign_38 (off := 100) (by rw [c17]; decide) (by rw [c17]; decide) (by rw [c17] <;> rfl) (by decide) ?_
      refine lv_sipush (v := 264) b.1 b.2.1 dX10_nextSign_138 (by decide) ?_
      cases hf
      exact k_iret b hlk hr hE (Nat.le_refl _) (Nat.le_refl _) dX10_nextSign_141
    have hf := oI_f c17 hf
    rcases Decidable.em (x1 = 49) with c18 | c18
    · have hf := oI_t c18 hf
      refine lv_tableIn (tgt := 138) b.1 b.2.1 dX10_nextSign_38 (off := 100) (by rw [c18]; decide) (by rw [c18]; decide) (by rw [c18] <;> rfl) (by decide) ?_
      refine lv_sipush (v := 264) b.1 b.2.1 dX10_nextSign_138 (by decide) ?_
      cases hf
      exact k_iret b hlk hr hE (Nat.le_refl _) (Nat.le_refl _) dX10_nextSign_141
    have hf := oI_f c18 hf
    rcases Decidable.em (x1 = 50) with c19 | c19
    · have hf := oI_t c19 hf
      refine lv_tableIn (tgt := 138) b.1 b.2.1 dX10_nextSign_38 (off := 100) (by rw [c19]; decide) (by rw [c19]; decide) (by rw [c19] <;> rfl) (by decide) ?_
      refine lv_sipush (v := 264) b.1 b.2.1 dX10_nextSign_138 (by decide) ?_
      cases hf
      exact k_iret b hlk hr hE (Nat.le_refl _) (Nat.le_refl _) dX10_nextSign_141
    have hf := oI_f c19 hf
    rcases Decidable.em (x1 = 51) with c20 | c20
    · have hf := oI_t c20 hf
      refine lv_tableIn (tgt := 138) b.1 b.2.1 dX10_nextSign_38 (off := 100) (by rw [c20]; decide) (by rw [c20]; decide) (by rw [c20] <;> rfl) (by decide) ?_
      refine lv_sipush (v := 264) b.1 b.2.1 dX10_nextSign_138 (by decide) ?_
      cases hf
      exact k_iret b hlk hr hE (Nat.le_refl _) (Nat.le_refl _) dX10_nextSign_141
    have hf := oI_f c20 hf
    rcases Decidable.em (x1 = 52) with c21 | c21
    · have hf := oI_t c21 hf
      refine lv_tableIn (tgt := 138) b.1 b.2.1 dX10_nextSign_38 (off := 100) (by rw [c21]; decide) (by rw [c21]; decide) (by rw [c21] <;> rfl) (by decide) ?_
      refine lv_sipush (v := 264) b.1 b.2.1 dX10_nextSign_138 (by decide) ?_
      cases hf
      exact k_iret b hlk hr hE (Nat.le_refl _) (Nat.le_refl _) dX10_nextSign_141
    have hf := oI_f c21 hf
    rcases Decidable.em (x1 = 53) with c22 | c22
    · have hf := oI_t c22 hf
      refine lv_tableIn (tgt := 138) b.1 b.2.1 dX10_nextSign_38 (off := 100) (by rw [c22]; decide) (by rw [c22]; decide) (by rw [c22] <;> rfl) (by decide) ?_
      refine lv_sipush (v := 264) b.1 b.2.1 dX10_nextSign_138 (by decide) ?_
      cases hf
      exact k_iret b hlk hr hE (Nat.le_refl _) (Nat.le_refl _) dX10_nextSign_141
    have hf := oI_f c22 hf
    rcases Decidable.em (x1 = 54) with c23 | c23
    · have hf := oI_t c23 hf
      refine lv_tableIn (tgt := 138) b.1 b.2.1 dX10_nextSign_38 (off := 100) (by rw [c23]; decide) (by rw [c23]; decide) (by rw [c23] <;> rfl) (by decide) ?_
      refine lv_sipush (v := 264) b.1 b.2.1 dX10_nextSign_138 (by decide) ?_
      cases hf
      exact k_iret b hlk hr hE (Nat.le_refl _) (Nat.le_refl _) dX10_nextSign_141
    have hf := oI_f c23 hf
    rcases Decidable.em (x1 = 55) with c24 | c24
    · have hf := oI_t c24 hf
      refine lv_tableIn (tgt := 138) b.1 b.2.1 dX10_nextSign_38 (off := 100) (by rw [c24]; decide) (by rw [c24]; decide) (by rw [c24] <;> rfl) (by decide) ?_
      refine lv_sipush (v := 264) b.1 b.2.1 dX10_nextSign_138 (by decide) ?_
      cases hf
      exact k_iret b hlk hr hE (Nat.le_refl _) (Nat.le_refl _) dX10_nextSign_141
    have hf := oI_f c24 hf
    rcases Decidable.em (x1 = 56) with c25 | c25
    · have hf := oI_t c25 hf
      refine lv_tableIn (tgt := 138) b.1 b.2.1 dX10_nextSign_38 (off := 100) (by rw [c25]; decide) (by rw [c25]; decide) (by rw [c25] <;> rfl) (by decide) ?_
      refine lv_sipush (v := 264) b.1 b.2.1 dX10_nextSign_138 (by decide) ?_
      cases hf
      exact k_iret b hlk hr hE (Nat.le_refl _) (Nat.le_refl _) dX10_nextSign_141
    have hf := oI_f c25 hf
    rcases Decidable.em (x1 = 57) with c26 | c26
    · have hf := oI_t c26 hf
      refine lv_tableIn (tgt := 138) b.1 b.2.1 dX10_nextSign_38 (off := 100) (by rw [c26]; decide) (by rw [c26]; decide) (by rw [c26] <;> rfl) (by decide) ?_
      refine lv_sipush (v := 264) b.1 b.2.1 dX10_nextSign_138 (by decide) ?_
      cases hf
      exact k_iret b hlk hr hE (Nat.le_refl _) (Nat.le_refl _) dX10_nextSign_141
    have hf := oI_f c26 hf
    rcases Decidable.em (x1 = 58) with c27 | c27
    · have hf := oI_t c27 hf
      refine lv_tableIn (tgt := 136) b.1 b.2.1 dX10_nextSign_38 (off := 98) (by rw [c27]; decide) (by rw [c27]; decide) (by rw [c27] <;> rfl) (by decide) ?_
      refine lv_iload_n b.1 b.2.1 dX10_nextSign_136 rfl (lv_at hl 2 rfl) ?_
      cases hf
      exact k_iret b hlk hr hE (Nat.le_refl _) (Nat.le_refl _) dX10_nextSign_137
    have hf := oI_f c27 hf
    rcases Decidable.em (x1 = 59) with c28 | c28
    · have hf := oI_t c28 hf
      refine lv_tableIn (tgt := 136) b.1 b.2.1 dX10_nextSign_38 (off := 98) (by rw [c28]; decide) (by rw [c28]; decide) (by rw [c28] <;> rfl) (by decide) ?_
      refine lv_iload_n b.1 b.2.1 dX10_nextSign_136 rfl (lv_at hl 2 rfl) ?_
      cases hf
      exact k_iret b hlk hr hE (Nat.le_refl _) (Nat.le_refl _) dX10_nextSign_137
    have hf := oI_f c28 hf
    rcases Decidable.em (x1 = 60) with c29 | c29
    · have hf := oI_t c29 hf
      refine lv_tableIn (tgt := 136) b.1 b.2.1 dX10_nextSign_38 (off := 98) (by rw [c29]; decide) (by rw [c29]; decide) (by rw [c29] <;> rfl) (by decide) ?_
      refine lv_iload_n b.1 b.2.1 dX10_nextSign_136 rfl (lv_at hl 2 rfl) ?_
      cases hf
      exact k_iret b hlk hr hE (Nat.le_refl _) (Nat.le_refl _) dX10_nextSign_137
    have hf := oI_f c29 hf
    have c9 := lv_neT (a := 40) c9 (by decide)
    have c10 := lv_neT (a := 41) c10 (by decide)
    have c11 := lv_neT (a := 42) c11 (by decide)
    have c12 := lv_neT (a := 43) c12 (by decide)
    have c13 := lv_neT (a := 44) c13 (by decide)
    have c14 := lv_neT (a := 45) c14 (by decide)
    have c15 := lv_neT (a := 46) c15 (by decide)
    have c16 := lv_neT (a := 47) c16 (by decide)
    have c17 := lv_neT (a := 48) c17 (by decide)
    have c18 := lv_neT (a := 49) c18 (by decide)
    have c19 := lv_neT (a := 50) c19 (by decide)
    have c20 := lv_neT (a := 51) c20 (by decide)
    have c21 := lv_neT (a := 52) c21 (by decide)
    have c22 := lv_neT (a := 53) c22 (by decide)
    have c23 := lv_neT (a := 54) c23 (by decide)
    have c24 := lv_neT (a := 55) c24 (by decide)
    have c25 := lv_neT (a := 56) c25 (by decide)
    have c26 := lv_neT (a := 57) c26 (by decide)
    have c27 := lv_neT (a := 58) c27 (by decide)
    have c28 := lv_neT (a := 59) c28 (by decide)
    have c29 := lv_neT (a := 60) c29 (by decide)
    refine lv_tableOut (tgt := 138) b.1 b.2.1 dX10_nextSign_38 (by omega) (by decide) ?_
    refine lv_sipush (v := 264) b.1 b.2.1 dX10_nextSign_138 (by decide) ?_
    cases hf
    exact k_iret b hlk hr hE (Nat.le_refl _) (Nat.le_refl _) dX10_nextSign_141
  · have hf := oI_f c8 hf
    refine lv_aload_n b.1 b.2.1 dX10_nextSign_25 rfl (lv_at hl 1 rfl) ?_
    refine lv_dup b.1 b.2.1 dX10_nextSign_26 rfl ?_
    refine gX10_41 (x := (some x0)) b hE rfl t1 dX10_nextSign_27 ?_
    refine lv_iconst (v := 1) b.1 b.2.1 dX10_nextSign_30 (by decide) ?_
    refine lv_iadd b.1 b.2.1 dX10_nextSign_31 ?_
    obtain ⟨h30, eh30, hf⟩ := oL_s hf
    refine pX10_41 (x := (some x0)) b hE rfl t1 eh30 dX10_nextSign_32 (fun H locs hE => ?_)
    refine lv_iload_n b.1 b.2.1 dX10_nextSign_35 rfl (lv_at hl 0 rfl) ?_
    cases hf
    exact k_iret b hlk hr hE (Nat.le_refl _) (Nat.le_refl _) dX10_nextSign_36
def fX10_nextSign (h : PH) (x0 : Nat) (x1 : Int32) : Option (PH × Int32) := fX10_nextSign_0 h x0 x1
set_option maxHeartbeats 4000000 in
theorem CX10_nextSign (l : Launch) (D : va_G) (aC : Nat → ClassId) (ad : Nat → Nat) {Z : State → Prop} (zk : ZOK Z (Rg ad)) {h : PH} {x0 : Nat} {x1 : Int32} {hz : PH} {rz : Int32} (hf : fX10_nextSign h x0 x1 = some (hz, rz)) : CM l D aC Z yX10_nextSign cX10_nextSign 4 (some .int) 1 21 0 0 (EX D aC ad h) [.ref (ad x0), .int x1] (EX D aC ad hz) (some (.int rz)) (Rg ad) := by
  refine CM.of rfl ?_
  intro p e s m below meth c b hr hlk hin2 zs hE
  refine k_ent (Nat.le_of_ble_eq_true rfl) (fun ls hl => ?_)
  exact wfX10_nextSign_0 b hlk hr zs zk hf hE (lv_sub hl [0, 1] rfl)
theorem dX10_next_0 : decode cX10_next 0 = .ok (.aload_n 0, 1) := by decide +kernel
theorem dX10_next_1 : decode cX10_next 1 = .ok (.getfield 37, 3) := by decide +kernel
theorem dX10_next_4 : decode cX10_next 4 = .ok (.aload_n 0, 1) := by decide +kernel
theorem dX10_next_5 : decode cX10_next 5 = .ok (.getfield 41, 3) := by decide +kernel
theorem dX10_next_8 : decode cX10_next 8 = .ok (.invokevirtual 69, 3) := by decide +kernel
theorem dX10_next_11 : decode cX10_next 11 = .ok (.istore_n 2, 1) := by decide +kernel
theorem dX10_next_12 : decode cX10_next 12 = .ok (.iload_n 2, 1) := by decide +kernel
theorem dX10_next_13 : decode cX10_next 13 = .ok (.iconst (-1), 1) := by decide +kernel
theorem dX10_next_14 : decode cX10_next 14 = .ok (.if_icmp .ne 7, 3) := by decide +kernel
theorem dX10_next_17 : decode cX10_next 17 = .ok (.sipush 263, 3) := by decide +kernel
theorem dX10_next_20 : decode cX10_next 20 = .ok (.ireturn, 1) := by decide +kernel
theorem dX10_next_21 : decode cX10_next 21 = .ok (.iload_n 2, 1) := by decide +kernel
theorem dX10_next_22 : decode cX10_next 22 = .ok (.invokestatic 76, 3) := by decide +kernel
theorem dX10_next_25 : decode cX10_next 25 = .ok (.ifCond .eq 9, 3) := by decide +kernel
theorem dX10_next_28 : decode cX10_next 28 = .ok (.aload_n 0, 1) := by decide +kernel
theorem dX10_next_29 : decode cX10_next 29 = .ok (.iload_n 1, 1) := by decide +kernel
theorem dX10_next_30 : decode cX10_next 30 = .ok (.invokevirtual 79, 3) := by decide +kernel
theorem dX10_next_33 : decode cX10_next 33 = .ok (.ireturn, 1) := by decide +kernel
theorem dX10_next_34 : decode cX10_next 34 = .ok (.iload_n 2, 1) := by decide +kernel
theorem dX10_next_35 : decode cX10_next 35 = .ok (.invokestatic 82, 3) := by decide +kernel
theorem dX10_next_38 : decode cX10_next 38 = .ok (.ifCond .eq 9, 3) := by decide +kernel
theorem dX10_next_41 : decode cX10_next 41 = .ok (.aload_n 0, 1) := by decide +kernel
theorem dX10_next_42 : decode cX10_next 42 = .ok (.iload_n 1, 1) := by decide +kernel
theorem dX10_next_43 : decode cX10_next 43 = .ok (.invokevirtual 85, 3) := by decide +kernel
theorem dX10_next_46 : decode cX10_next 46 = .ok (.ireturn, 1) := by decide +kernel
theorem dX10_next_47 : decode cX10_next 47 = .ok (.aload_n 0, 1) := by decide +kernel
theorem dX10_next_48 : decode cX10_next 48 = .ok (.dup, 1) := by decide +kernel
theorem dX10_next_49 : decode cX10_next 49 = .ok (.getfield 41, 3) := by decide +kernel
theorem dX10_next_52 : decode cX10_next 52 = .ok (.iconst 1, 1) := by decide +kernel
theorem dX10_next_53 : decode cX10_next 53 = .ok (.iadd, 1) := by decide +kernel
theorem dX10_next_54 : decode cX10_next 54 = .ok (.putfield 41, 3) := by decide +kernel
theorem dX10_next_57 : decode cX10_next 57 = .ok (.iload_n 2, 1) := by decide +kernel
theorem dX10_next_58 : decode cX10_next 58 = .ok (.bipush 65, 2) := by decide +kernel
theorem dX10_next_60 : decode cX10_next 60 = .ok (.if_icmp .lt 21, 3) := by decide +kernel
theorem dX10_next_63 : decode cX10_next 63 = .ok (.iload_n 2, 1) := by decide +kernel
theorem dX10_next_64 : decode cX10_next 64 = .ok (.bipush 90, 2) := by decide +kernel
theorem dX10_next_66 : decode cX10_next 66 = .ok (.if_icmp .gt 15, 3) := by decide +kernel
theorem dX10_next_69 : decode cX10_next 69 = .ok (.aload_n 0, 1) := by decide +kernel
theorem dX10_next_70 : decode cX10_next 70 = .ok (.getfield 22, 3) := by decide +kernel
theorem dX10_next_73 : decode cX10_next 73 = .ok (.iload_n 1, 1) := by decide +kernel
theorem dX10_next_74 : decode cX10_next 74 = .ok (.iload_n 2, 1) := by decide +kernel
theorem dX10_next_75 : decode cX10_next 75 = .ok (.i2l, 1) := by decide +kernel
theorem dX10_next_76 : decode cX10_next 76 = .ok (.lastore, 1) := by decide +kernel
theorem dX10_next_77 : decode cX10_next 77 = .ok (.sipush 261, 3) := by decide +kernel
theorem dX10_next_80 : decode cX10_next 80 = .ok (.ireturn, 1) := by decide +kernel
theorem dX10_next_81 : decode cX10_next 81 = .ok (.aload_n 0, 1) := by decide +kernel
theorem dX10_next_82 : decode cX10_next 82 = .ok (.iload_n 2, 1) := by decide +kernel
theorem dX10_next_83 : decode cX10_next 83 = .ok (.invokevirtual 88, 3) := by decide +kernel
theorem dX10_next_86 : decode cX10_next 86 = .ok (.ireturn, 1) := by decide +kernel
def fX10_next_81  (h : PH) (x0 : Nat) (x2 : Int32) : Option (PH × Int32) :=
  oC (decide (hT h x0 = 11)) (oB2 (fX10_nextSign h x0 x2) (fun h4 r3 => some (h4, r3)))
set_option maxHeartbeats 4000000 in
theorem wfX10_next_81 {args : Array Value} (b : Bd p s m c cX10_next 3 RX10 D aC) (hlk : meth.locks = false) (hr : meth.sig.returnType = some .int) {Z : State → Prop} (zs : Z s) (zk : ZOK Z (Rg ad)) {hz : PH} {rz : Int32} {h : PH} {x0 : Nat} {x2 : Int32}  {H : Heap} {locs : List Loc} {ls : Array Slot} (hf : fX10_next_81 h x0 x2 = some (hz, rz)) (hE : CE (EX D aC ad h) (Rg ad) s H locs) (hl : lv_has ls 3 [(0, .ref (ad x0)), (2, .int x2)]) : W p l e (RM 2 46 0 0) s m args below meth c H locs 0 0 (MQ below (PQ (EX D aC ad hz) (Rg ad) (some (.int rz))) args s 0 0 (Rg ad)) (F0 m 81 ls []) := by
  unfold fX10_next_81 at hf
  refine lv_aload_n b.1 b.2.1 dX10_next_81 rfl (lv_at hl 0 rfl) ?_
  refine lv_iload_n b.1 b.2.1 dX10_next_82 rfl (lv_at hl 1 rfl) ?_
  obtain ⟨t1, hf⟩ := oC_s hf
  have t1 := of_decide_eq_true t1
  obtain ⟨h4, r3, hc2, hf⟩ := oB2_s hf
  refine k_callV0 (C := RX10) b zs zk hE (CX10_nextSign l D aC ad zk hc2) mc_X10_nextSign (in2 156 rfl rfl) mi_X10_nextSign ms_X10_nextSign ini_RX10 ok_X10_nextSign (x_recv b hE (ci := 10) rfl (by decide) t1) ⟨Nat.le_of_ble_eq_true rfl, Nat.le_of_ble_eq_true rfl⟩ rfl hl.1 rfl (k_room _ (by exact Nat.le_of_ble_eq_true rfl)) ⟨Nat.le_refl _, Nat.le_refl _⟩ dX10_next_83 (fun H locs hE => ?_)
  cases hf
  exact k_iret b hlk hr hE (Nat.le_refl _) (Nat.le_refl _) dX10_next_86
def fX10_next_0  (h : PH) (x0 : Nat) (x1 : Int32) : Option (PH × Int32) :=
  oC (decide (hT h x0 = 11)) (oN (hR h 1285 x0) (fun a6 => oC (decide (hT h a6 = 1)) (oB (fX0_byteAt h a6 (hI h 1286 x0)) (fun r9 => if r9 = (-1) then (some (h, 263)) else (oB (fX10_isSmall r9) (fun r12 => if r12 = 0 then (oB (fX10_isDigit r9) (fun r15 => if r15 = 0 then (oL (sI h 1286 x0 ((hI h 1286 x0) + 1)) (fun h17 => if r9 < 65 then (fX10_next_81  h17 x0 r9) else (if 90 < r9 then (fX10_next_81  h17 x0 r9) else (oN (hR h17 1283 x0) (fun a21 => oC (decide (hT h17 a21 = 102)) (oC (ix x1 (hN h17 a21)) (oL (sB h17 a21 (Int32.toNatClampNeg x1) (Int32.toInt64 r9)) (fun h24 => some (h24, 261))))))))) else (oB2 (fX10_nextInteger h x0 x1) (fun h27 r26 => some (h27, r26))))) else (oB2 (fX10_nextName h x0 x1) (fun h30 r29 => some (h30, r29)))))))))
set_option maxHeartbeats 4000000 in
theorem wfX10_next_0 {args : Array Value} (b : Bd p s m c cX10_next 3 RX10 D aC) (hlk : meth.locks = false) (hr : meth.sig.returnType = some .int) {Z : State → Prop} (zs : Z s) (zk : ZOK Z (Rg ad)) {hz : PH} {rz : Int32} {h : PH} {x0 : Nat} {x1 : Int32}  {H : Heap} {locs : List Loc} {ls : Array Slot} (hf : fX10_next_0 h x0 x1 = some (hz, rz)) (hE : CE (EX D aC ad h) (Rg ad) s H locs) (hl : lv_has ls 3 [(0, .ref (ad x0)), (1, .int x1)]) : W p l e (RM 2 46 0 0) s m args below meth c H locs 0 0 (MQ below (PQ (EX D aC ad hz) (Rg ad) (some (.int rz))) args s 0 0 (Rg ad)) (F0 m 0 ls []) := by
  unfold fX10_next_0 at hf
  refine lv_aload_n b.1 b.2.1 dX10_next_0 rfl (lv_at hl 0 rfl) ?_
  obtain ⟨t5, hf⟩ := oC_s hf
  have t5 := of_decide_eq_true t5
  refine gX10_37 (x := (some x0)) b hE rfl t5 dX10_next_1 ?_
  refine lv_aload_n b.1 b.2.1 dX10_next_4 rfl (lv_at hl 0 rfl) ?_
  refine gX10_41 (x := (some x0)) b hE rfl t5 dX10_next_5 ?_
  obtain ⟨a6, ea6, hf⟩ := oN_s hf
  obtain ⟨t7, hf⟩ := oC_s hf
  have t7 := of_decide_eq_true t7
  obtain ⟨r9, hc8, hf⟩ := oB_s hf
  refine k_stk [.int (hI h 1286 x0)] ea6 ?_
  refine k_callV0 (C := RX0) b zs zk hE (CX0_byteAt l D aC ad zk hc8) mc_X0_byteAt (in2 129 rfl rfl) mi_X0_byteAt ms_X0_byteAt ini_RX0 ok_X0_byteAt (x_recv b hE (ci := 0) rfl (by decide) t7) ⟨Nat.le_of_ble_eq_true rfl, Nat.le_of_ble_eq_true rfl⟩ rfl hl.1 rfl (k_room _ (by exact Nat.le_of_ble_eq_true rfl)) ⟨Nat.le_refl _, Nat.le_refl _⟩ dX10_next_8 (fun H locs hE => ?_)
  refine lv_istore_n (lv' := [(2, .int r9), (0, .ref (ad x0)), (1, .int x1)]) b.1 b.2.1 dX10_next_11 rfl hl (by decide) rfl (fun ls hl => ?_)
  refine lv_iload_n b.1 b.2.1 dX10_next_12 rfl (lv_at hl 0 rfl) ?_
  refine lv_iconst (v := (-1)) b.1 b.2.1 dX10_next_13 (by decide) ?_
  refine lv_icmp_ne (tgt := 21) b.1 b.2.1 dX10_next_14 (by decide) (fun c10 => ?_) (fun c10 => ?_)
  · have hf := oI_f c10 hf
    refine lv_iload_n b.1 b.2.1 dX10_next_21 rfl (lv_at hl 0 rfl) ?_
    obtain ⟨r12, hc11, hf⟩ := oB_s hf
    refine k_callS0 b zs zk hE (CX10_isSmall l D aC zk hc11) mc_X10_isSmall (in2 140 rfl rfl) mt_X10_isSmall ini_RX10 ok_X10_isSmall ⟨Nat.le_of_ble_eq_true rfl, Nat.le_of_ble_eq_true rfl⟩ rfl hl.1 rfl (k_room _ (by exact Nat.le_of_ble_eq_true rfl)) ⟨Nat.le_refl _, Nat.le_refl _⟩ dX10_next_22 (fun H locs hE => ?_)
    refine lv_if_eq (tgt := 34) b.1 b.2.1 dX10_next_25 (by decide) (fun c13 => ?_) (fun c13 => ?_)
    · have hf := oI_t c13 hf
      refine lv_iload_n b.1 b.2.1 dX10_next_34 rfl (lv_at hl 0 rfl) ?_
      obtain ⟨r15, hc14, hf⟩ := oB_s hf
      refine k_callS0 b zs zk hE (CX10_isDigit l D aC zk hc14) mc_X10_isDigit (in2 147 rfl rfl) mt_X10_isDigit ini_RX10 ok_X10_isDigit ⟨Nat.le_of_ble_eq_true rfl, Nat.le_of_ble_eq_true rfl⟩ rfl hl.1 rfl (k_room _ (by exact Nat.le_of_ble_eq_true rfl)) ⟨Nat.le_refl _, Nat.le_refl _⟩ dX10_next_35 (fun H locs hE => ?_)
      refine lv_if_eq (tgt := 47) b.1 b.2.1 dX10_next_38 (by decide) (fun c16 => ?_) (fun c16 => ?_)
      · have hf := oI_t c16 hf
        refine lv_aload_n b.1 b.2.1 dX10_next_47 rfl (lv_at hl 1 rfl) ?_
        refine lv_dup b.1 b.2.1 dX10_next_48 rfl ?_
        refine gX10_41 (x := (some x0)) b hE rfl t5 dX10_next_49 ?_
        refine lv_iconst (v := 1) b.1 b.2.1 dX10_next_52 (by decide) ?_
        refine lv_iadd b.1 b.2.1 dX10_next_53 ?_
        obtain ⟨h17, eh17, hf⟩ := oL_s hf
        refine pX10_41 (x := (some x0)) b hE rfl t5 eh17 dX10_next_54 (fun H locs hE => ?_)
        refine lv_iload_n b.1 b.2.1 dX10_next_57 rfl (lv_at hl 0 rfl) ?_
        refine lv_bipush (v := 65) b.1 b.2.1 dX10_next_58 (by decide) ?_
        refine lv_icmp_lt (tgt := 81) b.1 b.2.1 dX10_next_60 (by decide) (fun c18 => ?_) (fun c18 => ?_)
        · have hf := oI_t c18 hf
          exact wfX10_next_81 b hlk hr zs zk  hf hE (lv_sub hl [1, 0] rfl)
        · have hf := oI_f c18 hf
          refine lv_iload_n b.1 b.2.1 dX10_next_63 rfl (lv_at hl 0 rfl) ?_
          refine lv_bipush (v := 90) b.1 b.2.1 dX10_next_64 (by decide) ?_
          refine lv_icmp_gt (tgt := 81) b.1 b.2.1 dX10_next_66 (by decide) (fun c19 => ?_) (fun c19 => ?_)
          · have hf := oI_t c19 hf
            exact wfX10_next_81 b hlk hr zs zk  hf hE (lv_sub hl [1, 0] rfl)
          · have hf := oI_f c19 hf
            refine lv_aload_n b.1 b.2.1 dX10_next_69 rfl (lv_at hl 1 rfl) ?_
            have t20 := tg_sI eh17 t5
            refine gX10_22 (x := (some x0)) b hE rfl t20 dX10_next_70 ?_
            refine lv_iload_n b.1 b.2.1 dX10_next_73 rfl (lv_at hl 2 rfl) ?_
            refine lv_iload_n b.1 b.2.1 dX10_next_74 rfl (lv_at hl 0 rfl) ?_
            refine lv_i2l b.1 b.2.1 dX10_next_75 rfl ?_
            obtain ⟨a21, ea21, hf⟩ := oN_s hf
            obtain ⟨t22, hf⟩ := oC_s hf
            have t22 := of_decide_eq_true t22
            obtain ⟨g23, hf⟩ := oC_s hf
            obtain ⟨h24, eh24, hf⟩ := oL_s hf
            refine q_last (x := (hR h17 1283 x0)) b hE ea21 t22 g23 eh24 dX10_next_76 (fun H locs hE => ?_)
            refine lv_sipush (v := 261) b.1 b.2.1 dX10_next_77 (by decide) ?_
            cases hf
            exact k_iret b hlk hr hE (Nat.le_refl _) (Nat.le_refl _) dX10_next_80
      · have hf := oI_f c16 hf
        refine lv_aload_n b.1 b.2.1 dX10_next_41 rfl (lv_at hl 1 rfl) ?_
        refine lv_iload_n b.1 b.2.1 dX10_next_42 rfl (lv_at hl 2 rfl) ?_
        obtain ⟨h27, r26, hc25, hf⟩ := oB2_s hf
        refine k_callV0 (C := RX10) b zs zk hE (CX10_nextInteger l D aC ad zk hc25) mc_X10_nextInteger (in2 150 rfl rfl) mi_X10_nextInteger ms_X10_nextInteger ini_RX10 ok_X10_nextInteger (x_recv b hE (ci := 10) rfl (by decide) t5) ⟨Nat.le_of_ble_eq_true rfl, Nat.le_of_ble_eq_true rfl⟩ rfl hl.1 rfl (k_room _ (by exact Nat.le_of_ble_eq_true rfl)) ⟨Nat.le_refl _, Nat.le_refl _⟩ dX10_next_43 (fun H locs hE => ?_)
        cases hf
        exact k_iret b hlk hr hE (Nat.le_refl _) (Nat.le_refl _) dX10_next_46
    · have hf := oI_f c13 hf
      refine lv_aload_n b.1 b.2.1 dX10_next_28 rfl (lv_at hl 1 rfl) ?_
      refine lv_iload_n b.1 b.2.1 dX10_next_29 rfl (lv_at hl 2 rfl) ?_
      obtain ⟨h30, r29, hc28, hf⟩ := oB2_s hf
      refine k_callV0 (C := RX10) b zs zk hE (CX10_nextName l D aC ad zk hc28) mc_X10_nextName (in2 143 rfl rfl) mi_X10_nextName ms_X10_nextName ini_RX10 ok_X10_nextName (x_recv b hE (ci := 10) rfl (by decide) t5) ⟨Nat.le_of_ble_eq_true rfl, Nat.le_of_ble_eq_true rfl⟩ rfl hl.1 rfl (k_room _ (by exact Nat.le_of_ble_eq_true rfl)) ⟨Nat.le_refl _, Nat.le_refl _⟩ dX10_next_30 (fun H locs hE => ?_)
      cases hf
      exact k_iret b hlk hr hE (Nat.le_refl _) (Nat.le_refl _) dX10_next_33
  · have hf := oI_t c10 hf
    refine lv_sipush (v := 263) b.1 b.2.1 dX10_next_17 (by decide) ?_
    cases hf
    exact k_iret b hlk hr hE (Nat.le_refl _) (Nat.le_refl _) dX10_next_20
def fX10_next (h : PH) (x0 : Nat) (x1 : Int32) : Option (PH × Int32) := fX10_next_0 h x0 x1
set_option maxHeartbeats 4000000 in
theorem CX10_next (l : Launch) (D : va_G) (aC : Nat → ClassId) (ad : Nat → Nat) {Z : State → Prop} (zk : ZOK Z (Rg ad)) {h : PH} {x0 : Nat} {x1 : Int32} {hz : PH} {rz : Int32} (hf : fX10_next h x0 x1 = some (hz, rz)) : CM l D aC Z yX10_next cX10_next 3 (some .int) 2 46 0 0 (EX D aC ad h) [.ref (ad x0), .int x1] (EX D aC ad hz) (some (.int rz)) (Rg ad) := by
  refine CM.of rfl ?_
  intro p e s m below meth c b hr hlk hin2 zs hE
  refine k_ent (Nat.le_of_ble_eq_true rfl) (fun ls hl => ?_)
  exact wfX10_next_0 b hlk hr zs zk hf hE (lv_sub hl [0, 1] rfl)
end
