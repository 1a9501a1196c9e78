section
variable {p : Program} {l : Launch} {e : Env} {s : State} {m : MethodId} {below : List Frame} {meth : Method} {c : Code} {D : va_G} {aC : Nat → ClassId} {ad : Nat → Nat}
theorem dX12_nameOut_0 : decode cX12_nameOut 0 = .ok (.iconst 0, 1) := by decide +kernel
theorem dX12_nameOut_1 : decode cX12_nameOut 1 = .ok (.istore_n 3, 1) := by decide +kernel
theorem dX12_nameOut_2 : decode cX12_nameOut 2 = .ok (.lload_n 1, 1) := by decide +kernel
theorem dX12_nameOut_3 : decode cX12_nameOut 3 = .ok (.lstore 4, 2) := by decide +kernel
theorem dX12_nameOut_5 : decode cX12_nameOut 5 = .ok (.lload 4, 2) := by decide +kernel
theorem dX12_nameOut_7 : decode cX12_nameOut 7 = .ok (.lconst 0, 1) := by decide +kernel
theorem dX12_nameOut_8 : decode cX12_nameOut 8 = .ok (.lcmp, 1) := by decide +kernel
theorem dX12_nameOut_9 : decode cX12_nameOut 9 = .ok (.ifCond .le 57, 3) := by decide +kernel
theorem dX12_nameOut_12 : decode cX12_nameOut 12 = .ok (.lload 4, 2) := by decide +kernel
theorem dX12_nameOut_14 : decode cX12_nameOut 14 = .ok (.ldc2_w 266, 3) := by decide +kernel
theorem dX12_nameOut_17 : decode cX12_nameOut 17 = .ok (.lrem, 1) := by decide +kernel
theorem dX12_nameOut_18 : decode cX12_nameOut 18 = .ok (.l2i, 1) := by decide +kernel
theorem dX12_nameOut_19 : decode cX12_nameOut 19 = .ok (.istore 6, 2) := by decide +kernel
theorem dX12_nameOut_21 : decode cX12_nameOut 21 = .ok (.aload_n 0, 1) := by decide +kernel
theorem dX12_nameOut_22 : decode cX12_nameOut 22 = .ok (.getfield 249, 3) := by decide +kernel
theorem dX12_nameOut_25 : decode cX12_nameOut 25 = .ok (.iload_n 3, 1) := by decide +kernel
theorem dX12_nameOut_26 : decode cX12_nameOut 26 = .ok (.iload 6, 2) := by decide +kernel
theorem dX12_nameOut_28 : decode cX12_nameOut 28 = .ok (.bipush 26, 2) := by decide +kernel
theorem dX12_nameOut_30 : decode cX12_nameOut 30 = .ok (.if_icmp .le 14, 3) := by decide +kernel
theorem dX12_nameOut_33 : decode cX12_nameOut 33 = .ok (.bipush 48, 2) := by decide +kernel
theorem dX12_nameOut_35 : decode cX12_nameOut 35 = .ok (.iload 6, 2) := by decide +kernel
theorem dX12_nameOut_37 : decode cX12_nameOut 37 = .ok (.iadd, 1) := by decide +kernel
theorem dX12_nameOut_38 : decode cX12_nameOut 38 = .ok (.bipush 27, 2) := by decide +kernel
theorem dX12_nameOut_40 : decode cX12_nameOut 40 = .ok (.isub, 1) := by decide +kernel
theorem dX12_nameOut_41 : decode cX12_nameOut 41 = .ok (.goto 10, 3) := by decide +kernel
theorem dX12_nameOut_44 : decode cX12_nameOut 44 = .ok (.bipush 97, 2) := by decide +kernel
theorem dX12_nameOut_46 : decode cX12_nameOut 46 = .ok (.iload 6, 2) := by decide +kernel
theorem dX12_nameOut_48 : decode cX12_nameOut 48 = .ok (.iadd, 1) := by decide +kernel
theorem dX12_nameOut_49 : decode cX12_nameOut 49 = .ok (.iconst 1, 1) := by decide +kernel
theorem dX12_nameOut_50 : decode cX12_nameOut 50 = .ok (.isub, 1) := by decide +kernel
theorem dX12_nameOut_51 : decode cX12_nameOut 51 = .ok (.iastore, 1) := by decide +kernel
theorem dX12_nameOut_52 : decode cX12_nameOut 52 = .ok (.iinc 3 1, 3) := by decide +kernel
theorem dX12_nameOut_55 : decode cX12_nameOut 55 = .ok (.lload 4, 2) := by decide +kernel
theorem dX12_nameOut_57 : decode cX12_nameOut 57 = .ok (.ldc2_w 266, 3) := by decide +kernel
theorem dX12_nameOut_60 : decode cX12_nameOut 60 = .ok (.ldiv, 1) := by decide +kernel
theorem dX12_nameOut_61 : decode cX12_nameOut 61 = .ok (.lstore 4, 2) := by decide +kernel
theorem dX12_nameOut_63 : decode cX12_nameOut 63 = .ok (.goto (-58), 3) := by decide +kernel
theorem dX12_nameOut_66 : decode cX12_nameOut 66 = .ok (.iload_n 3, 1) := by decide +kernel
theorem dX12_nameOut_67 : decode cX12_nameOut 67 = .ok (.iconst 1, 1) := by decide +kernel
theorem dX12_nameOut_68 : decode cX12_nameOut 68 = .ok (.isub, 1) := by decide +kernel
theorem dX12_nameOut_69 : decode cX12_nameOut 69 = .ok (.istore 4, 2) := by decide +kernel
theorem dX12_nameOut_71 : decode cX12_nameOut 71 = .ok (.iload 4, 2) := by decide +kernel
theorem dX12_nameOut_73 : decode cX12_nameOut 73 = .ok (.ifCond .lt 20, 3) := by decide +kernel
theorem dX12_nameOut_76 : decode cX12_nameOut 76 = .ok (.aload_n 0, 1) := by decide +kernel
theorem dX12_nameOut_77 : decode cX12_nameOut 77 = .ok (.aload_n 0, 1) := by decide +kernel
theorem dX12_nameOut_78 : decode cX12_nameOut 78 = .ok (.getfield 249, 3) := by decide +kernel
theorem dX12_nameOut_81 : decode cX12_nameOut 81 = .ok (.iload 4, 2) := by decide +kernel
theorem dX12_nameOut_83 : decode cX12_nameOut 83 = .ok (.iaload, 1) := by decide +kernel
theorem dX12_nameOut_84 : decode cX12_nameOut 84 = .ok (.invokevirtual 570, 3) := by decide +kernel
theorem dX12_nameOut_87 : decode cX12_nameOut 87 = .ok (.iinc 4 (-1), 3) := by decide +kernel
theorem dX12_nameOut_90 : decode cX12_nameOut 90 = .ok (.goto (-19), 3) := by decide +kernel
theorem dX12_nameOut_93 : decode cX12_nameOut 93 = .ok (.return_, 1) := by decide +kernel
def fX12_nameOut_71F (k71 : MS → Int32 → Option (MS)) (h : MS) (x4 : Int32) : Option (MS) :=
  if x4 < 0 then (some (h)) else (oC (ix x4 (mlen 115)) (oB (fX12_byteOut h (mA h 115 (Int32.toNatClampNeg x4))) (fun h4 => oL (x4 + (-1)) (fun y5 => k71 h4 y5))))
set_option maxHeartbeats 4000000 in
theorem wfX12_nameOut_71F {args : Array Value} (b : Bd p s m c cX12_nameOut 7 RX12 D aC) (hlk : meth.locks = false) (hr : meth.sig.returnType = none) {Z : State → Prop} (zs : Z s) (zk : ZOK Z (Rg ad)) {hz : MS} {k71 : MS → Int32 → Option (MS)} (H71 : ∀ (h : MS) (x4 : Int32), ∀ (H : Heap) (locs : List Loc) (ls : Array Slot), k71 h x4 = some hz → CE (EM D aC ad h) (Rg ad) s H locs → lv_has ls 7 [(0, .ref (ad 116)), (4, .int x4)] → W p l e (RM 1 21 0 0) s m args below meth c H locs 0 0 (MQ below (PQ (EM D aC ad hz) (Rg ad) none) args s 0 0 (Rg ad)) (F0 m 71 ls [])) {h : MS} {x4 : Int32}  {H : Heap} {locs : List Loc} {ls : Array Slot} (hf : fX12_nameOut_71F k71 h x4 = some hz) (hE : CE (EM D aC ad h) (Rg ad) s H locs) (hl : lv_has ls 7 [(0, .ref (ad 116)), (4, .int x4)]) : W p l e (RM 1 21 0 0) s m args below meth c H locs 0 0 (MQ below (PQ (EM D aC ad hz) (Rg ad) none) args s 0 0 (Rg ad)) (F0 m 71 ls []) := by
  unfold fX12_nameOut_71F at hf
  refine lv_iload b.1 b.2.1 dX12_nameOut_71 (lv_at hl 1 rfl) ?_
  refine lv_if_lt (tgt := 93) b.1 b.2.1 dX12_nameOut_73 (by decide) (fun c1 => ?_) (fun c1 => ?_)
  · have hf := oI_t c1 hf
    cases hf
    exact k_vret b hlk hr hE (Nat.le_refl _) (Nat.le_refl _) dX12_nameOut_93
  · have hf := oI_f c1 hf
    refine lv_aload_n b.1 b.2.1 dX12_nameOut_76 rfl (lv_at hl 0 rfl) ?_
    refine lv_aload_n b.1 b.2.1 dX12_nameOut_77 rfl (lv_at hl 0 rfl) ?_
    refine gM_249 b hE dX12_nameOut_78 ?_
    refine lv_iload b.1 b.2.1 dX12_nameOut_81 (lv_at hl 1 rfl) ?_
    obtain ⟨g2, hf⟩ := oC_s hf
    refine m_iald b hE rfl rfl g2 dX12_nameOut_83 ?_
    obtain ⟨h4, hc3, hf⟩ := oB_s hf
    refine k_callV0 (C := RX12) b zs zk hE (CX12_byteOut l D aC ad zk hc3) mc_X12_byteOut (in8 109 rfl rfl) mi_X12_byteOut ms_X12_byteOut ini_RX12 ok_X12_byteOut (m_recv b hE) ⟨Nat.le_of_ble_eq_true rfl, Nat.le_of_ble_eq_true rfl⟩ rfl hl.1 rfl (k_room _ (by exact Nat.le_of_ble_eq_true rfl)) ⟨Nat.le_refl _, Nat.le_refl _⟩ dX12_nameOut_84 (fun H locs hE => ?_)
    obtain ⟨y5, ey5, hf⟩ := oL_s hf
    refine lv_iinc (v := y5) (lv' := [(4, .int y5), (0, .ref (ad 116))]) b.1 b.2.1 dX12_nameOut_87 hl (k := 1) rfl (by rw [ey5]; rfl) (by decide) rfl (fun ls hl => ?_)
    refine lv_goto (tgt := 71) b.1 b.2.1 dX12_nameOut_90 (by decide) ?_
    exact H71 h4 y5 _ _ _ hf hE (lv_sub hl [1, 0] rfl)
def fX12_nameOut_71  : Nat → MS → Int32 → Option (MS)
  | 0 => fun _ _ => none
  | n + 1 => fX12_nameOut_71F  (fX12_nameOut_71  n)
set_option maxHeartbeats 4000000 in
theorem wfX12_nameOut_71 {args : Array Value} (b : Bd p s m c cX12_nameOut 7 RX12 D aC) (hlk : meth.locks = false) (hr : meth.sig.returnType = none) {Z : State → Prop} (zs : Z s) (zk : ZOK Z (Rg ad)) {hz : MS} : ∀ n : Nat, ∀ (h : MS) (x4 : Int32), ∀ (H : Heap) (locs : List Loc) (ls : Array Slot), fX12_nameOut_71  n h x4 = some hz → CE (EM D aC ad h) (Rg ad) s H locs → lv_has ls 7 [(0, .ref (ad 116)), (4, .int x4)] → W p l e (RM 1 21 0 0) s m args below meth c H locs 0 0 (MQ below (PQ (EM D aC ad hz) (Rg ad) none) args s 0 0 (Rg ad)) (F0 m 71 ls []) := by
  intro n
  induction n with
  | zero =>
    intro h x4 H locs ls hf
    have hf : (none : Option (MS)) = some _ := hf
    cases hf
  | succ n ih =>
    intro h x4 H locs ls hf hE hl
    exact wfX12_nameOut_71F b hlk hr zs zk  ih hf hE hl
def fX12_nameOut_51 (k5 : MS → Int32 → Int64 → Option (MS)) (h : MS) (x3 : Int32) (x4 : Int64) (s0 : Int32) (s1 : Int32) : Option (MS) :=
  oC (ix s1 (mlen 115)) (oL (mSA h 115 (Int32.toNatClampNeg s1) s0) (fun h7 => oL (x3 + 1) (fun y8 => oL (x4 / 37) (fun y9 => k5 h7 y8 y9))))
set_option maxHeartbeats 4000000 in
theorem wfX12_nameOut_51 {args : Array Value} (b : Bd p s m c cX12_nameOut 7 RX12 D aC) (hlk : meth.locks = false) (hr : meth.sig.returnType = none) {Z : State → Prop} (zs : Z s) (zk : ZOK Z (Rg ad)) {hz : MS} {k5 : MS → Int32 → Int64 → Option (MS)} (H5 : ∀ (h : MS) (x3 : Int32) (x4 : Int64), ∀ (H : Heap) (locs : List Loc) (ls : Array Slot), k5 h x3 x4 = some hz → CE (EM D aC ad h) (Rg ad) s H locs → lv_has ls 7 [(0, .ref (ad 116)), (3, .int x3), (4, .long x4)] → W p l e (RM 1 21 0 0) s m args below meth c H locs 0 0 (MQ below (PQ (EM D aC ad hz) (Rg ad) none) args s 0 0 (Rg ad)) (F0 m 5 ls [])) {h : MS} {x3 : Int32} {x4 : Int64} {s0 : Int32} {s1 : Int32}  {H : Heap} {locs : List Loc} {ls : Array Slot} (hf : fX12_nameOut_51 k5 h x3 x4 s0 s1 = some hz) (hE : CE (EM D aC ad h) (Rg ad) s H locs) (hl : lv_has ls 7 [(0, .ref (ad 116)), (3, .int x3), (4, .long x4)]) : W p l e (RM 1 21 0 0) s m args below meth c H locs 0 0 (MQ below (PQ (EM D aC ad hz) (Rg ad) none) args s 0 0 (Rg ad)) (F0 m 51 ls [.int s0, .int s1, .ref (ad 115)]) := by
  unfold fX12_nameOut_51 at hf
  obtain ⟨g6, hf⟩ := oC_s hf
  obtain ⟨h7, eh7, hf⟩ := oL_s hf
  refine n_iast b hE rfl rfl g6 eh7 dX12_nameOut_51 (fun H locs hE => ?_)
  obtain ⟨y8, ey8, hf⟩ := oL_s hf
  refine lv_iinc (v := y8) (lv' := [(3, .int y8), (0, .ref (ad 116)), (4, .long x4)]) b.1 b.2.1 dX12_nameOut_52 hl (k := 1) rfl (by rw [ey8]; rfl) (by decide) rfl (fun ls hl => ?_)
  refine lv_lload b.1 b.2.1 dX12_nameOut_55 (lv_at hl 2 rfl) ?_
  refine k_ldc2 (v := 37) b (in5 201 rfl rfl) dX12_nameOut_57 ?_
  refine lv_ldiv b.1 b.2.1 dX12_nameOut_60 (by decide) ?_
  obtain ⟨y9, ey9, hf⟩ := oL_s hf
  refine k_nmL ey9 ?_
  refine lv_lstore (lv' := [(4, .long y9), (3, .int y8), (0, .ref (ad 116))]) b.1 b.2.1 dX12_nameOut_61 hl (by decide) rfl (fun ls hl => ?_)
  refine lv_goto (tgt := 5) b.1 b.2.1 dX12_nameOut_63 (by decide) ?_
  exact H5 h7 y8 y9 _ _ _ hf hE (lv_sub hl [2, 1, 0] rfl)
def fX12_nameOut_5F (k5 : MS → Int32 → Int64 → Option (MS)) (h : MS) (x3 : Int32) (x4 : Int64) : Option (MS) :=
  if (lg_cmp x4 0) ≤ 0 then (oL (x3 - 1) (fun y11 => fX12_nameOut_71  FU h y11)) else (oL (Int64.toInt32 (x4 - x4 / 37 * 37)) (fun y12 => if y12 ≤ 26 then (fX12_nameOut_51 k5 h x3 x4 ((97 + y12) - 1) x3) else (fX12_nameOut_51 k5 h x3 x4 ((48 + y12) - 27) x3)))
set_option maxHeartbeats 4000000 in
theorem wfX12_nameOut_5F {args : Array Value} (b : Bd p s m c cX12_nameOut 7 RX12 D aC) (hlk : meth.locks = false) (hr : meth.sig.returnType = none) {Z : State → Prop} (zs : Z s) (zk : ZOK Z (Rg ad)) {hz : MS} {k5 : MS → Int32 → Int64 → Option (MS)} (H5 : ∀ (h : MS) (x3 : Int32) (x4 : Int64), ∀ (H : Heap) (locs : List Loc) (ls : Array Slot), k5 h x3 x4 = some hz → CE (EM D aC ad h) (Rg ad) s H locs → lv_has ls 7 [(0, .ref (ad 116)), (3, .int x3), (4, .long x4)] → W p l e (RM 1 21 0 0) s m args below meth c H locs 0 0 (MQ below (PQ (EM D aC ad hz) (Rg ad) none) args s 0 0 (Rg ad)) (F0 m 5 ls [])) {h : MS} {x3 : Int32} {x4 : Int64}  {H : Heap} {locs : List Loc} {ls : Array Slot} (hf : fX12_nameOut_5F k5 h x3 x4 = some hz) (hE : CE (EM D aC ad h) (Rg ad) s H locs) (hl : lv_has ls 7 [(0, .ref (ad 116)), (3, .int x3), (4, .long x4)]) : W p l e (RM 1 21 0 0) s m args below meth c H locs 0 0 (MQ below (PQ (EM D aC ad hz) (Rg ad) none) args s 0 0 (Rg ad)) (F0 m 5 ls []) := by
  unfold fX12_nameOut_5F at hf
  refine lv_lload b.1 b.2.1 dX12_nameOut_5 (lv_at hl 2 rfl) ?_
  refine lv_lconst (v := 0) b.1 b.2.1 dX12_nameOut_7 rfl ?_
  refine W.lcmp b.1 b.2.1 dX12_nameOut_8 ?_
  refine lv_if_le (tgt := 66) b.1 b.2.1 dX12_nameOut_9 (by decide) (fun c10 => ?_) (fun c10 => ?_)
  · have hf := oI_t c10 hf
    refine lv_iload_n b.1 b.2.1 dX12_nameOut_66 rfl (lv_at hl 1 rfl) ?_
    refine lv_iconst (v := 1) b.1 b.2.1 dX12_nameOut_67 (by decide) ?_
    refine lv_isub b.1 b.2.1 dX12_nameOut_68 ?_
    obtain ⟨y11, ey11, hf⟩ := oL_s hf
    refine k_nmI ey11 ?_
    refine lv_istore (lv' := [(4, .int y11), (0, .ref (ad 116)), (3, .int x3)]) b.1 b.2.1 dX12_nameOut_69 hl (by decide) rfl (fun ls hl => ?_)
    have hl := lv_sub (l' := [(4, .int y11), (0, .ref (ad 116))]) hl [0, 1] rfl
    exact wfX12_nameOut_71 b hlk hr zs zk  FU h y11 _ _ _ hf hE (lv_sub hl [1, 0] rfl)
  · have hf := oI_f c10 hf
    refine lv_lload b.1 b.2.1 dX12_nameOut_12 (lv_at hl 2 rfl) ?_
    refine k_ldc2 (v := 37) b (in5 201 rfl rfl) dX12_nameOut_14 ?_
    refine lv_lrem b.1 b.2.1 dX12_nameOut_17 (by decide) ?_
    refine lv_l2i b.1 b.2.1 dX12_nameOut_18 rfl ?_
    obtain ⟨y12, ey12, hf⟩ := oL_s hf
    refine k_nmI ey12 ?_
    refine lv_istore (lv' := [(6, .int y12), (0, .ref (ad 116)), (3, .int x3), (4, .long x4)]) b.1 b.2.1 dX12_nameOut_19 hl (by decide) rfl (fun ls hl => ?_)
    refine lv_aload_n b.1 b.2.1 dX12_nameOut_21 rfl (lv_at hl 1 rfl) ?_
    refine gM_249 b hE dX12_nameOut_22 ?_
    refine lv_iload_n b.1 b.2.1 dX12_nameOut_25 rfl (lv_at hl 2 rfl) ?_
    refine lv_iload b.1 b.2.1 dX12_nameOut_26 (lv_at hl 0 rfl) ?_
    refine lv_bipush (v := 26) b.1 b.2.1 dX12_nameOut_28 (by decide) ?_
    refine lv_icmp_le (tgt := 44) b.1 b.2.1 dX12_nameOut_30 (by decide) (fun c13 => ?_) (fun c13 => ?_)
    · have hf := oI_t c13 hf
      refine lv_bipush (v := 97) b.1 b.2.1 dX12_nameOut_44 (by decide) ?_
      refine lv_iload b.1 b.2.1 dX12_nameOut_46 (lv_at hl 0 rfl) ?_
      refine lv_iadd b.1 b.2.1 dX12_nameOut_48 ?_
      refine lv_iconst (v := 1) b.1 b.2.1 dX12_nameOut_49 (by decide) ?_
      refine lv_isub b.1 b.2.1 dX12_nameOut_50 ?_
      exact wfX12_nameOut_51 b hlk hr zs zk H5 hf hE (lv_sub hl [1, 2, 3] rfl)
    · have hf := oI_f c13 hf
      refine lv_bipush (v := 48) b.1 b.2.1 dX12_nameOut_33 (by decide) ?_
      refine lv_iload b.1 b.2.1 dX12_nameOut_35 (lv_at hl 0 rfl) ?_
      refine lv_iadd b.1 b.2.1 dX12_nameOut_37 ?_
      refine lv_bipush (v := 27) b.1 b.2.1 dX12_nameOut_38 (by decide) ?_
      refine lv_isub b.1 b.2.1 dX12_nameOut_40 ?_
      refine lv_goto (tgt := 51) b.1 b.2.1 dX12_nameOut_41 (by decide) ?_
      exact wfX12_nameOut_51 b hlk hr zs zk H5 hf hE (lv_sub hl [1, 2, 3] rfl)
def fX12_nameOut_5  : Nat → MS → Int32 → Int64 → Option (MS)
  | 0 => fun _ _ _ => none
  | n + 1 => fX12_nameOut_5F  (fX12_nameOut_5  n)
set_option maxHeartbeats 4000000 in
theorem wfX12_nameOut_5 {args : Array Value} (b : Bd p s m c cX12_nameOut 7 RX12 D aC) (hlk : meth.locks = false) (hr : meth.sig.returnType = none) {Z : State → Prop} (zs : Z s) (zk : ZOK Z (Rg ad)) {hz : MS} : ∀ n : Nat, ∀ (h : MS) (x3 : Int32) (x4 : Int64), ∀ (H : Heap) (locs : List Loc) (ls : Array Slot), fX12_nameOut_5  n h x3 x4 = some hz → CE (EM D aC ad h) (Rg ad) s H locs → lv_has ls 7 [(0, .ref (ad 116)), (3, .int x3), (4, .long x4)] → W p l e (RM 1 21 0 0) s m args below meth c H locs 0 0 (MQ below (PQ (EM D aC ad hz) (Rg ad) none) args s 0 0 (Rg ad)) (F0 m 5 ls []) := by
  intro n
  induction n with
  | zero =>
    intro h x3 x4 H locs ls hf
    have hf : (none : Option (MS)) = some _ := hf
    cases hf
  | succ n ih =>
    intro h x3 x4 H locs ls hf hE hl
    exact wfX12_nameOut_5F b hlk hr zs zk  ih hf hE hl
def fX12_nameOut_0  (h : MS) (x1 : Int64) : Option (MS) :=
  fX12_nameOut_5  FU h 0 x1
set_option maxHeartbeats 4000000 in
theorem wfX12_nameOut_0 {args : Array Value} (b : Bd p s m c cX12_nameOut 7 RX12 D aC) (hlk : meth.locks = false) (hr : meth.sig.returnType = none) {Z : State → Prop} (zs : Z s) (zk : ZOK Z (Rg ad)) {hz : MS} {h : MS} {x1 : Int64}  {H : Heap} {locs : List Loc} {ls : Array Slot} (hf : fX12_nameOut_0 h x1 = some hz) (hE : CE (EM D aC ad h) (Rg ad) s H locs) (hl : lv_has ls 7 [(0, .ref (ad 116)), (1, .long x1)]) : W p l e (RM 1 21 0 0) s m args below meth c H locs 0 0 (MQ below (PQ (EM D aC ad hz) (Rg ad) none) args s 0 0 (Rg ad)) (F0 m 0 ls []) := by
  unfold fX12_nameOut_0 at hf
  refine lv_iconst (v := 0) b.1 b.2.1 dX12_nameOut_0 (by decide) ?_
  refine lv_istore_n (lv' := [(3, .int 0), (0, .ref (ad 116)), (1, .long x1)]) b.1 b.2.1 dX12_nameOut_1 rfl hl (by decide) rfl (fun ls hl => ?_)
  refine lv_lload_n b.1 b.2.1 dX12_nameOut_2 rfl (lv_at hl 2 rfl) ?_
  refine lv_lstore (lv' := [(4, .long x1), (3, .int 0), (0, .ref (ad 116)), (1, .long x1)]) b.1 b.2.1 dX12_nameOut_3 hl (by decide) rfl (fun ls hl => ?_)
  have hl := lv_sub (l' := [(4, .long x1), (3, .int 0), (0, .ref (ad 116))]) hl [0, 1, 2] rfl
  exact wfX12_nameOut_5 b hlk hr zs zk  FU h 0 x1 _ _ _ hf hE (lv_sub hl [2, 1, 0] rfl)
def fX12_nameOut (h : MS) (x1 : Int64) : Option (MS) := fX12_nameOut_0 h x1
set_option maxHeartbeats 4000000 in
theorem CX12_nameOut (l : Launch) (D : va_G) (aC : Nat → ClassId) (ad : Nat → Nat) {Z : State → Prop} (zk : ZOK Z (Rg ad)) {h : MS} {x1 : Int64} {hz : MS} (hf : fX12_nameOut h x1 = some hz) : CM l D aC Z yX12_nameOut cX12_nameOut 7 (none) 1 21 0 0 (EM D aC ad h) [.ref (ad 116), .long x1] (EM D aC ad hz) none (Rg ad) := by
  refine CM.of rfl ?_
  intro p e s m below meth c b hr hlk hin2 zs hE
  refine k_ent (Nat.le_of_ble_eq_true rfl) (fun ls hl => ?_)
  exact wfX12_nameOut_0 b hlk hr zs zk hf hE (lv_sub hl [0, 1] rfl)
theorem dX12_numberOut_0 : decode cX12_numberOut 0 = .ok (.lload_n 1, 1) := by decide +kernel
theorem dX12_numberOut_1 : decode cX12_numberOut 1 = .ok (.lconst 0, 1) := by decide +kernel
theorem dX12_numberOut_2 : decode cX12_numberOut 2 = .ok (.lcmp, 1) := by decide +kernel
theorem dX12_numberOut_3 : decode cX12_numberOut 3 = .ok (.ifCond .ge 9, 3) := by decide +kernel
theorem dX12_numberOut_6 : decode cX12_numberOut 6 = .ok (.aload_n 0, 1) := by decide +kernel
theorem dX12_numberOut_7 : decode cX12_numberOut 7 = .ok (.bipush 45, 2) := by decide +kernel
theorem dX12_numberOut_9 : decode cX12_numberOut 9 = .ok (.invokevirtual 570, 3) := by decide +kernel
theorem dX12_numberOut_12 : decode cX12_numberOut 12 = .ok (.lload_n 1, 1) := by decide +kernel
theorem dX12_numberOut_13 : decode cX12_numberOut 13 = .ok (.lconst 0, 1) := by decide +kernel
theorem dX12_numberOut_14 : decode cX12_numberOut 14 = .ok (.lcmp, 1) := by decide +kernel
theorem dX12_numberOut_15 : decode cX12_numberOut 15 = .ok (.ifCond .ge 8, 3) := by decide +kernel
theorem dX12_numberOut_18 : decode cX12_numberOut 18 = .ok (.lload_n 1, 1) := by decide +kernel
theorem dX12_numberOut_19 : decode cX12_numberOut 19 = .ok (.lneg, 1) := by decide +kernel
theorem dX12_numberOut_20 : decode cX12_numberOut 20 = .ok (.goto 4, 3) := by decide +kernel
theorem dX12_numberOut_23 : decode cX12_numberOut 23 = .ok (.lload_n 1, 1) := by decide +kernel
theorem dX12_numberOut_24 : decode cX12_numberOut 24 = .ok (.lstore_n 3, 1) := by decide +kernel
theorem dX12_numberOut_25 : decode cX12_numberOut 25 = .ok (.lconst 1, 1) := by decide +kernel
theorem dX12_numberOut_26 : decode cX12_numberOut 26 = .ok (.lstore 5, 2) := by decide +kernel
theorem dX12_numberOut_28 : decode cX12_numberOut 28 = .ok (.lload_n 3, 1) := by decide +kernel
theorem dX12_numberOut_29 : decode cX12_numberOut 29 = .ok (.lload 5, 2) := by decide +kernel
theorem dX12_numberOut_31 : decode cX12_numberOut 31 = .ok (.ldiv, 1) := by decide +kernel
theorem dX12_numberOut_32 : decode cX12_numberOut 32 = .ok (.ldc2_w 573, 3) := by decide +kernel
theorem dX12_numberOut_35 : decode cX12_numberOut 35 = .ok (.lcmp, 1) := by decide +kernel
theorem dX12_numberOut_36 : decode cX12_numberOut 36 = .ok (.ifCond .le 14, 3) := by decide +kernel
theorem dX12_numberOut_39 : decode cX12_numberOut 39 = .ok (.lload 5, 2) := by decide +kernel
theorem dX12_numberOut_41 : decode cX12_numberOut 41 = .ok (.ldc2_w 575, 3) := by decide +kernel
theorem dX12_numberOut_44 : decode cX12_numberOut 44 = .ok (.lmul, 1) := by decide +kernel
theorem dX12_numberOut_45 : decode cX12_numberOut 45 = .ok (.lstore 5, 2) := by decide +kernel
theorem dX12_numberOut_47 : decode cX12_numberOut 47 = .ok (.goto (-19), 3) := by decide +kernel
theorem dX12_numberOut_50 : decode cX12_numberOut 50 = .ok (.lload 5, 2) := by decide +kernel
theorem dX12_numberOut_52 : decode cX12_numberOut 52 = .ok (.lconst 0, 1) := by decide +kernel
theorem dX12_numberOut_53 : decode cX12_numberOut 53 = .ok (.lcmp, 1) := by decide +kernel
theorem dX12_numberOut_54 : decode cX12_numberOut 54 = .ok (.ifCond .le 30, 3) := by decide +kernel
theorem dX12_numberOut_57 : decode cX12_numberOut 57 = .ok (.aload_n 0, 1) := by decide +kernel
theorem dX12_numberOut_58 : decode cX12_numberOut 58 = .ok (.bipush 48, 2) := by decide +kernel
theorem dX12_numberOut_60 : decode cX12_numberOut 60 = .ok (.lload_n 3, 1) := by decide +kernel
theorem dX12_numberOut_61 : decode cX12_numberOut 61 = .ok (.lload 5, 2) := by decide +kernel
theorem dX12_numberOut_63 : decode cX12_numberOut 63 = .ok (.ldiv, 1) := by decide +kernel
theorem dX12_numberOut_64 : decode cX12_numberOut 64 = .ok (.ldc2_w 575, 3) := by decide +kernel
theorem dX12_numberOut_67 : decode cX12_numberOut 67 = .ok (.lrem, 1) := by decide +kernel
theorem dX12_numberOut_68 : decode cX12_numberOut 68 = .ok (.l2i, 1) := by decide +kernel
theorem dX12_numberOut_69 : decode cX12_numberOut 69 = .ok (.iadd, 1) := by decide +kernel
theorem dX12_numberOut_70 : decode cX12_numberOut 70 = .ok (.invokevirtual 570, 3) := by decide +kernel
theorem dX12_numberOut_73 : decode cX12_numberOut 73 = .ok (.lload 5, 2) := by decide +kernel
theorem dX12_numberOut_75 : decode cX12_numberOut 75 = .ok (.ldc2_w 575, 3) := by decide +kernel
theorem dX12_numberOut_78 : decode cX12_numberOut 78 = .ok (.ldiv, 1) := by decide +kernel
theorem dX12_numberOut_79 : decode cX12_numberOut 79 = .ok (.lstore 5, 2) := by decide +kernel
theorem dX12_numberOut_81 : decode cX12_numberOut 81 = .ok (.goto (-31), 3) := by decide +kernel
theorem dX12_numberOut_84 : decode cX12_numberOut 84 = .ok (.return_, 1) := by decide +kernel
def fX12_numberOut_50F (k50 : MS → Int64 → Int64 → Option (MS)) (h : MS) (x3 : Int64) (x5 : Int64) : Option (MS) :=
  if (lg_cmp x5 0) ≤ 0 then (some (h)) else (oC (decide (¬ x5 = 0)) (oB (fX12_byteOut h (48 + (Int64.toInt32 ((x3 / x5) - (x3 / x5) / 10 * 10)))) (fun h4 => oL (x5 / 10) (fun y5 => k50 h4 x3 y5))))
set_option maxHeartbeats 4000000 in
theorem wfX12_numberOut_50F {args : Array Value} (b : Bd p s m c cX12_numberOut 7 RX12 D aC) (hlk : meth.locks = false) (hr : meth.sig.returnType = none) {Z : State → Prop} (zs : Z s) (zk : ZOK Z (Rg ad)) {hz : MS} {k50 : MS → Int64 → Int64 → Option (MS)} (H50 : ∀ (h : MS) (x3 : Int64) (x5 : Int64), ∀ (H : Heap) (locs : List Loc) (ls : Array Slot), k50 h x3 x5 = some hz → CE (EM D aC ad h) (Rg ad) s H locs → lv_has ls 7 [(0, .ref (ad 116)), (3, .long x3), (5, .long x5)] → W p l e (RM 1 21 0 0) s m args below meth c H locs 0 0 (MQ below (PQ (EM D aC ad hz) (Rg ad) none) args s 0 0 (Rg ad)) (F0 m 50 ls [])) {h : MS} {x3 : Int64} {x5 : Int64}  {H : Heap} {locs : List Loc} {ls : Array Slot} (hf : fX12_numberOut_50F k50 h x3 x5 = some hz) (hE : CE (EM D aC ad h) (Rg ad) s H locs) (hl : lv_has ls 7 [(0, .ref (ad 116)), (3, .long x3), (5, .long x5)]) : W p l e (RM 1 21 0 0) s m args below meth c H locs 0 0 (MQ below (PQ (EM D aC ad hz) (Rg ad) none) args s 0 0 (Rg ad)) (F0 m 50 ls []) := by
  unfold fX12_numberOut_50F at hf
  refine lv_lload b.1 b.2.1 dX12_numberOut_50 (lv_at hl 2 rfl) ?_
  refine lv_lconst (v := 0) b.1 b.2.1 dX12_numberOut_52 rfl ?_
  refine W.lcmp b.1 b.2.1 dX12_numberOut_53 ?_
  refine lv_if_le (tgt := 84) b.1 b.2.1 dX12_numberOut_54 (by decide) (fun c1 => ?_) (fun c1 => ?_)
  · have hf := oI_t c1 hf
    cases hf
    exact k_vret b hlk hr hE (Nat.le_refl _) (Nat.le_refl _) dX12_numberOut_84
  · have hf := oI_f c1 hf
    refine lv_aload_n b.1 b.2.1 dX12_numberOut_57 rfl (lv_at hl 0 rfl) ?_
    refine lv_bipush (v := 48) b.1 b.2.1 dX12_numberOut_58 (by decide) ?_
    refine lv_lload_n b.1 b.2.1 dX12_numberOut_60 rfl (lv_at hl 1 rfl) ?_
    refine lv_lload b.1 b.2.1 dX12_numberOut_61 (lv_at hl 2 rfl) ?_
    obtain ⟨g2, hf⟩ := oC_s hf
    refine lv_ldiv b.1 b.2.1 dX12_numberOut_63 (of_decide_eq_true g2) ?_
    refine k_ldc2 (v := 10) b (in8 122 rfl rfl) dX12_numberOut_64 ?_
    refine lv_lrem b.1 b.2.1 dX12_numberOut_67 (by decide) ?_
    refine lv_l2i b.1 b.2.1 dX12_numberOut_68 rfl ?_
    refine lv_iadd b.1 b.2.1 dX12_numberOut_69 ?_
    obtain ⟨h4, hc3, hf⟩ := oB_s hf
    refine k_callV0 (C := RX12) b zs zk hE (CX12_byteOut l D aC ad zk hc3) mc_X12_byteOut (in8 109 rfl rfl) mi_X12_byteOut ms_X12_byteOut ini_RX12 ok_X12_byteOut (m_recv b hE) ⟨Nat.le_of_ble_eq_true rfl, Nat.le_of_ble_eq_true rfl⟩ rfl hl.1 rfl (k_room _ (by exact Nat.le_of_ble_eq_true rfl)) ⟨Nat.le_refl _, Nat.le_refl _⟩ dX12_numberOut_70 (fun H locs hE => ?_)
    refine lv_lload b.1 b.2.1 dX12_numberOut_73 (lv_at hl 2 rfl) ?_
    refine k_ldc2 (v := 10) b (in8 122 rfl rfl) dX12_numberOut_75 ?_
    refine lv_ldiv b.1 b.2.1 dX12_numberOut_78 (by decide) ?_
    obtain ⟨y5, ey5, hf⟩ := oL_s hf
    refine k_nmL ey5 ?_
    refine lv_lstore (lv' := [(5, .long y5), (0, .ref (ad 116)), (3, .long x3)]) b.1 b.2.1 dX12_numberOut_79 hl (by decide) rfl (fun ls hl => ?_)
    refine lv_goto (tgt := 50) b.1 b.2.1 dX12_numberOut_81 (by decide) ?_
    exact H50 h4 x3 y5 _ _ _ hf hE (lv_sub hl [1, 2, 0] rfl)
def fX12_numberOut_50  : Nat → MS → Int64 → Int64 → Option (MS)
  | 0 => fun _ _ _ => none
  | n + 1 => fX12_numberOut_50F  (fX12_numberOut_50  n)
set_option maxHeartbeats 4000000 in
theorem wfX12_numberOut_50 {args : Array Value} (b : Bd p s m c cX12_numberOut 7 RX12 D aC) (hlk : meth.locks = false) (hr : meth.sig.returnType = none) {Z : State → Prop} (zs : Z s) (zk : ZOK Z (Rg ad)) {hz : MS} : ∀ n : Nat, ∀ (h : MS) (x3 : Int64) (x5 : Int64), ∀ (H : Heap) (locs : List Loc) (ls : Array Slot), fX12_numberOut_50  n h x3 x5 = some hz → CE (EM D aC ad h) (Rg ad) s H locs → lv_has ls 7 [(0, .ref (ad 116)), (3, .long x3), (5, .long x5)] → W p l e (RM 1 21 0 0) s m args below meth c H locs 0 0 (MQ below (PQ (EM D aC ad hz) (Rg ad) none) args s 0 0 (Rg ad)) (F0 m 50 ls []) := by
  intro n
  induction n with
  | zero =>
    intro h x3 x5 H locs ls hf
    have hf : (none : Option (MS)) = some _ := hf
    cases hf
  | succ n ih =>
    intro h x3 x5 H locs ls hf hE hl
    exact wfX12_numberOut_50F b hlk hr zs zk  ih hf hE hl
def fX12_numberOut_28F (k28 : MS → Int64 → Int64 → Option (MS)) (h : MS) (x3 : Int64) (x5 : Int64) : Option (MS) :=
  oC (decide (¬ x5 = 0)) (if (lg_cmp (x3 / x5) 9) ≤ 0 then (fX12_numberOut_50  FU h x3 x5) else (oL (x5 * 10) (fun y8 => k28 h x3 y8)))
set_option maxHeartbeats 4000000 in
theorem wfX12_numberOut_28F {args : Array Value} (b : Bd p s m c cX12_numberOut 7 RX12 D aC) (hlk : meth.locks = false) (hr : meth.sig.returnType = none) {Z : State → Prop} (zs : Z s) (zk : ZOK Z (Rg ad)) {hz : MS} {k28 : MS → Int64 → Int64 → Option (MS)} (H28 : ∀ (h : MS) (x3 : Int64) (x5 : Int64), ∀ (H : Heap) (locs : List Loc) (ls : Array Slot), k28 h x3 x5 = some hz → CE (EM D aC ad h) (Rg ad) s H locs → lv_has ls 7 [(0, .ref (ad 116)), (3, .long x3), (5, .long x5)] → W p l e (RM 1 21 0 0) s m args below meth c H locs 0 0 (MQ below (PQ (EM D aC ad hz) (Rg ad) none) args s 0 0 (Rg ad)) (F0 m 28 ls [])) {h : MS} {x3 : Int64} {x5 : Int64}  {H : Heap} {locs : List Loc} {ls : Array Slot} (hf : fX12_numberOut_28F k28 h x3 x5 = some hz) (hE : CE (EM D aC ad h) (Rg ad) s H locs) (hl : lv_has ls 7 [(0, .ref (ad 116)), (3, .long x3), (5, .long x5)]) : W p l e (RM 1 21 0 0) s m args below meth c H locs 0 0 (MQ below (PQ (EM D aC ad hz) (Rg ad) none) args s 0 0 (Rg ad)) (F0 m 28 ls []) := by
  unfold fX12_numberOut_28F at hf
  refine lv_lload_n b.1 b.2.1 dX12_numberOut_28 rfl (lv_at hl 1 rfl) ?_
  refine lv_lload b.1 b.2.1 dX12_numberOut_29 (lv_at hl 2 rfl) ?_
  obtain ⟨g6, hf⟩ := oC_s hf
  refine lv_ldiv b.1 b.2.1 dX12_numberOut_31 (of_decide_eq_true g6) ?_
  refine k_ldc2 (v := 9) b (in8 121 rfl rfl) dX12_numberOut_32 ?_
  refine W.lcmp b.1 b.2.1 dX12_numberOut_35 ?_
  refine lv_if_le (tgt := 50) b.1 b.2.1 dX12_numberOut_36 (by decide) (fun c7 => ?_) (fun c7 => ?_)
  · have hf := oI_t c7 hf
    exact wfX12_numberOut_50 b hlk hr zs zk  FU h x3 x5 _ _ _ hf hE (lv_sub hl [0, 1, 2] rfl)
  · have hf := oI_f c7 hf
    refine lv_lload b.1 b.2.1 dX12_numberOut_39 (lv_at hl 2 rfl) ?_
    refine k_ldc2 (v := 10) b (in8 122 rfl rfl) dX12_numberOut_41 ?_
    refine lv_lmul b.1 b.2.1 dX12_numberOut_44 ?_
    obtain ⟨y8, ey8, hf⟩ := oL_s hf
    refine k_nmL ey8 ?_
    refine lv_lstore (lv' := [(5, .long y8), (0, .ref (ad 116)), (3, .long x3)]) b.1 b.2.1 dX12_numberOut_45 hl (by decide) rfl (fun ls hl => ?_)
    refine lv_goto (tgt := 28) b.1 b.2.1 dX12_numberOut_47 (by decide) ?_
    exact H28 h x3 y8 _ _ _ hf hE (lv_sub hl [1, 2, 0] rfl)
def fX12_numberOut_28  : Nat → MS → Int64 → Int64 → Option (MS)
  | 0 => fun _ _ _ => none
  | n + 1 => fX12_numberOut_28F  (fX12_numberOut_28  n)
set_option maxHeartbeats 4000000 in
theorem wfX12_numberOut_28 {args : Array Value} (b : Bd p s m c cX12_numberOut 7 RX12 D aC) (hlk : meth.locks = false) (hr : meth.sig.returnType = none) {Z : State → Prop} (zs : Z s) (zk : ZOK Z (Rg ad)) {hz : MS} : ∀ n : Nat, ∀ (h : MS) (x3 : Int64) (x5 : Int64), ∀ (H : Heap) (locs : List Loc) (ls : Array Slot), fX12_numberOut_28  n h x3 x5 = some hz → CE (EM D aC ad h) (Rg ad) s H locs → lv_has ls 7 [(0, .ref (ad 116)), (3, .long x3), (5, .long x5)] → W p l e (RM 1 21 0 0) s m args below meth c H locs 0 0 (MQ below (PQ (EM D aC ad hz) (Rg ad) none) args s 0 0 (Rg ad)) (F0 m 28 ls []) := by
  intro n
  induction n with
  | zero =>
    intro h x3 x5 H locs ls hf
    have hf : (none : Option (MS)) = some _ := hf
    cases hf
  | succ n ih =>
    intro h x3 x5 H locs ls hf hE hl
    exact wfX12_numberOut_28F b hlk hr zs zk  ih hf hE hl
def fX12_numberOut_24  (h : MS) (s0 : Int64) : Option (MS) :=
  fX12_numberOut_28  FU h s0 1
set_option maxHeartbeats 4000000 in
theorem wfX12_numberOut_24 {args : Array Value} (b : Bd p s m c cX12_numberOut 7 RX12 D aC) (hlk : meth.locks = false) (hr : meth.sig.returnType = none) {Z : State → Prop} (zs : Z s) (zk : ZOK Z (Rg ad)) {hz : MS} {h : MS} {s0 : Int64}  {H : Heap} {locs : List Loc} {ls : Array Slot} (hf : fX12_numberOut_24 h s0 = some hz) (hE : CE (EM D aC ad h) (Rg ad) s H locs) (hl : lv_has ls 7 [(0, .ref (ad 116))]) : W p l e (RM 1 21 0 0) s m args below meth c H locs 0 0 (MQ below (PQ (EM D aC ad hz) (Rg ad) none) args s 0 0 (Rg ad)) (F0 m 24 ls [.long s0]) := by
  unfold fX12_numberOut_24 at hf
  refine lv_lstore_n (lv' := [(3, .long s0), (0, .ref (ad 116))]) b.1 b.2.1 dX12_numberOut_24 rfl hl (by decide) rfl (fun ls hl => ?_)
  refine lv_lconst (v := 1) b.1 b.2.1 dX12_numberOut_25 rfl ?_
  refine lv_lstore (lv' := [(5, .long 1), (3, .long s0), (0, .ref (ad 116))]) b.1 b.2.1 dX12_numberOut_26 hl (by decide) rfl (fun ls hl => ?_)
  exact wfX12_numberOut_28 b hlk hr zs zk  FU h s0 1 _ _ _ hf hE (lv_sub hl [2, 1, 0] rfl)
def fX12_numberOut_12  (h : MS) (x1 : Int64) : Option (MS) :=
  if 0 ≤ (lg_cmp x1 0) then (fX12_numberOut_24  h x1) else (fX12_numberOut_24  h (-x1))
set_option maxHeartbeats 4000000 in
theorem wfX12_numberOut_12 {args : Array Value} (b : Bd p s m c cX12_numberOut 7 RX12 D aC) (hlk : meth.locks = false) (hr : meth.sig.returnType = none) {Z : State → Prop} (zs : Z s) (zk : ZOK Z (Rg ad)) {hz : MS} {h : MS} {x1 : Int64}  {H : Heap} {locs : List Loc} {ls : Array Slot} (hf : fX12_numberOut_12 h x1 = some hz) (hE : CE (EM D aC ad h) (Rg ad) s H locs) (hl : lv_has ls 7 [(0, .ref (ad 116)), (1, .long x1)]) : W p l e (RM 1 21 0 0) s m args below meth c H locs 0 0 (MQ below (PQ (EM D aC ad hz) (Rg ad) none) args s 0 0 (Rg ad)) (F0 m 12 ls []) := by
  unfold fX12_numberOut_12 at hf
  refine lv_lload_n b.1 b.2.1 dX12_numberOut_12 rfl (lv_at hl 1 rfl) ?_
  refine lv_lconst (v := 0) b.1 b.2.1 dX12_numberOut_13 rfl ?_
  refine W.lcmp b.1 b.2.1 dX12_numberOut_14 ?_
  refine lv_if_ge (tgt := 23) b.1 b.2.1 dX12_numberOut_15 (by decide) (fun c9 => ?_) (fun c9 => ?_)
  · have hf := oI_t c9 hf
    refine lv_lload_n b.1 b.2.1 dX12_numberOut_23 rfl (lv_at hl 1 rfl) ?_
    exact wfX12_numberOut_24 b hlk hr zs zk  hf hE (lv_sub hl [0] rfl)
  · have hf := oI_f c9 hf
    refine lv_lload_n b.1 b.2.1 dX12_numberOut_18 rfl (lv_at hl 1 rfl) ?_
    refine lv_lneg b.1 b.2.1 dX12_numberOut_19 ?_
    refine lv_goto (tgt := 24) b.1 b.2.1 dX12_numberOut_20 (by decide) ?_
    exact wfX12_numberOut_24 b hlk hr zs zk  hf hE (lv_sub hl [0] rfl)
def fX12_numberOut_0  (h : MS) (x1 : Int64) : Option (MS) :=
  if 0 ≤ (lg_cmp x1 0) then (fX12_numberOut_12  h x1) else (oB (fX12_byteOut h 45) (fun h12 => fX12_numberOut_12  h12 x1))
set_option maxHeartbeats 4000000 in
theorem wfX12_numberOut_0 {args : Array Value} (b : Bd p s m c cX12_numberOut 7 RX12 D aC) (hlk : meth.locks = false) (hr : meth.sig.returnType = none) {Z : State → Prop} (zs : Z s) (zk : ZOK Z (Rg ad)) {hz : MS} {h : MS} {x1 : Int64}  {H : Heap} {locs : List Loc} {ls : Array Slot} (hf : fX12_numberOut_0 h x1 = some hz) (hE : CE (EM D aC ad h) (Rg ad) s H locs) (hl : lv_has ls 7 [(0, .ref (ad 116)), (1, .long x1)]) : W p l e (RM 1 21 0 0) s m args below meth c H locs 0 0 (MQ below (PQ (EM D aC ad hz) (Rg ad) none) args s 0 0 (Rg ad)) (F0 m 0 ls []) := by
  unfold fX12_numberOut_0 at hf
  refine lv_lload_n b.1 b.2.1 dX12_numberOut_0 rfl (lv_at hl 1 rfl) ?_
  refine lv_lconst (v := 0) b.1 b.2.1 dX12_numberOut_1 rfl ?_
  refine W.lcmp b.1 b.2.1 dX12_numberOut_2 ?_
  refine lv_if_ge (tgt := 12) b.1 b.2.1 dX12_numberOut_3 (by decide) (fun c10 => ?_) (fun c10 => ?_)
  · have hf := oI_t c10 hf
    exact wfX12_numberOut_12 b hlk hr zs zk  hf hE (lv_sub hl [0, 1] rfl)
  · have hf := oI_f c10 hf
    refine lv_aload_n b.1 b.2.1 dX12_numberOut_6 rfl (lv_at hl 0 rfl) ?_
    refine lv_bipush (v := 45) b.1 b.2.1 dX12_numberOut_7 (by decide) ?_
    obtain ⟨h12, hc11, hf⟩ := oB_s hf
    refine k_callV0 (C := RX12) b zs zk hE (CX12_byteOut l D aC ad zk hc11) mc_X12_byteOut (in8 109 rfl rfl) mi_X12_byteOut ms_X12_byteOut ini_RX12 ok_X12_byteOut (m_recv b hE) ⟨Nat.le_of_ble_eq_true rfl, Nat.le_of_ble_eq_true rfl⟩ rfl hl.1 rfl (k_room _ (by exact Nat.le_of_ble_eq_true rfl)) ⟨Nat.le_refl _, Nat.le_refl _⟩ dX12_numberOut_9 (fun H locs hE => ?_)
    exact wfX12_numberOut_12 b hlk hr zs zk  hf hE (lv_sub hl [0, 1] rfl)
def fX12_numberOut (h : MS) (x1 : Int64) : Option (MS) := fX12_numberOut_0 h x1
set_option maxHeartbeats 4000000 in
theorem CX12_numberOut (l : Launch) (D : va_G) (aC : Nat → ClassId) (ad : Nat → Nat) {Z : State → Prop} (zk : ZOK Z (Rg ad)) {h : MS} {x1 : Int64} {hz : MS} (hf : fX12_numberOut h x1 = some hz) : CM l D aC Z yX12_numberOut cX12_numberOut 7 (none) 1 21 0 0 (EM D aC ad h) [.ref (ad 116), .long x1] (EM D aC ad hz) none (Rg ad) := by
  refine CM.of rfl ?_
  intro p e s m below meth c b hr hlk hin2 zs hE
  refine k_ent (Nat.le_of_ble_eq_true rfl) (fun ls hl => ?_)
  exact wfX12_numberOut_0 b hlk hr zs zk hf hE (lv_sub hl [0, 1] rfl)
theorem dX12_wordOut_0 : decode cX12_wordOut 0 = .ok (.aload_n 0, 1) := by decide +kernel
theorem dX12_wordOut_1 : decode cX12_wordOut 1 = .ok (.iload_n 1, 1) := by decide +kernel
theorem dX12_wordOut_2 : decode cX12_wordOut 2 = .ok (.invokevirtual 570, 3) := by decide +kernel
theorem dX12_wordOut_5 : decode cX12_wordOut 5 = .ok (.aload_n 0, 1) := by decide +kernel
theorem dX12_wordOut_6 : decode cX12_wordOut 6 = .ok (.iload_n 2, 1) := by decide +kernel
theorem dX12_wordOut_7 : decode cX12_wordOut 7 = .ok (.invokevirtual 570, 3) := by decide +kernel
theorem dX12_wordOut_10 : decode cX12_wordOut 10 = .ok (.iload_n 3, 1) := by decide +kernel
theorem dX12_wordOut_11 : decode cX12_wordOut 11 = .ok (.ifCond .le 8, 3) := by decide +kernel
theorem dX12_wordOut_14 : decode cX12_wordOut 14 = .ok (.aload_n 0, 1) := by decide +kernel
theorem dX12_wordOut_15 : decode cX12_wordOut 15 = .ok (.iload_n 3, 1) := by decide +kernel
theorem dX12_wordOut_16 : decode cX12_wordOut 16 = .ok (.invokevirtual 570, 3) := by decide +kernel
theorem dX12_wordOut_19 : decode cX12_wordOut 19 = .ok (.iload 4, 2) := by decide +kernel
theorem dX12_wordOut_21 : decode cX12_wordOut 21 = .ok (.ifCond .le 9, 3) := by decide +kernel
theorem dX12_wordOut_24 : decode cX12_wordOut 24 = .ok (.aload_n 0, 1) := by decide +kernel
theorem dX12_wordOut_25 : decode cX12_wordOut 25 = .ok (.iload 4, 2) := by decide +kernel
theorem dX12_wordOut_27 : decode cX12_wordOut 27 = .ok (.invokevirtual 570, 3) := by decide +kernel
theorem dX12_wordOut_30 : decode cX12_wordOut 30 = .ok (.iload 5, 2) := by decide +kernel
theorem dX12_wordOut_32 : decode cX12_wordOut 32 = .ok (.ifCond .le 9, 3) := by decide +kernel
theorem dX12_wordOut_35 : decode cX12_wordOut 35 = .ok (.aload_n 0, 1) := by decide +kernel
theorem dX12_wordOut_36 : decode cX12_wordOut 36 = .ok (.iload 5, 2) := by decide +kernel
theorem dX12_wordOut_38 : decode cX12_wordOut 38 = .ok (.invokevirtual 570, 3) := by decide +kernel
theorem dX12_wordOut_41 : decode cX12_wordOut 41 = .ok (.iload 6, 2) := by decide +kernel
theorem dX12_wordOut_43 : decode cX12_wordOut 43 = .ok (.ifCond .le 9, 3) := by decide +kernel
theorem dX12_wordOut_46 : decode cX12_wordOut 46 = .ok (.aload_n 0, 1) := by decide +kernel
theorem dX12_wordOut_47 : decode cX12_wordOut 47 = .ok (.iload 6, 2) := by decide +kernel
theorem dX12_wordOut_49 : decode cX12_wordOut 49 = .ok (.invokevirtual 570, 3) := by decide +kernel
theorem dX12_wordOut_52 : decode cX12_wordOut 52 = .ok (.return_, 1) := by decide +kernel
def fX12_wordOut_41  (h : MS) (x6 : Int32) : Option (MS) :=
  if x6 ≤ 0 then (some (h)) else (oB (fX12_byteOut h x6) (fun h3 => some (h3)))
set_option maxHeartbeats 4000000 in
theorem wfX12_wordOut_41 {args : Array Value} (b : Bd p s m c cX12_wordOut 7 RX12 D aC) (hlk : meth.locks = false) (hr : meth.sig.returnType = none) {Z : State → Prop} (zs : Z s) (zk : ZOK Z (Rg ad)) {hz : MS} {h : MS} {x6 : Int32}  {H : Heap} {locs : List Loc} {ls : Array Slot} (hf : fX12_wordOut_41 h x6 = some hz) (hE : CE (EM D aC ad h) (Rg ad) s H locs) (hl : lv_has ls 7 [(0, .ref (ad 116)), (6, .int x6)]) : W p l e (RM 1 21 0 0) s m args below meth c H locs 0 0 (MQ below (PQ (EM D aC ad hz) (Rg ad) none) args s 0 0 (Rg ad)) (F0 m 41 ls []) := by
  unfold fX12_wordOut_41 at hf
  refine lv_iload b.1 b.2.1 dX12_wordOut_41 (lv_at hl 1 rfl) ?_
  refine lv_if_le (tgt := 52) b.1 b.2.1 dX12_wordOut_43 (by decide) (fun c1 => ?_) (fun c1 => ?_)
  · have hf := oI_t c1 hf
    cases hf
    exact k_vret b hlk hr hE (Nat.le_refl _) (Nat.le_refl _) dX12_wordOut_52
  · have hf := oI_f c1 hf
    refine lv_aload_n b.1 b.2.1 dX12_wordOut_46 rfl (lv_at hl 0 rfl) ?_
    refine lv_iload b.1 b.2.1 dX12_wordOut_47 (lv_at hl 1 rfl) ?_
    obtain ⟨h3, hc2, hf⟩ := oB_s hf
    refine k_callV0 (C := RX12) b zs zk hE (CX12_byteOut l D aC ad zk hc2) mc_X12_byteOut (in8 109 rfl rfl) mi_X12_byteOut ms_X12_byteOut ini_RX12 ok_X12_byteOut (m_recv b hE) ⟨Nat.le_of_ble_eq_true rfl, Nat.le_of_ble_eq_true rfl⟩ rfl hl.1 rfl (k_room _ (by exact Nat.le_of_ble_eq_true rfl)) ⟨Nat.le_refl _, Nat.le_refl _⟩ dX12_wordOut_49 (fun H locs hE => ?_)
    cases hf
    exact k_vret b hlk hr hE (Nat.le_refl _) (Nat.le_refl _) dX12_wordOut_52
def fX12_wordOut_30  (h : MS) (x5 : Int32) (x6 : Int32) : Option (MS) :=
  if x5 ≤ 0 then (fX12_wordOut_41  h x6) else (oB (fX12_byteOut h x5) (fun h6 => fX12_wordOut_41  h6 x6))
set_option maxHeartbeats 4000000 in
theorem wfX12_wordOut_30 {args : Array Value} (b : Bd p s m c cX12_wordOut 7 RX12 D aC) (hlk : meth.locks = false) (hr : meth.sig.returnType = none) {Z : State → Prop} (zs : Z s) (zk : ZOK Z (Rg ad)) {hz : MS} {h : MS} {x5 : Int32} {x6 : Int32}  {H : Heap} {locs : List Loc} {ls : Array Slot} (hf : fX12_wordOut_30 h x5 x6 = some hz) (hE : CE (EM D aC ad h) (Rg ad) s H locs) (hl : lv_has ls 7 [(0, .ref (ad 116)), (5, .int x5), (6, .int x6)]) : W p l e (RM 1 21 0 0) s m args below meth c H locs 0 0 (MQ below (PQ (EM D aC ad hz) (Rg ad) none) args s 0 0 (Rg ad)) (F0 m 30 ls []) := by
  unfold fX12_wordOut_30 at hf
  refine lv_iload b.1 b.2.1 dX12_wordOut_30 (lv_at hl 1 rfl) ?_
  refine lv_if_le (tgt := 41) b.1 b.2.1 dX12_wordOut_32 (by decide) (fun c4 => ?_) (fun c4 => ?_)
  · have hf := oI_t c4 hf
    exact wfX12_wordOut_41 b hlk hr zs zk  hf hE (lv_sub hl [0, 2] rfl)
  · have hf := oI_f c4 hf
    refine lv_aload_n b.1 b.2.1 dX12_wordOut_35 rfl (lv_at hl 0 rfl) ?_
    refine lv_iload b.1 b.2.1 dX12_wordOut_36 (lv_at hl 1 rfl) ?_
    obtain ⟨h6, hc5, hf⟩ := oB_s hf
    refine k_callV0 (C := RX12) b zs zk hE (CX12_byteOut l D aC ad zk hc5) mc_X12_byteOut (in8 109 rfl rfl) mi_X12_byteOut ms_X12_byteOut ini_RX12 ok_X12_byteOut (m_recv b hE) ⟨Nat.le_of_ble_eq_true rfl, Nat.le_of_ble_eq_true rfl⟩ rfl hl.1 rfl (k_room _ (by exact Nat.le_of_ble_eq_true rfl)) ⟨Nat.le_refl _, Nat.le_refl _⟩ dX12_wordOut_38 (fun H locs hE => ?_)
    exact wfX12_wordOut_41 b hlk hr zs zk  hf hE (lv_sub hl [0, 2] rfl)
def fX12_wordOut_19  (h : MS) (x4 : Int32) (x5 : Int32) (x6 : Int32) : Option (MS) :=
  if x4 ≤ 0 then (fX12_wordOut_30  h x5 x6) else (oB (fX12_byteOut h x4) (fun h9 => fX12_wordOut_30  h9 x5 x6))
set_option maxHeartbeats 4000000 in
theorem wfX12_wordOut_19 {args : Array Value} (b : Bd p s m c cX12_wordOut 7 RX12 D aC) (hlk : meth.locks = false) (hr : meth.sig.returnType = none) {Z : State → Prop} (zs : Z s) (zk : ZOK Z (Rg ad)) {hz : MS} {h : MS} {x4 : Int32} {x5 : Int32} {x6 : Int32}  {H : Heap} {locs : List Loc} {ls : Array Slot} (hf : fX12_wordOut_19 h x4 x5 x6 = some hz) (hE : CE (EM D aC ad h) (Rg ad) s H locs) (hl : lv_has ls 7 [(0, .ref (ad 116)), (4, .int x4), (5, .int x5), (6, .int x6)]) : W p l e (RM 1 21 0 0) s m args below meth c H locs 0 0 (MQ below (PQ (EM D aC ad hz) (Rg ad) none) args s 0 0 (Rg ad)) (F0 m 19 ls []) := by
  unfold fX12_wordOut_19 at hf
  refine lv_iload b.1 b.2.1 dX12_wordOut_19 (lv_at hl 1 rfl) ?_
  refine lv_if_le (tgt := 30) b.1 b.2.1 dX12_wordOut_21 (by decide) (fun c7 => ?_) (fun c7 => ?_)
  · have hf := oI_t c7 hf
    exact wfX12_wordOut_30 b hlk hr zs zk  hf hE (lv_sub hl [0, 2, 3] rfl)
  · have hf := oI_f c7 hf
    refine lv_aload_n b.1 b.2.1 dX12_wordOut_24 rfl (lv_at hl 0 rfl) ?_
    refine lv_iload b.1 b.2.1 dX12_wordOut_25 (lv_at hl 1 rfl) ?_
    obtain ⟨h9, hc8, hf⟩ := oB_s hf
    refine k_callV0 (C := RX12) b zs zk hE (CX12_byteOut l D aC ad zk hc8) mc_X12_byteOut (in8 109 rfl rfl) mi_X12_byteOut ms_X12_byteOut ini_RX12 ok_X12_byteOut (m_recv b hE) ⟨Nat.le_of_ble_eq_true rfl, Nat.le_of_ble_eq_true rfl⟩ rfl hl.1 rfl (k_room _ (by exact Nat.le_of_ble_eq_true rfl)) ⟨Nat.le_refl _, Nat.le_refl _⟩ dX12_wordOut_27 (fun H locs hE => ?_)
    exact wfX12_wordOut_30 b hlk hr zs zk  hf hE (lv_sub hl [0, 2, 3] rfl)
def fX12_wordOut_0  (h : MS) (x1 : Int32) (x2 : Int32) (x3 : Int32) (x4 : Int32) (x5 : Int32) (x6 : Int32) : Option (MS) :=
  oB (fX12_byteOut h x1) (fun h11 => oB (fX12_byteOut h11 x2) (fun h13 => if x3 ≤ 0 then (fX12_wordOut_19  h13 x4 x5 x6) else (oB (fX12_byteOut h13 x3) (fun h16 => fX12_wordOut_19  h16 x4 x5 x6))))
set_option maxHeartbeats 4000000 in
theorem wfX12_wordOut_0 {args : Array Value} (b : Bd p s m c cX12_wordOut 7 RX12 D aC) (hlk : meth.locks = false) (hr : meth.sig.returnType = none) {Z : State → Prop} (zs : Z s) (zk : ZOK Z (Rg ad)) {hz : MS} {h : MS} {x1 : Int32} {x2 : Int32} {x3 : Int32} {x4 : Int32} {x5 : Int32} {x6 : Int32}  {H : Heap} {locs : List Loc} {ls : Array Slot} (hf : fX12_wordOut_0 h x1 x2 x3 x4 x5 x6 = some hz) (hE : CE (EM D aC ad h) (Rg ad) s H locs) (hl : lv_has ls 7 [(0, .ref (ad 116)), (1, .int x1), (2, .int x2), (3, .int x3), (4, .int x4), (5, .int x5), (6, .int x6)]) : W p l e (RM 1 21 0 0) s m args below meth c H locs 0 0 (MQ below (PQ (EM D aC ad hz) (Rg ad) none) args s 0 0 (Rg ad)) (F0 m 0 ls []) := by
  unfold fX12_wordOut_0 at hf
  refine lv_aload_n b.1 b.2.1 dX12_wordOut_0 rfl (lv_at hl 0 rfl) ?_
  refine lv_iload_n b.1 b.2.1 dX12_wordOut_1 rfl (lv_at hl 1 rfl) ?_
  obtain ⟨h11, hc10, hf⟩ := oB_s hf
  refine k_callV0 (C := RX12) b zs zk hE (CX12_byteOut l D aC ad zk hc10) mc_X12_byteOut (in8 109 rfl rfl) mi_X12_byteOut ms_X12_byteOut ini_RX12 ok_X12_byteOut (m_recv b hE) ⟨Nat.le_of_ble_eq_true rfl, Nat.le_of_ble_eq_true rfl⟩ rfl hl.1 rfl (k_room _ (by exact Nat.le_of_ble_eq_true rfl)) ⟨Nat.le_refl _, Nat.le_refl _⟩ dX12_wordOut_2 (fun H locs hE => ?_)
  refine lv_aload_n b.1 b.2.1 dX12_wordOut_5 rfl (lv_at hl 0 rfl) ?_
  refine lv_iload_n b.1 b.2.1 dX12_wordOut_6 rfl (lv_at hl 2 rfl) ?_
  obtain ⟨h13, hc12, hf⟩ := oB_s hf
  refine k_callV0 (C := RX12) b zs zk hE (CX12_byteOut l D aC ad zk hc12) mc_X12_byteOut (in8 109 rfl rfl) mi_X12_byteOut ms_X12_byteOut ini_RX12 ok_X12_byteOut (m_recv b hE) ⟨Nat.le_of_ble_eq_true rfl, Nat.le_of_ble_eq_true rfl⟩ rfl hl.1 rfl (k_room _ (by exact Nat.le_of_ble_eq_true rfl)) ⟨Nat.le_refl _, Nat.le_refl _⟩ dX12_wordOut_7 (fun H locs hE => ?_)
  refine lv_iload_n b.1 b.2.1 dX12_wordOut_10 rfl (lv_at hl 3 rfl) ?_
  refine lv_if_le (tgt := 19) b.1 b.2.1 dX12_wordOut_11 (by decide) (fun c14 => ?_) (fun c14 => ?_)
  · have hf := oI_t c14 hf
    exact wfX12_wordOut_19 b hlk hr zs zk  hf hE (lv_sub hl [0, 4, 5, 6] rfl)
  · have hf := oI_f c14 hf
    refine lv_aload_n b.1 b.2.1 dX12_wordOut_14 rfl (lv_at hl 0 rfl) ?_
    refine lv_iload_n b.1 b.2.1 dX12_wordOut_15 rfl (lv_at hl 3 rfl) ?_
    obtain ⟨h16, hc15, hf⟩ := oB_s hf
    refine k_callV0 (C := RX12) b zs zk hE (CX12_byteOut l D aC ad zk hc15) mc_X12_byteOut (in8 109 rfl rfl) mi_X12_byteOut ms_X12_byteOut ini_RX12 ok_X12_byteOut (m_recv b hE) ⟨Nat.le_of_ble_eq_true rfl, Nat.le_of_ble_eq_true rfl⟩ rfl hl.1 rfl (k_room _ (by exact Nat.le_of_ble_eq_true rfl)) ⟨Nat.le_refl _, Nat.le_refl _⟩ dX12_wordOut_16 (fun H locs hE => ?_)
    exact wfX12_wordOut_19 b hlk hr zs zk  hf hE (lv_sub hl [0, 4, 5, 6] rfl)
def fX12_wordOut (h : MS) (x1 : Int32) (x2 : Int32) (x3 : Int32) (x4 : Int32) (x5 : Int32) (x6 : Int32) : Option (MS) := fX12_wordOut_0 h x1 x2 x3 x4 x5 x6
set_option maxHeartbeats 4000000 in
theorem CX12_wordOut (l : Launch) (D : va_G) (aC : Nat → ClassId) (ad : Nat → Nat) {Z : State → Prop} (zk : ZOK Z (Rg ad)) {h : MS} {x1 : Int32} {x2 : Int32} {x3 : Int32} {x4 : Int32} {x5 : Int32} {x6 : Int32} {hz : MS} (hf : fX12_wordOut h x1 x2 x3 x4 x5 x6 = some hz) : CM l D aC Z yX12_wordOut cX12_wordOut 7 (none) 1 21 0 0 (EM D aC ad h) [.ref (ad 116), .int x1, .int x2, .int x3, .int x4, .int x5, .int x6] (EM D aC ad hz) none (Rg ad) := by
  refine CM.of rfl ?_
  intro p e s m below meth c b hr hlk hin2 zs hE
  refine k_ent (Nat.le_of_ble_eq_true rfl) (fun ls hl => ?_)
  exact wfX12_wordOut_0 b hlk hr zs zk hf hE (lv_sub hl [0, 1, 2, 3, 4, 5, 6] rfl)
theorem dX12_lineOf_0 : decode cX12_lineOf 0 = .ok (.iload_n 1, 1) := by decide +kernel
theorem dX12_lineOf_1 : decode cX12_lineOf 1 = .ok (.bipush 50, 2) := by decide +kernel
theorem dX12_lineOf_3 : decode cX12_lineOf 3 = .ok (.idiv, 1) := by decide +kernel
theorem dX12_lineOf_4 : decode cX12_lineOf 4 = .ok (.istore_n 2, 1) := by decide +kernel
theorem dX12_lineOf_5 : decode cX12_lineOf 5 = .ok (.iload_n 1, 1) := by decide +kernel
theorem dX12_lineOf_6 : decode cX12_lineOf 6 = .ok (.bipush 10, 2) := by decide +kernel
theorem dX12_lineOf_8 : decode cX12_lineOf 8 = .ok (.idiv, 1) := by decide +kernel
theorem dX12_lineOf_9 : decode cX12_lineOf 9 = .ok (.iconst 5, 1) := by decide +kernel
theorem dX12_lineOf_10 : decode cX12_lineOf 10 = .ok (.irem, 1) := by decide +kernel
theorem dX12_lineOf_11 : decode cX12_lineOf 11 = .ok (.istore_n 3, 1) := by decide +kernel
theorem dX12_lineOf_12 : decode cX12_lineOf 12 = .ok (.iload_n 1, 1) := by decide +kernel
theorem dX12_lineOf_13 : decode cX12_lineOf 13 = .ok (.iconst 2, 1) := by decide +kernel
theorem dX12_lineOf_14 : decode cX12_lineOf 14 = .ok (.idiv, 1) := by decide +kernel
theorem dX12_lineOf_15 : decode cX12_lineOf 15 = .ok (.iconst 5, 1) := by decide +kernel
theorem dX12_lineOf_16 : decode cX12_lineOf 16 = .ok (.irem, 1) := by decide +kernel
theorem dX12_lineOf_17 : decode cX12_lineOf 17 = .ok (.istore 4, 2) := by decide +kernel
theorem dX12_lineOf_19 : decode cX12_lineOf 19 = .ok (.aload_n 0, 1) := by decide +kernel
theorem dX12_lineOf_20 : decode cX12_lineOf 20 = .ok (.getfield 49, 3) := by decide +kernel
theorem dX12_lineOf_23 : decode cX12_lineOf 23 = .ok (.iload_n 2, 1) := by decide +kernel
theorem dX12_lineOf_24 : decode cX12_lineOf 24 = .ok (.iaload, 1) := by decide +kernel
theorem dX12_lineOf_25 : decode cX12_lineOf 25 = .ok (.istore 5, 2) := by decide +kernel
theorem dX12_lineOf_27 : decode cX12_lineOf 27 = .ok (.iload 5, 2) := by decide +kernel
theorem dX12_lineOf_29 : decode cX12_lineOf 29 = .ok (.ifCond .le 14, 3) := by decide +kernel
theorem dX12_lineOf_32 : decode cX12_lineOf 32 = .ok (.iload_n 3, 1) := by decide +kernel
theorem dX12_lineOf_33 : decode cX12_lineOf 33 = .ok (.aload_n 0, 1) := by decide +kernel
theorem dX12_lineOf_34 : decode cX12_lineOf 34 = .ok (.getfield 506, 3) := by decide +kernel
theorem dX12_lineOf_37 : decode cX12_lineOf 37 = .ok (.if_icmp .ge 37, 3) := by decide +kernel
theorem dX12_lineOf_40 : decode cX12_lineOf 40 = .ok (.goto 7, 3) := by decide +kernel
theorem dX12_lineOf_43 : decode cX12_lineOf 43 = .ok (.iload_n 3, 1) := by decide +kernel
theorem dX12_lineOf_44 : decode cX12_lineOf 44 = .ok (.ifCond .ne 30, 3) := by decide +kernel
theorem dX12_lineOf_47 : decode cX12_lineOf 47 = .ok (.iload 5, 2) := by decide +kernel
theorem dX12_lineOf_49 : decode cX12_lineOf 49 = .ok (.iconst 1, 1) := by decide +kernel
theorem dX12_lineOf_50 : decode cX12_lineOf 50 = .ok (.if_icmp .le 15, 3) := by decide +kernel
theorem dX12_lineOf_53 : decode cX12_lineOf 53 = .ok (.iload 4, 2) := by decide +kernel
theorem dX12_lineOf_55 : decode cX12_lineOf 55 = .ok (.aload_n 0, 1) := by decide +kernel
theorem dX12_lineOf_56 : decode cX12_lineOf 56 = .ok (.getfield 506, 3) := by decide +kernel
theorem dX12_lineOf_59 : decode cX12_lineOf 59 = .ok (.if_icmp .ge 15, 3) := by decide +kernel
theorem dX12_lineOf_62 : decode cX12_lineOf 62 = .ok (.goto 8, 3) := by decide +kernel
theorem dX12_lineOf_65 : decode cX12_lineOf 65 = .ok (.iload 4, 2) := by decide +kernel
theorem dX12_lineOf_67 : decode cX12_lineOf 67 = .ok (.ifCond .ne 7, 3) := by decide +kernel
theorem dX12_lineOf_70 : decode cX12_lineOf 70 = .ok (.iconst 1, 1) := by decide +kernel
theorem dX12_lineOf_71 : decode cX12_lineOf 71 = .ok (.goto 4, 3) := by decide +kernel
theorem dX12_lineOf_74 : decode cX12_lineOf 74 = .ok (.iconst 0, 1) := by decide +kernel
theorem dX12_lineOf_75 : decode cX12_lineOf 75 = .ok (.istore 6, 2) := by decide +kernel
theorem dX12_lineOf_77 : decode cX12_lineOf 77 = .ok (.iload 6, 2) := by decide +kernel
theorem dX12_lineOf_79 : decode cX12_lineOf 79 = .ok (.ifCond .eq 13, 3) := by decide +kernel
theorem dX12_lineOf_82 : decode cX12_lineOf 82 = .ok (.aload_n 0, 1) := by decide +kernel
theorem dX12_lineOf_83 : decode cX12_lineOf 83 = .ok (.getfield 219, 3) := by decide +kernel
theorem dX12_lineOf_86 : decode cX12_lineOf 86 = .ok (.iload_n 1, 1) := by decide +kernel
theorem dX12_lineOf_87 : decode cX12_lineOf 87 = .ok (.iaload, 1) := by decide +kernel
theorem dX12_lineOf_88 : decode cX12_lineOf 88 = .ok (.iconst 1, 1) := by decide +kernel
theorem dX12_lineOf_89 : decode cX12_lineOf 89 = .ok (.if_icmp .eq 4, 3) := by decide +kernel
theorem dX12_lineOf_92 : decode cX12_lineOf 92 = .ok (.return_, 1) := by decide +kernel
theorem dX12_lineOf_93 : decode cX12_lineOf 93 = .ok (.iload_n 1, 1) := by decide +kernel
theorem dX12_lineOf_94 : decode cX12_lineOf 94 = .ok (.iconst 2, 1) := by decide +kernel
theorem dX12_lineOf_95 : decode cX12_lineOf 95 = .ok (.irem, 1) := by decide +kernel
theorem dX12_lineOf_96 : decode cX12_lineOf 96 = .ok (.iconst 1, 1) := by decide +kernel
theorem dX12_lineOf_97 : decode cX12_lineOf 97 = .ok (.if_icmp .ne 17, 3) := by decide +kernel
theorem dX12_lineOf_100 : decode cX12_lineOf 100 = .ok (.aload_n 0, 1) := by decide +kernel
theorem dX12_lineOf_101 : decode cX12_lineOf 101 = .ok (.bipush 110, 2) := by decide +kernel
theorem dX12_lineOf_103 : decode cX12_lineOf 103 = .ok (.bipush 111, 2) := by decide +kernel
theorem dX12_lineOf_105 : decode cX12_lineOf 105 = .ok (.bipush 116, 2) := by decide +kernel
theorem dX12_lineOf_107 : decode cX12_lineOf 107 = .ok (.bipush 32, 2) := by decide +kernel
theorem dX12_lineOf_109 : decode cX12_lineOf 109 = .ok (.iconst 0, 1) := by decide +kernel
theorem dX12_lineOf_110 : decode cX12_lineOf 110 = .ok (.iconst 0, 1) := by decide +kernel
theorem dX12_lineOf_111 : decode cX12_lineOf 111 = .ok (.invokevirtual 584, 3) := by decide +kernel
theorem dX12_lineOf_114 : decode cX12_lineOf 114 = .ok (.aload_n 0, 1) := by decide +kernel
theorem dX12_lineOf_115 : decode cX12_lineOf 115 = .ok (.aload_n 0, 1) := by decide +kernel
theorem dX12_lineOf_116 : decode cX12_lineOf 116 = .ok (.getfield 46, 3) := by decide +kernel
theorem dX12_lineOf_119 : decode cX12_lineOf 119 = .ok (.iload_n 2, 1) := by decide +kernel
theorem dX12_lineOf_120 : decode cX12_lineOf 120 = .ok (.laload, 1) := by decide +kernel
theorem dX12_lineOf_121 : decode cX12_lineOf 121 = .ok (.invokevirtual 580, 3) := by decide +kernel
theorem dX12_lineOf_124 : decode cX12_lineOf 124 = .ok (.iload 5, 2) := by decide +kernel
theorem dX12_lineOf_126 : decode cX12_lineOf 126 = .ok (.ifCond .le 48, 3) := by decide +kernel
theorem dX12_lineOf_129 : decode cX12_lineOf 129 = .ok (.aload_n 0, 1) := by decide +kernel
theorem dX12_lineOf_130 : decode cX12_lineOf 130 = .ok (.bipush 40, 2) := by decide +kernel
theorem dX12_lineOf_132 : decode cX12_lineOf 132 = .ok (.invokevirtual 570, 3) := by decide +kernel
theorem dX12_lineOf_135 : decode cX12_lineOf 135 = .ok (.aload_n 0, 1) := by decide +kernel
theorem dX12_lineOf_136 : decode cX12_lineOf 136 = .ok (.aload_n 0, 1) := by decide +kernel
theorem dX12_lineOf_137 : decode cX12_lineOf 137 = .ok (.getfield 40, 3) := by decide +kernel
theorem dX12_lineOf_140 : decode cX12_lineOf 140 = .ok (.iload_n 3, 1) := by decide +kernel
theorem dX12_lineOf_141 : decode cX12_lineOf 141 = .ok (.laload, 1) := by decide +kernel
theorem dX12_lineOf_142 : decode cX12_lineOf 142 = .ok (.invokevirtual 580, 3) := by decide +kernel
theorem dX12_lineOf_145 : decode cX12_lineOf 145 = .ok (.iload 5, 2) := by decide +kernel
theorem dX12_lineOf_147 : decode cX12_lineOf 147 = .ok (.iconst 1, 1) := by decide +kernel
theorem dX12_lineOf_148 : decode cX12_lineOf 148 = .ok (.if_icmp .le 20, 3) := by decide +kernel
theorem dX12_lineOf_151 : decode cX12_lineOf 151 = .ok (.aload_n 0, 1) := by decide +kernel
theorem dX12_lineOf_152 : decode cX12_lineOf 152 = .ok (.bipush 44, 2) := by decide +kernel
theorem dX12_lineOf_154 : decode cX12_lineOf 154 = .ok (.invokevirtual 570, 3) := by decide +kernel
theorem dX12_lineOf_157 : decode cX12_lineOf 157 = .ok (.aload_n 0, 1) := by decide +kernel
theorem dX12_lineOf_158 : decode cX12_lineOf 158 = .ok (.aload_n 0, 1) := by decide +kernel
theorem dX12_lineOf_159 : decode cX12_lineOf 159 = .ok (.getfield 40, 3) := by decide +kernel
theorem dX12_lineOf_162 : decode cX12_lineOf 162 = .ok (.iload 4, 2) := by decide +kernel
theorem dX12_lineOf_164 : decode cX12_lineOf 164 = .ok (.laload, 1) := by decide +kernel
theorem dX12_lineOf_165 : decode cX12_lineOf 165 = .ok (.invokevirtual 580, 3) := by decide +kernel
theorem dX12_lineOf_168 : decode cX12_lineOf 168 = .ok (.aload_n 0, 1) := by decide +kernel
theorem dX12_lineOf_169 : decode cX12_lineOf 169 = .ok (.bipush 41, 2) := by decide +kernel
theorem dX12_lineOf_171 : decode cX12_lineOf 171 = .ok (.invokevirtual 570, 3) := by decide +kernel
theorem dX12_lineOf_174 : decode cX12_lineOf 174 = .ok (.aload_n 0, 1) := by decide +kernel
theorem dX12_lineOf_175 : decode cX12_lineOf 175 = .ok (.getfield 222, 3) := by decide +kernel
theorem dX12_lineOf_178 : decode cX12_lineOf 178 = .ok (.iload_n 1, 1) := by decide +kernel
theorem dX12_lineOf_179 : decode cX12_lineOf 179 = .ok (.iaload, 1) := by decide +kernel
theorem dX12_lineOf_180 : decode cX12_lineOf 180 = .ok (.ifCond .ne 21, 3) := by decide +kernel
theorem dX12_lineOf_183 : decode cX12_lineOf 183 = .ok (.aload_n 0, 1) := by decide +kernel
theorem dX12_lineOf_184 : decode cX12_lineOf 184 = .ok (.bipush 32, 2) := by decide +kernel
theorem dX12_lineOf_186 : decode cX12_lineOf 186 = .ok (.bipush 102, 2) := by decide +kernel
theorem dX12_lineOf_188 : decode cX12_lineOf 188 = .ok (.bipush 97, 2) := by decide +kernel
theorem dX12_lineOf_190 : decode cX12_lineOf 190 = .ok (.bipush 99, 2) := by decide +kernel
theorem dX12_lineOf_192 : decode cX12_lineOf 192 = .ok (.bipush 116, 2) := by decide +kernel
theorem dX12_lineOf_194 : decode cX12_lineOf 194 = .ok (.iconst 0, 1) := by decide +kernel
theorem dX12_lineOf_195 : decode cX12_lineOf 195 = .ok (.invokevirtual 584, 3) := by decide +kernel
theorem dX12_lineOf_198 : decode cX12_lineOf 198 = .ok (.goto 32, 3) := by decide +kernel
theorem dX12_lineOf_201 : decode cX12_lineOf 201 = .ok (.aload_n 0, 1) := by decide +kernel
theorem dX12_lineOf_202 : decode cX12_lineOf 202 = .ok (.bipush 32, 2) := by decide +kernel
theorem dX12_lineOf_204 : decode cX12_lineOf 204 = .ok (.bipush 98, 2) := by decide +kernel
theorem dX12_lineOf_206 : decode cX12_lineOf 206 = .ok (.bipush 121, 2) := by decide +kernel
theorem dX12_lineOf_208 : decode cX12_lineOf 208 = .ok (.bipush 32, 2) := by decide +kernel
theorem dX12_lineOf_210 : decode cX12_lineOf 210 = .ok (.iconst 0, 1) := by decide +kernel
theorem dX12_lineOf_211 : decode cX12_lineOf 211 = .ok (.iconst 0, 1) := by decide +kernel
theorem dX12_lineOf_212 : decode cX12_lineOf 212 = .ok (.invokevirtual 584, 3) := by decide +kernel
theorem dX12_lineOf_215 : decode cX12_lineOf 215 = .ok (.aload_n 0, 1) := by decide +kernel
theorem dX12_lineOf_216 : decode cX12_lineOf 216 = .ok (.aload_n 0, 1) := by decide +kernel
theorem dX12_lineOf_217 : decode cX12_lineOf 217 = .ok (.getfield 79, 3) := by decide +kernel
theorem dX12_lineOf_220 : decode cX12_lineOf 220 = .ok (.aload_n 0, 1) := by decide +kernel
theorem dX12_lineOf_221 : decode cX12_lineOf 221 = .ok (.getfield 225, 3) := by decide +kernel
theorem dX12_lineOf_224 : decode cX12_lineOf 224 = .ok (.iload_n 1, 1) := by decide +kernel
theorem dX12_lineOf_225 : decode cX12_lineOf 225 = .ok (.iaload, 1) := by decide +kernel
theorem dX12_lineOf_226 : decode cX12_lineOf 226 = .ok (.laload, 1) := by decide +kernel
theorem dX12_lineOf_227 : decode cX12_lineOf 227 = .ok (.invokevirtual 580, 3) := by decide +kernel
theorem dX12_lineOf_230 : decode cX12_lineOf 230 = .ok (.aload_n 0, 1) := by decide +kernel
theorem dX12_lineOf_231 : decode cX12_lineOf 231 = .ok (.bipush 10, 2) := by decide +kernel
theorem dX12_lineOf_233 : decode cX12_lineOf 233 = .ok (.invokevirtual 570, 3) := by decide +kernel
theorem dX12_lineOf_236 : decode cX12_lineOf 236 = .ok (.return_, 1) := by decide +kernel
def fX12_lineOf_230  (h : MS) : Option (MS) :=
  oB (fX12_byteOut h 10) (fun h2 => some (h2))
set_option maxHeartbeats 4000000 in
theorem wfX12_lineOf_230 {args : Array Value} (b : Bd p s m c cX12_lineOf 7 RX12 D aC) (hlk : meth.locks = false) (hr : meth.sig.returnType = none) {Z : State → Prop} (zs : Z s) (zk : ZOK Z (Rg ad)) {hz : MS} {h : MS}  {H : Heap} {locs : List Loc} {ls : Array Slot} (hf : fX12_lineOf_230 h = some hz) (hE : CE (EM D aC ad h) (Rg ad) s H locs) (hl : lv_has ls 7 [(0, .ref (ad 116))]) : W p l e (RM 2 47 0 0) s m args below meth c H locs 0 0 (MQ below (PQ (EM D aC ad hz) (Rg ad) none) args s 0 0 (Rg ad)) (F0 m 230 ls []) := by
  unfold fX12_lineOf_230 at hf
  refine lv_aload_n b.1 b.2.1 dX12_lineOf_230 rfl (lv_at hl 0 rfl) ?_
  refine lv_bipush (v := 10) b.1 b.2.1 dX12_lineOf_231 (by decide) ?_
  obtain ⟨h2, hc1, hf⟩ := oB_s hf
  refine k_callV0 (C := RX12) b zs zk hE (CX12_byteOut l D aC ad zk hc1) mc_X12_byteOut (in8 109 rfl rfl) mi_X12_byteOut ms_X12_byteOut ini_RX12 ok_X12_byteOut (m_recv b hE) ⟨Nat.le_of_ble_eq_true rfl, Nat.le_of_ble_eq_true rfl⟩ rfl hl.1 rfl (k_room _ (by exact Nat.le_of_ble_eq_true rfl)) ⟨Nat.le_refl _, Nat.le_refl _⟩ dX12_lineOf_233 (fun H locs hE => ?_)
  cases hf
  exact k_vret b hlk hr hE (Nat.le_refl _) (Nat.le_refl _) dX12_lineOf_236
def fX12_lineOf_174  (h : MS) (x1 : Int32) : Option (MS) :=
  oC (ix x1 (mlen 105)) (if (mA h 105 (Int32.toNatClampNeg x1)) = 0 then (oB (fX12_wordOut h 32 102 97 99 116 0) (fun h12 => fX12_lineOf_230  h12)) else (oB (fX12_wordOut h 32 98 121 32 0 0) (fun h6 => oC (ix x1 (mlen 106)) (oC (ix (mA h6 106 (Int32.toNatClampNeg x1)) (mlen 38)) (oB (fX12_nameOut h6 (mB h6 38 (Int32.toNatClampNeg (mA h6 106 (Int32.toNatClampNeg x1))))) (fun h10 => fX12_lineOf_230  h10))))))
set_option maxHeartbeats 4000000 in
theorem wfX12_lineOf_174 {args : Array Value} (b : Bd p s m c cX12_lineOf 7 RX12 D aC) (hlk : meth.locks = false) (hr : meth.sig.returnType = none) {Z : State → Prop} (zs : Z s) (zk : ZOK Z (Rg ad)) {hz : MS} {h : MS} {x1 : Int32}  {H : Heap} {locs : List Loc} {ls : Array Slot} (hf : fX12_lineOf_174 h x1 = some hz) (hE : CE (EM D aC ad h) (Rg ad) s H locs) (hl : lv_has ls 7 [(0, .ref (ad 116)), (1, .int x1)]) : W p l e (RM 2 47 0 0) s m args below meth c H locs 0 0 (MQ below (PQ (EM D aC ad hz) (Rg ad) none) args s 0 0 (Rg ad)) (F0 m 174 ls []) := by
  unfold fX12_lineOf_174 at hf
  refine lv_aload_n b.1 b.2.1 dX12_lineOf_174 rfl (lv_at hl 0 rfl) ?_
  refine gM_222 b hE dX12_lineOf_175 ?_
  refine lv_iload_n b.1 b.2.1 dX12_lineOf_178 rfl (lv_at hl 1 rfl) ?_
  obtain ⟨g3, hf⟩ := oC_s hf
  refine m_iald b hE rfl rfl g3 dX12_lineOf_179 ?_
  refine lv_if_ne (tgt := 201) b.1 b.2.1 dX12_lineOf_180 (by decide) (fun c4 => ?_) (fun c4 => ?_)
  · have hf := oI_f c4 hf
    refine lv_aload_n b.1 b.2.1 dX12_lineOf_201 rfl (lv_at hl 0 rfl) ?_
    refine lv_bipush (v := 32) b.1 b.2.1 dX12_lineOf_202 (by decide) ?_
    refine lv_bipush (v := 98) b.1 b.2.1 dX12_lineOf_204 (by decide) ?_
    refine lv_bipush (v := 121) b.1 b.2.1 dX12_lineOf_206 (by decide) ?_
    refine lv_bipush (v := 32) b.1 b.2.1 dX12_lineOf_208 (by decide) ?_
    refine lv_iconst (v := 0) b.1 b.2.1 dX12_lineOf_210 (by decide) ?_
    refine lv_iconst (v := 0) b.1 b.2.1 dX12_lineOf_211 (by decide) ?_
    obtain ⟨h6, hc5, hf⟩ := oB_s hf
    refine k_callV0 (C := RX12) b zs zk hE (CX12_wordOut l D aC ad zk hc5) mc_X12_wordOut (in8 105 rfl rfl) mi_X12_wordOut ms_X12_wordOut ini_RX12 ok_X12_wordOut (m_recv b hE) ⟨Nat.le_of_ble_eq_true rfl, Nat.le_of_ble_eq_true rfl⟩ rfl hl.1 rfl (k_room _ (by exact Nat.le_of_ble_eq_true rfl)) ⟨Nat.le_refl _, Nat.le_refl _⟩ dX12_lineOf_212 (fun H locs hE => ?_)
    refine lv_aload_n b.1 b.2.1 dX12_lineOf_215 rfl (lv_at hl 0 rfl) ?_
    refine lv_aload_n b.1 b.2.1 dX12_lineOf_216 rfl (lv_at hl 0 rfl) ?_
    refine gM_79 b hE dX12_lineOf_217 ?_
    refine lv_aload_n b.1 b.2.1 dX12_lineOf_220 rfl (lv_at hl 0 rfl) ?_
    refine gM_225 b hE dX12_lineOf_221 ?_
    refine lv_iload_n b.1 b.2.1 dX12_lineOf_224 rfl (lv_at hl 1 rfl) ?_
    obtain ⟨g7, hf⟩ := oC_s hf
    refine m_iald b hE rfl rfl g7 dX12_lineOf_225 ?_
    obtain ⟨g8, hf⟩ := oC_s hf
    refine m_lald b hE rfl rfl g8 dX12_lineOf_226 ?_
    obtain ⟨h10, hc9, hf⟩ := oB_s hf
    refine k_callV0 (C := RX12) b zs zk hE (CX12_nameOut l D aC ad zk hc9) mc_X12_nameOut (in8 113 rfl rfl) mi_X12_nameOut ms_X12_nameOut ini_RX12 ok_X12_nameOut (m_recv b hE) ⟨Nat.le_of_ble_eq_true rfl, Nat.le_of_ble_eq_true rfl⟩ rfl hl.1 rfl (k_room _ (by exact Nat.le_of_ble_eq_true rfl)) ⟨Nat.le_refl _, Nat.le_refl _⟩ dX12_lineOf_227 (fun H locs hE => ?_)
    exact wfX12_lineOf_230 b hlk hr zs zk  hf hE (lv_sub hl [0] rfl)
  · have hf := oI_t c4 hf
    refine lv_aload_n b.1 b.2.1 dX12_lineOf_183 rfl (lv_at hl 0 rfl) ?_
    refine lv_bipush (v := 32) b.1 b.2.1 dX12_lineOf_184 (by decide) ?_
    refine lv_bipush (v := 102) b.1 b.2.1 dX12_lineOf_186 (by decide) ?_
    refine lv_bipush (v := 97) b.1 b.2.1 dX12_lineOf_188 (by decide) ?_
    refine lv_bipush (v := 99) b.1 b.2.1 dX12_lineOf_190 (by decide) ?_
    refine lv_bipush (v := 116) b.1 b.2.1 dX12_lineOf_192 (by decide) ?_
    refine lv_iconst (v := 0) b.1 b.2.1 dX12_lineOf_194 (by decide) ?_
    obtain ⟨h12, hc11, hf⟩ := oB_s hf
    refine k_callV0 (C := RX12) b zs zk hE (CX12_wordOut l D aC ad zk hc11) mc_X12_wordOut (in8 105 rfl rfl) mi_X12_wordOut ms_X12_wordOut ini_RX12 ok_X12_wordOut (m_recv b hE) ⟨Nat.le_of_ble_eq_true rfl, Nat.le_of_ble_eq_true rfl⟩ rfl hl.1 rfl (k_room _ (by exact Nat.le_of_ble_eq_true rfl)) ⟨Nat.le_refl _, Nat.le_refl _⟩ dX12_lineOf_195 (fun H locs hE => ?_)
    refine lv_goto (tgt := 230) b.1 b.2.1 dX12_lineOf_198 (by decide) ?_
    exact wfX12_lineOf_230 b hlk hr zs zk  hf hE (lv_sub hl [0] rfl)
def fX12_lineOf_168  (h : MS) (x1 : Int32) : Option (MS) :=
  oB (fX12_byteOut h 41) (fun h14 => fX12_lineOf_174  h14 x1)
set_option maxHeartbeats 4000000 in
theorem wfX12_lineOf_168 {args : Array Value} (b : Bd p s m c cX12_lineOf 7 RX12 D aC) (hlk : meth.locks = false) (hr : meth.sig.returnType = none) {Z : State → Prop} (zs : Z s) (zk : ZOK Z (Rg ad)) {hz : MS} {h : MS} {x1 : Int32}  {H : Heap} {locs : List Loc} {ls : Array Slot} (hf : fX12_lineOf_168 h x1 = some hz) (hE : CE (EM D aC ad h) (Rg ad) s H locs) (hl : lv_has ls 7 [(0, .ref (ad 116)), (1, .int x1)]) : W p l e (RM 2 47 0 0) s m args below meth c H locs 0 0 (MQ below (PQ (EM D aC ad hz) (Rg ad) none) args s 0 0 (Rg ad)) (F0 m 168 ls []) := by
  unfold fX12_lineOf_168 at hf
  refine lv_aload_n b.1 b.2.1 dX12_lineOf_168 rfl (lv_at hl 0 rfl) ?_
  refine lv_bipush (v := 41) b.1 b.2.1 dX12_lineOf_169 (by decide) ?_
  obtain ⟨h14, hc13, hf⟩ := oB_s hf
  refine k_callV0 (C := RX12) b zs zk hE (CX12_byteOut l D aC ad zk hc13) mc_X12_byteOut (in8 109 rfl rfl) mi_X12_byteOut ms_X12_byteOut ini_RX12 ok_X12_byteOut (m_recv b hE) ⟨Nat.le_of_ble_eq_true rfl, Nat.le_of_ble_eq_true rfl⟩ rfl hl.1 rfl (k_room _ (by exact Nat.le_of_ble_eq_true rfl)) ⟨Nat.le_refl _, Nat.le_refl _⟩ dX12_lineOf_171 (fun H locs hE => ?_)
  exact wfX12_lineOf_174 b hlk hr zs zk  hf hE (lv_sub hl [0, 1] rfl)
def fX12_lineOf_114  (h : MS) (x1 : Int32) (x2 : Int32) (x3 : Int32) (x4 : Int32) (x5 : Int32) : Option (MS) :=
  oC (ix x2 (mlen 27)) (oB (fX12_nameOut h (mB h 27 (Int32.toNatClampNeg x2))) (fun h17 => if x5 ≤ 0 then (fX12_lineOf_174  h17 x1) else (oB (fX12_byteOut h17 40) (fun h20 => oC (ix x3 (mlen 25)) (oB (fX12_nameOut h20 (mB h20 25 (Int32.toNatClampNeg x3))) (fun h23 => if x5 ≤ 1 then (fX12_lineOf_168  h23 x1) else (oB (fX12_byteOut h23 44) (fun h26 => oC (ix x4 (mlen 25)) (oB (fX12_nameOut h26 (mB h26 25 (Int32.toNatClampNeg x4))) (fun h29 => fX12_lineOf_168  h29 x1))))))))))
set_option maxHeartbeats 4000000 in
theorem wfX12_lineOf_114 {args : Array Value} (b : Bd p s m c cX12_lineOf 7 RX12 D aC) (hlk : meth.locks = false) (hr : meth.sig.returnType = none) {Z : State → Prop} (zs : Z s) (zk : ZOK Z (Rg ad)) {hz : MS} {h : MS} {x1 : Int32} {x2 : Int32} {x3 : Int32} {x4 : Int32} {x5 : Int32}  {H : Heap} {locs : List Loc} {ls : Array Slot} (hf : fX12_lineOf_114 h x1 x2 x3 x4 x5 = some hz) (hE : CE (EM D aC ad h) (Rg ad) s H locs) (hl : lv_has ls 7 [(0, .ref (ad 116)), (1, .int x1), (2, .int x2), (3, .int x3), (4, .int x4), (5, .int x5)]) : W p l e (RM 2 47 0 0) s m args below meth c H locs 0 0 (MQ below (PQ (EM D aC ad hz) (Rg ad) none) args s 0 0 (Rg ad)) (F0 m 114 ls []) := by
  unfold fX12_lineOf_114 at hf
  refine lv_aload_n b.1 b.2.1 dX12_lineOf_114 rfl (lv_at hl 0 rfl) ?_
  refine lv_aload_n b.1 b.2.1 dX12_lineOf_115 rfl (lv_at hl 0 rfl) ?_
  refine gM_46 b hE dX12_lineOf_116 ?_
  refine lv_iload_n b.1 b.2.1 dX12_lineOf_119 rfl (lv_at hl 2 rfl) ?_
  obtain ⟨g15, hf⟩ := oC_s hf
  refine m_lald b hE rfl rfl g15 dX12_lineOf_120 ?_
  obtain ⟨h17, hc16, hf⟩ := oB_s hf
  refine k_callV0 (C := RX12) b zs zk hE (CX12_nameOut l D aC ad zk hc16) mc_X12_nameOut (in8 113 rfl rfl) mi_X12_nameOut ms_X12_nameOut ini_RX12 ok_X12_nameOut (m_recv b hE) ⟨Nat.le_of_ble_eq_true rfl, Nat.le_of_ble_eq_true rfl⟩ rfl hl.1 rfl (k_room _ (by exact Nat.le_of_ble_eq_true rfl)) ⟨Nat.le_refl _, Nat.le_refl _⟩ dX12_lineOf_121 (fun H locs hE => ?_)
  refine lv_iload b.1 b.2.1 dX12_lineOf_124 (lv_at hl 5 rfl) ?_
  refine lv_if_le (tgt := 174) b.1 b.2.1 dX12_lineOf_126 (by decide) (fun c18 => ?_) (fun c18 => ?_)
  · have hf := oI_t c18 hf
    exact wfX12_lineOf_174 b hlk hr zs zk  hf hE (lv_sub hl [0, 1] rfl)
  · have hf := oI_f c18 hf
    refine lv_aload_n b.1 b.2.1 dX12_lineOf_129 rfl (lv_at hl 0 rfl) ?_
    refine lv_bipush (v := 40) b.1 b.2.1 dX12_lineOf_130 (by decide) ?_
    obtain ⟨h20, hc19, hf⟩ := oB_s hf
    refine k_callV0 (C := RX12) b zs zk hE (CX12_byteOut l D aC ad zk hc19) mc_X12_byteOut (in8 109 rfl rfl) mi_X12_byteOut ms_X12_byteOut ini_RX12 ok_X12_byteOut (m_recv b hE) ⟨Nat.le_of_ble_eq_true rfl, Nat.le_of_ble_eq_true rfl⟩ rfl hl.1 rfl (k_room _ (by exact Nat.le_of_ble_eq_true rfl)) ⟨Nat.le_refl _, Nat.le_refl _⟩ dX12_lineOf_132 (fun H locs hE => ?_)
    refine lv_aload_n b.1 b.2.1 dX12_lineOf_135 rfl (lv_at hl 0 rfl) ?_
    refine lv_aload_n b.1 b.2.1 dX12_lineOf_136 rfl (lv_at hl 0 rfl) ?_
    refine gM_40 b hE dX12_lineOf_137 ?_
    refine lv_iload_n b.1 b.2.1 dX12_lineOf_140 rfl (lv_at hl 3 rfl) ?_
    obtain ⟨g21, hf⟩ := oC_s hf
    refine m_lald b hE rfl rfl g21 dX12_lineOf_141 ?_
    obtain ⟨h23, hc22, hf⟩ := oB_s hf
    refine k_callV0 (C := RX12) b zs zk hE (CX12_nameOut l D aC ad zk hc22) mc_X12_nameOut (in8 113 rfl rfl) mi_X12_nameOut ms_X12_nameOut ini_RX12 ok_X12_nameOut (m_recv b hE) ⟨Nat.le_of_ble_eq_true rfl, Nat.le_of_ble_eq_true rfl⟩ rfl hl.1 rfl (k_room _ (by exact Nat.le_of_ble_eq_true rfl)) ⟨Nat.le_refl _, Nat.le_refl _⟩ dX12_lineOf_142 (fun H locs hE => ?_)
    refine lv_iload b.1 b.2.1 dX12_lineOf_145 (lv_at hl 5 rfl) ?_
    refine lv_iconst (v := 1) b.1 b.2.1 dX12_lineOf_147 (by decide) ?_
    refine lv_icmp_le (tgt := 168) b.1 b.2.1 dX12_lineOf_148 (by decide) (fun c24 => ?_) (fun c24 => ?_)
    · have hf := oI_t c24 hf
      exact wfX12_lineOf_168 b hlk hr zs zk  hf hE (lv_sub hl [0, 1] rfl)
    · have hf := oI_f c24 hf
      refine lv_aload_n b.1 b.2.1 dX12_lineOf_151 rfl (lv_at hl 0 rfl) ?_
      refine lv_bipush (v := 44) b.1 b.2.1 dX12_lineOf_152 (by decide) ?_
      obtain ⟨h26, hc25, hf⟩ := oB_s hf
      refine k_callV0 (C := RX12) b zs zk hE (CX12_byteOut l D aC ad zk hc25) mc_X12_byteOut (in8 109 rfl rfl) mi_X12_byteOut ms_X12_byteOut ini_RX12 ok_X12_byteOut (m_recv b hE) ⟨Nat.le_of_ble_eq_true rfl, Nat.le_of_ble_eq_true rfl⟩ rfl hl.1 rfl (k_room _ (by exact Nat.le_of_ble_eq_true rfl)) ⟨Nat.le_refl _, Nat.le_refl _⟩ dX12_lineOf_154 (fun H locs hE => ?_)
      refine lv_aload_n b.1 b.2.1 dX12_lineOf_157 rfl (lv_at hl 0 rfl) ?_
      refine lv_aload_n b.1 b.2.1 dX12_lineOf_158 rfl (lv_at hl 0 rfl) ?_
      refine gM_40 b hE dX12_lineOf_159 ?_
      refine lv_iload b.1 b.2.1 dX12_lineOf_162 (lv_at hl 4 rfl) ?_
      obtain ⟨g27, hf⟩ := oC_s hf
      refine m_lald b hE rfl rfl g27 dX12_lineOf_164 ?_
      obtain ⟨h29, hc28, hf⟩ := oB_s hf
      refine k_callV0 (C := RX12) b zs zk hE (CX12_nameOut l D aC ad zk hc28) mc_X12_nameOut (in8 113 rfl rfl) mi_X12_nameOut ms_X12_nameOut ini_RX12 ok_X12_nameOut (m_recv b hE) ⟨Nat.le_of_ble_eq_true rfl, Nat.le_of_ble_eq_true rfl⟩ rfl hl.1 rfl (k_room _ (by exact Nat.le_of_ble_eq_true rfl)) ⟨Nat.le_refl _, Nat.le_refl _⟩ dX12_lineOf_165 (fun H locs hE => ?_)
      exact wfX12_lineOf_168 b hlk hr zs zk  hf hE (lv_sub hl [0, 1] rfl)
def fX12_lineOf_75  (h : MS) (x1 : Int32) (x2 : Int32) (x3 : Int32) (x4 : Int32) (x5 : Int32) (s0 : Int32) : Option (MS) :=
  if s0 = 0 then (some (h)) else (oC (ix x1 (mlen 104)) (if (mA h 104 (Int32.toNatClampNeg x1)) = 1 then (if (x1 - x1 / 2 * 2) = 1 then (oB (fX12_wordOut h 110 111 116 32 0 0) (fun h35 => fX12_lineOf_114  h35 x1 x2 x3 x4 x5)) else (fX12_lineOf_114  h x1 x2 x3 x4 x5)) else (some (h))))
set_option maxHeartbeats 4000000 in
theorem wfX12_lineOf_75 {args : Array Value} (b : Bd p s m c cX12_lineOf 7 RX12 D aC) (hlk : meth.locks = false) (hr : meth.sig.returnType = none) {Z : State → Prop} (zs : Z s) (zk : ZOK Z (Rg ad)) {hz : MS} {h : MS} {x1 : Int32} {x2 : Int32} {x3 : Int32} {x4 : Int32} {x5 : Int32} {s0 : Int32}  {H : Heap} {locs : List Loc} {ls : Array Slot} (hf : fX12_lineOf_75 h x1 x2 x3 x4 x5 s0 = some hz) (hE : CE (EM D aC ad h) (Rg ad) s H locs) (hl : lv_has ls 7 [(0, .ref (ad 116)), (1, .int x1), (2, .int x2), (3, .int x3), (4, .int x4), (5, .int x5)]) : W p l e (RM 2 47 0 0) s m args below meth c H locs 0 0 (MQ below (PQ (EM D aC ad hz) (Rg ad) none) args s 0 0 (Rg ad)) (F0 m 75 ls [.int s0]) := by
  unfold fX12_lineOf_75 at hf
  refine lv_istore (lv' := [(6, .int s0), (0, .ref (ad 116)), (1, .int x1), (2, .int x2), (3, .int x3), (4, .int x4), (5, .int x5)]) b.1 b.2.1 dX12_lineOf_75 hl (by decide) rfl (fun ls hl => ?_)
  refine lv_iload b.1 b.2.1 dX12_lineOf_77 (lv_at hl 0 rfl) ?_
  refine lv_if_eq (tgt := 92) b.1 b.2.1 dX12_lineOf_79 (by decide) (fun c30 => ?_) (fun c30 => ?_)
  · have hf := oI_t c30 hf
    cases hf
    exact k_vret b hlk hr hE (Nat.le_refl _) (Nat.le_refl _) dX12_lineOf_92
  · have hf := oI_f c30 hf
    refine lv_aload_n b.1 b.2.1 dX12_lineOf_82 rfl (lv_at hl 1 rfl) ?_
    refine gM_219 b hE dX12_lineOf_83 ?_
    refine lv_iload_n b.1 b.2.1 dX12_lineOf_86 rfl (lv_at hl 2 rfl) ?_
    obtain ⟨g31, hf⟩ := oC_s hf
    refine m_iald b hE rfl rfl g31 dX12_lineOf_87 ?_
    refine lv_iconst (v := 1) b.1 b.2.1 dX12_lineOf_88 (by decide) ?_
    refine lv_icmp_eq (tgt := 93) b.1 b.2.1 dX12_lineOf_89 (by decide) (fun c32 => ?_) (fun c32 => ?_)
    · have hf := oI_t c32 hf
      refine lv_iload_n b.1 b.2.1 dX12_lineOf_93 rfl (lv_at hl 2 rfl) ?_
      refine lv_iconst (v := 2) b.1 b.2.1 dX12_lineOf_94 (by decide) ?_
      refine lv_irem b.1 b.2.1 dX12_lineOf_95 (by decide) ?_
      refine lv_iconst (v := 1) b.1 b.2.1 dX12_lineOf_96 (by decide) ?_
      refine lv_icmp_ne (tgt := 114) b.1 b.2.1 dX12_lineOf_97 (by decide) (fun c33 => ?_) (fun c33 => ?_)
      · have hf := oI_f c33 hf
        exact wfX12_lineOf_114 b hlk hr zs zk  hf hE (lv_sub hl [1, 2, 3, 4, 5, 6] rfl)
      · have hf := oI_t c33 hf
        refine lv_aload_n b.1 b.2.1 dX12_lineOf_100 rfl (lv_at hl 1 rfl) ?_
        refine lv_bipush (v := 110) b.1 b.2.1 dX12_lineOf_101 (by decide) ?_
        refine lv_bipush (v := 111) b.1 b.2.1 dX12_lineOf_103 (by decide) ?_
        refine lv_bipush (v := 116) b.1 b.2.1 dX12_lineOf_105 (by decide) ?_
        refine lv_bipush (v := 32) b.1 b.2.1 dX12_lineOf_107 (by decide) ?_
        refine lv_iconst (v := 0) b.1 b.2.1 dX12_lineOf_109 (by decide) ?_
        refine lv_iconst (v := 0) b.1 b.2.1 dX12_lineOf_110 (by decide) ?_
        obtain ⟨h35, hc34, hf⟩ := oB_s hf
        refine k_callV0 (C := RX12) b zs zk hE (CX12_wordOut l D aC ad zk hc34) mc_X12_wordOut (in8 105 rfl rfl) mi_X12_wordOut ms_X12_wordOut ini_RX12 ok_X12_wordOut (m_recv b hE) ⟨Nat.le_of_ble_eq_true rfl, Nat.le_of_ble_eq_true rfl⟩ rfl hl.1 rfl (k_room _ (by exact Nat.le_of_ble_eq_true rfl)) ⟨Nat.le_refl _, Nat.le_refl _⟩ dX12_lineOf_111 (fun H locs hE => ?_)
        exact wfX12_lineOf_114 b hlk hr zs zk  hf hE (lv_sub hl [1, 2, 3, 4, 5, 6] rfl)
    · have hf := oI_f c32 hf
      cases hf
      exact k_vret b hlk hr hE (Nat.le_refl _) (Nat.le_refl _) dX12_lineOf_92
def fX12_lineOf_47  (h : MS) (x1 : Int32) (x2 : Int32) (x3 : Int32) (x4 : Int32) (x5 : Int32) : Option (MS) :=
  if x5 ≤ 1 then (if x4 = 0 then (fX12_lineOf_75  h x1 x2 x3 x4 x5 1) else (fX12_lineOf_75  h x1 x2 x3 x4 x5 0)) else (if (mI h 97) ≤ x4 then (fX12_lineOf_75  h x1 x2 x3 x4 x5 0) else (fX12_lineOf_75  h x1 x2 x3 x4 x5 1))
set_option maxHeartbeats 4000000 in
theorem wfX12_lineOf_47 {args : Array Value} (b : Bd p s m c cX12_lineOf 7 RX12 D aC) (hlk : meth.locks = false) (hr : meth.sig.returnType = none) {Z : State → Prop} (zs : Z s) (zk : ZOK Z (Rg ad)) {hz : MS} {h : MS} {x1 : Int32} {x2 : Int32} {x3 : Int32} {x4 : Int32} {x5 : Int32}  {H : Heap} {locs : List Loc} {ls : Array Slot} (hf : fX12_lineOf_47 h x1 x2 x3 x4 x5 = some hz) (hE : CE (EM D aC ad h) (Rg ad) s H locs) (hl : lv_has ls 7 [(0, .ref (ad 116)), (1, .int x1), (2, .int x2), (3, .int x3), (4, .int x4), (5, .int x5)]) : W p l e (RM 2 47 0 0) s m args below meth c H locs 0 0 (MQ below (PQ (EM D aC ad hz) (Rg ad) none) args s 0 0 (Rg ad)) (F0 m 47 ls []) := by
  unfold fX12_lineOf_47 at hf
  refine lv_iload b.1 b.2.1 dX12_lineOf_47 (lv_at hl 5 rfl) ?_
  refine lv_iconst (v := 1) b.1 b.2.1 dX12_lineOf_49 (by decide) ?_
  refine lv_icmp_le (tgt := 65) b.1 b.2.1 dX12_lineOf_50 (by decide) (fun c36 => ?_) (fun c36 => ?_)
  · have hf := oI_t c36 hf
    refine lv_iload b.1 b.2.1 dX12_lineOf_65 (lv_at hl 4 rfl) ?_
    refine lv_if_ne (tgt := 74) b.1 b.2.1 dX12_lineOf_67 (by decide) (fun c37 => ?_) (fun c37 => ?_)
    · have hf := oI_f c37 hf
      refine lv_iconst (v := 0) b.1 b.2.1 dX12_lineOf_74 (by decide) ?_
      exact wfX12_lineOf_75 b hlk hr zs zk  hf hE (lv_sub hl [0, 1, 2, 3, 4, 5] rfl)
    · have hf := oI_t c37 hf
      refine lv_iconst (v := 1) b.1 b.2.1 dX12_lineOf_70 (by decide) ?_
      refine lv_goto (tgt := 75) b.1 b.2.1 dX12_lineOf_71 (by decide) ?_
      exact wfX12_lineOf_75 b hlk hr zs zk  hf hE (lv_sub hl [0, 1, 2, 3, 4, 5] rfl)
  · have hf := oI_f c36 hf
    refine lv_iload b.1 b.2.1 dX12_lineOf_53 (lv_at hl 4 rfl) ?_
    refine lv_aload_n b.1 b.2.1 dX12_lineOf_55 rfl (lv_at hl 0 rfl) ?_
    refine gM_506 b hE dX12_lineOf_56 ?_
    refine lv_icmp_ge (tgt := 74) b.1 b.2.1 dX12_lineOf_59 (by decide) (fun c38 => ?_) (fun c38 => ?_)
    · have hf := oI_t c38 hf
      refine lv_iconst (v := 0) b.1 b.2.1 dX12_lineOf_74 (by decide) ?_
      exact wfX12_lineOf_75 b hlk hr zs zk  hf hE (lv_sub hl [0, 1, 2, 3, 4, 5] rfl)
    · have hf := oI_f c38 hf
      refine lv_goto (tgt := 70) b.1 b.2.1 dX12_lineOf_62 (by decide) ?_
      refine lv_iconst (v := 1) b.1 b.2.1 dX12_lineOf_70 (by decide) ?_
      refine lv_goto (tgt := 75) b.1 b.2.1 dX12_lineOf_71 (by decide) ?_
      exact wfX12_lineOf_75 b hlk hr zs zk  hf hE (lv_sub hl [0, 1, 2, 3, 4, 5] rfl)
def fX12_lineOf_0  (h : MS) (x1 : Int32) : Option (MS) :=
  oL (x1 / 50) (fun y39 => oL ((x1 / 10) - (x1 / 10) / 5 * 5) (fun y40 => oL ((x1 / 2) - (x1 / 2) / 5 * 5) (fun y41 => oC (ix y39 (mlen 28)) (oL (mA h 28 (Int32.toNatClampNeg y39)) (fun y43 => if y43 ≤ 0 then (if y40 = 0 then (fX12_lineOf_47  h x1 y39 y40 y41 y43) else (fX12_lineOf_75  h x1 y39 y40 y41 y43 0)) else (if (mI h 97) ≤ y40 then (fX12_lineOf_75  h x1 y39 y40 y41 y43 0) else (fX12_lineOf_47  h x1 y39 y40 y41 y43)))))))
set_option maxHeartbeats 4000000 in
theorem wfX12_lineOf_0 {args : Array Value} (b : Bd p s m c cX12_lineOf 7 RX12 D aC) (hlk : meth.locks = false) (hr : meth.sig.returnType = none) {Z : State → Prop} (zs : Z s) (zk : ZOK Z (Rg ad)) {hz : MS} {h : MS} {x1 : Int32}  {H : Heap} {locs : List Loc} {ls : Array Slot} (hf : fX12_lineOf_0 h x1 = some hz) (hE : CE (EM D aC ad h) (Rg ad) s H locs) (hl : lv_has ls 7 [(0, .ref (ad 116)), (1, .int x1)]) : W p l e (RM 2 47 0 0) s m args below meth c H locs 0 0 (MQ below (PQ (EM D aC ad hz) (Rg ad) none) args s 0 0 (Rg ad)) (F0 m 0 ls []) := by
  unfold fX12_lineOf_0 at hf
  refine lv_iload_n b.1 b.2.1 dX12_lineOf_0 rfl (lv_at hl 1 rfl) ?_
  refine lv_bipush (v := 50) b.1 b.2.1 dX12_lineOf_1 (by decide) ?_
  refine lv_idiv b.1 b.2.1 dX12_lineOf_3 (by decide) ?_
  obtain ⟨y39, ey39, hf⟩ := oL_s hf
  refine k_nmI ey39 ?_
  refine lv_istore_n (lv' := [(2, .int y39), (0, .ref (ad 116)), (1, .int x1)]) b.1 b.2.1 dX12_lineOf_4 rfl hl (by decide) rfl (fun ls hl => ?_)
  refine lv_iload_n b.1 b.2.1 dX12_lineOf_5 rfl (lv_at hl 2 rfl) ?_
  refine lv_bipush (v := 10) b.1 b.2.1 dX12_lineOf_6 (by decide) ?_
  refine lv_idiv b.1 b.2.1 dX12_lineOf_8 (by decide) ?_
  refine lv_iconst (v := 5) b.1 b.2.1 dX12_lineOf_9 (by decide) ?_
  refine lv_irem b.1 b.2.1 dX12_lineOf_10 (by decide) ?_
  obtain ⟨y40, ey40, hf⟩ := oL_s hf
  refine k_nmI ey40 ?_
  refine lv_istore_n (lv' := [(3, .int y40), (2, .int y39), (0, .ref (ad 116)), (1, .int x1)]) b.1 b.2.1 dX12_lineOf_11 rfl hl (by decide) rfl (fun ls hl => ?_)
  refine lv_iload_n b.1 b.2.1 dX12_lineOf_12 rfl (lv_at hl 3 rfl) ?_
  refine lv_iconst (v := 2) b.1 b.2.1 dX12_lineOf_13 (by decide) ?_
  refine lv_idiv b.1 b.2.1 dX12_lineOf_14 (by decide) ?_
  refine lv_iconst (v := 5) b.1 b.2.1 dX12_lineOf_15 (by decide) ?_
  refine lv_irem b.1 b.2.1 dX12_lineOf_16 (by decide) ?_
  obtain ⟨y41, ey41, hf⟩ := oL_s hf
  refine k_nmI ey41 ?_
  refine lv_istore (lv' := [(4, .int y41), (3, .int y40), (2, .int y39), (0, .ref (ad 116)), (1, .int x1)]) b.1 b.2.1 dX12_lineOf_17 hl (by decide) rfl (fun ls hl => ?_)
  refine lv_aload_n b.1 b.2.1 dX12_lineOf_19 rfl (lv_at hl 3 rfl) ?_
  refine gM_49 b hE dX12_lineOf_20 ?_
  refine lv_iload_n b.1 b.2.1 dX12_lineOf_23 rfl (lv_at hl 2 rfl) ?_
  obtain ⟨g42, hf⟩ := oC_s hf
  refine m_iald b hE rfl rfl g42 dX12_lineOf_24 ?_
  obtain ⟨y43, ey43, hf⟩ := oL_s hf
  refine k_nmI ey43 ?_
  refine lv_istore (lv' := [(5, .int y43), (4, .int y41), (3, .int y40), (2, .int y39), (0, .ref (ad 116)), (1, .int x1)]) b.1 b.2.1 dX12_lineOf_25 hl (by decide) rfl (fun ls hl => ?_)
  refine lv_iload b.1 b.2.1 dX12_lineOf_27 (lv_at hl 0 rfl) ?_
  refine lv_if_le (tgt := 43) b.1 b.2.1 dX12_lineOf_29 (by decide) (fun c44 => ?_) (fun c44 => ?_)
  · have hf := oI_t c44 hf
    refine lv_iload_n b.1 b.2.1 dX12_lineOf_43 rfl (lv_at hl 2 rfl) ?_
    refine lv_if_ne (tgt := 74) b.1 b.2.1 dX12_lineOf_44 (by decide) (fun c45 => ?_) (fun c45 => ?_)
    · have hf := oI_f c45 hf
      refine lv_iconst (v := 0) b.1 b.2.1 dX12_lineOf_74 (by decide) ?_
      exact wfX12_lineOf_75 b hlk hr zs zk  hf hE (lv_sub hl [4, 5, 3, 2, 1, 0] rfl)
    · have hf := oI_t c45 hf
      exact wfX12_lineOf_47 b hlk hr zs zk  hf hE (lv_sub hl [4, 5, 3, 2, 1, 0] rfl)
  · have hf := oI_f c44 hf
    refine lv_iload_n b.1 b.2.1 dX12_lineOf_32 rfl (lv_at hl 2 rfl) ?_
    refine lv_aload_n b.1 b.2.1 dX12_lineOf_33 rfl (lv_at hl 4 rfl) ?_
    refine gM_506 b hE dX12_lineOf_34 ?_
    refine lv_icmp_ge (tgt := 74) b.1 b.2.1 dX12_lineOf_37 (by decide) (fun c46 => ?_) (fun c46 => ?_)
    · have hf := oI_t c46 hf
      refine lv_iconst (v := 0) b.1 b.2.1 dX12_lineOf_74 (by decide) ?_
      exact wfX12_lineOf_75 b hlk hr zs zk  hf hE (lv_sub hl [4, 5, 3, 2, 1, 0] rfl)
    · have hf := oI_f c46 hf
      refine lv_goto (tgt := 47) b.1 b.2.1 dX12_lineOf_40 (by decide) ?_
      exact wfX12_lineOf_47 b hlk hr zs zk  hf hE (lv_sub hl [4, 5, 3, 2, 1, 0] rfl)
def fX12_lineOf (h : MS) (x1 : Int32) : Option (MS) := fX12_lineOf_0 h x1
set_option maxHeartbeats 4000000 in
theorem CX12_lineOf (l : Launch) (D : va_G) (aC : Nat → ClassId) (ad : Nat → Nat) {Z : State → Prop} (zk : ZOK Z (Rg ad)) {h : MS} {x1 : Int32} {hz : MS} (hf : fX12_lineOf h x1 = some hz) : CM l D aC Z yX12_lineOf cX12_lineOf 7 (none) 2 47 0 0 (EM D aC ad h) [.ref (ad 116), .int x1] (EM D aC ad hz) none (Rg ad) := by
  refine CM.of rfl ?_
  intro p e s m below meth c b hr hlk hin2 zs hE
  refine k_ent (Nat.le_of_ble_eq_true rfl) (fun ls hl => ?_)
  exact wfX12_lineOf_0 b hlk hr zs zk hf hE (lv_sub hl [0, 1] rfl)
end
