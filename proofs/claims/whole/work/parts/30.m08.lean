section
variable {p : Program} {l : Launch} {e : Env} {s : State} {m : MethodId} {below : List Frame} {meth : Method} {c : Code} {D : va_G} {aC : Nat → ClassId} {ad : Nat → Nat}
theorem dX12_common_0 : decode cX12_common 0 = .ok (.lload_n 0, 1) := by decide +kernel
theorem dX12_common_1 : decode cX12_common 1 = .ok (.lconst 0, 1) := by decide +kernel
theorem dX12_common_2 : decode cX12_common 2 = .ok (.lcmp, 1) := by decide +kernel
theorem dX12_common_3 : decode cX12_common 3 = .ok (.ifCond .ge 8, 3) := by decide +kernel
theorem dX12_common_6 : decode cX12_common 6 = .ok (.lload_n 0, 1) := by decide +kernel
theorem dX12_common_7 : decode cX12_common 7 = .ok (.lneg, 1) := by decide +kernel
theorem dX12_common_8 : decode cX12_common 8 = .ok (.goto 4, 3) := by decide +kernel
theorem dX12_common_11 : decode cX12_common 11 = .ok (.lload_n 0, 1) := by decide +kernel
theorem dX12_common_12 : decode cX12_common 12 = .ok (.lstore 4, 2) := by decide +kernel
theorem dX12_common_14 : decode cX12_common 14 = .ok (.lload_n 2, 1) := by decide +kernel
theorem dX12_common_15 : decode cX12_common 15 = .ok (.lstore 6, 2) := by decide +kernel
theorem dX12_common_17 : decode cX12_common 17 = .ok (.lload 4, 2) := by decide +kernel
theorem dX12_common_19 : decode cX12_common 19 = .ok (.lconst 0, 1) := by decide +kernel
theorem dX12_common_20 : decode cX12_common 20 = .ok (.lcmp, 1) := by decide +kernel
theorem dX12_common_21 : decode cX12_common 21 = .ok (.ifCond .eq 21, 3) := by decide +kernel
theorem dX12_common_24 : decode cX12_common 24 = .ok (.lload 6, 2) := by decide +kernel
theorem dX12_common_26 : decode cX12_common 26 = .ok (.lload 4, 2) := by decide +kernel
theorem dX12_common_28 : decode cX12_common 28 = .ok (.lrem, 1) := by decide +kernel
theorem dX12_common_29 : decode cX12_common 29 = .ok (.lstore 8, 2) := by decide +kernel
theorem dX12_common_31 : decode cX12_common 31 = .ok (.lload 4, 2) := by decide +kernel
theorem dX12_common_33 : decode cX12_common 33 = .ok (.lstore 6, 2) := by decide +kernel
theorem dX12_common_35 : decode cX12_common 35 = .ok (.lload 8, 2) := by decide +kernel
theorem dX12_common_37 : decode cX12_common 37 = .ok (.lstore 4, 2) := by decide +kernel
theorem dX12_common_39 : decode cX12_common 39 = .ok (.goto (-22), 3) := by decide +kernel
theorem dX12_common_42 : decode cX12_common 42 = .ok (.lload 6, 2) := by decide +kernel
theorem dX12_common_44 : decode cX12_common 44 = .ok (.lreturn, 1) := by decide +kernel
def fX12_common_17F (k17 : Int64 → Int64 → Option (Int64)) (x4 : Int64) (x6 : Int64) : Option (Int64) :=
  if (lg_cmp x4 0) = 0 then (some (x6)) else (oC (decide (¬ x4 = 0)) (oL (x6 - x6 / x4 * x4) (fun y3 => k17 y3 x4)))
set_option maxHeartbeats 4000000 in
theorem wfX12_common_17F {E : Heap → Prop} {A : Nat → Prop} {args : Array Value} (b : Bd p s m c cX12_common 10 RX12 D aC) (hlk : meth.locks = false) (hr : meth.sig.returnType = some .long) {Z : State → Prop} (zs : Z s) (zk : ZOK Z A) {rz : Int64} {k17 : Int64 → Int64 → Option (Int64)} (H17 : ∀ (x4 : Int64) (x6 : Int64), ∀ (H : Heap) (locs : List Loc) (ls : Array Slot), k17 x4 x6 = some rz → CE E A s H locs → lv_has ls 10 [(4, .long x4), (6, .long x6)] → W p l e (RM 0 0 0 0) s m args below meth c H locs 0 0 (MQ below (PQ E A (some (.long rz))) args s 0 0 A) (F0 m 17 ls [])) {x4 : Int64} {x6 : Int64}  {H : Heap} {locs : List Loc} {ls : Array Slot} (hf : fX12_common_17F k17 x4 x6 = some rz) (hE : CE E A s H locs) (hl : lv_has ls 10 [(4, .long x4), (6, .long x6)]) : W p l e (RM 0 0 0 0) s m args below meth c H locs 0 0 (MQ below (PQ E A (some (.long rz))) args s 0 0 A) (F0 m 17 ls []) := by
  unfold fX12_common_17F at hf
  refine lv_lload b.1 b.2.1 dX12_common_17 (lv_at hl 0 rfl) ?_
  refine lv_lconst (v := 0) b.1 b.2.1 dX12_common_19 rfl ?_
  refine W.lcmp b.1 b.2.1 dX12_common_20 ?_
  refine lv_if_eq (tgt := 42) b.1 b.2.1 dX12_common_21 (by decide) (fun c1 => ?_) (fun c1 => ?_)
  · have hf := oI_t c1 hf
    refine lv_lload b.1 b.2.1 dX12_common_42 (lv_at hl 1 rfl) ?_
    cases hf
    exact k_lret b hlk hr hE (Nat.le_refl _) (Nat.le_refl _) dX12_common_44
  · have hf := oI_f c1 hf
    refine lv_lload b.1 b.2.1 dX12_common_24 (lv_at hl 1 rfl) ?_
    refine lv_lload b.1 b.2.1 dX12_common_26 (lv_at hl 0 rfl) ?_
    obtain ⟨g2, hf⟩ := oC_s hf
    refine lv_lrem b.1 b.2.1 dX12_common_28 (of_decide_eq_true g2) ?_
    obtain ⟨y3, ey3, hf⟩ := oL_s hf
    refine k_nmL ey3 ?_
    refine lv_lstore (lv' := [(8, .long y3), (4, .long x4), (6, .long x6)]) b.1 b.2.1 dX12_common_29 hl (by decide) rfl (fun ls hl => ?_)
    have hl := lv_sub (l' := [(8, .long y3), (4, .long x4)]) hl [0, 1] rfl
    refine lv_lload b.1 b.2.1 dX12_common_31 (lv_at hl 1 rfl) ?_
    refine lv_lstore (lv' := [(6, .long x4), (8, .long y3), (4, .long x4)]) b.1 b.2.1 dX12_common_33 hl (by decide) rfl (fun ls hl => ?_)
    have hl := lv_sub (l' := [(6, .long x4), (8, .long y3)]) hl [0, 1] rfl
    refine lv_lload b.1 b.2.1 dX12_common_35 (lv_at hl 1 rfl) ?_
    refine lv_lstore (lv' := [(4, .long y3), (6, .long x4), (8, .long y3)]) b.1 b.2.1 dX12_common_37 hl (by decide) rfl (fun ls hl => ?_)
    have hl := lv_sub (l' := [(4, .long y3), (6, .long x4)]) hl [0, 1] rfl
    refine lv_goto (tgt := 17) b.1 b.2.1 dX12_common_39 (by decide) ?_
    exact H17 y3 x4 _ _ _ hf hE (lv_sub hl [0, 1] rfl)
def fX12_common_17  : Nat → Int64 → Int64 → Option (Int64)
  | 0 => fun _ _ => none
  | n + 1 => fX12_common_17F  (fX12_common_17  n)
set_option maxHeartbeats 4000000 in
theorem wfX12_common_17 {E : Heap → Prop} {A : Nat → Prop} {args : Array Value} (b : Bd p s m c cX12_common 10 RX12 D aC) (hlk : meth.locks = false) (hr : meth.sig.returnType = some .long) {Z : State → Prop} (zs : Z s) (zk : ZOK Z A) {rz : Int64} : ∀ n : Nat, ∀ (x4 : Int64) (x6 : Int64), ∀ (H : Heap) (locs : List Loc) (ls : Array Slot), fX12_common_17  n x4 x6 = some rz → CE E A s H locs → lv_has ls 10 [(4, .long x4), (6, .long x6)] → W p l e (RM 0 0 0 0) s m args below meth c H locs 0 0 (MQ below (PQ E A (some (.long rz))) args s 0 0 A) (F0 m 17 ls []) := by
  intro n
  induction n with
  | zero =>
    intro x4 x6 H locs ls hf
    have hf : (none : Option (Int64)) = some _ := hf
    cases hf
  | succ n ih =>
    intro x4 x6 H locs ls hf hE hl
    exact wfX12_common_17F b hlk hr zs zk  ih hf hE hl
def fX12_common_12  (x2 : Int64) (s0 : Int64) : Option (Int64) :=
  fX12_common_17  FU s0 x2
set_option maxHeartbeats 4000000 in
theorem wfX12_common_12 {E : Heap → Prop} {A : Nat → Prop} {args : Array Value} (b : Bd p s m c cX12_common 10 RX12 D aC) (hlk : meth.locks = false) (hr : meth.sig.returnType = some .long) {Z : State → Prop} (zs : Z s) (zk : ZOK Z A) {rz : Int64} {x2 : Int64} {s0 : Int64}  {H : Heap} {locs : List Loc} {ls : Array Slot} (hf : fX12_common_12 x2 s0 = some rz) (hE : CE E A s H locs) (hl : lv_has ls 10 [(2, .long x2)]) : W p l e (RM 0 0 0 0) s m args below meth c H locs 0 0 (MQ below (PQ E A (some (.long rz))) args s 0 0 A) (F0 m 12 ls [.long s0]) := by
  unfold fX12_common_12 at hf
  refine lv_lstore (lv' := [(4, .long s0), (2, .long x2)]) b.1 b.2.1 dX12_common_12 hl (by decide) rfl (fun ls hl => ?_)
  refine lv_lload_n b.1 b.2.1 dX12_common_14 rfl (lv_at hl 1 rfl) ?_
  refine lv_lstore (lv' := [(6, .long x2), (4, .long s0), (2, .long x2)]) b.1 b.2.1 dX12_common_15 hl (by decide) rfl (fun ls hl => ?_)
  have hl := lv_sub (l' := [(6, .long x2), (4, .long s0)]) hl [0, 1] rfl
  exact wfX12_common_17 b hlk hr zs zk  FU s0 x2 _ _ _ hf hE (lv_sub hl [1, 0] rfl)
def fX12_common_0  (x0 : Int64) (x2 : Int64) : Option (Int64) :=
  if 0 ≤ (lg_cmp x0 0) then (fX12_common_12  x2 x0) else (fX12_common_12  x2 (-x0))
set_option maxHeartbeats 4000000 in
theorem wfX12_common_0 {E : Heap → Prop} {A : Nat → Prop} {args : Array Value} (b : Bd p s m c cX12_common 10 RX12 D aC) (hlk : meth.locks = false) (hr : meth.sig.returnType = some .long) {Z : State → Prop} (zs : Z s) (zk : ZOK Z A) {rz : Int64} {x0 : Int64} {x2 : Int64}  {H : Heap} {locs : List Loc} {ls : Array Slot} (hf : fX12_common_0 x0 x2 = some rz) (hE : CE E A s H locs) (hl : lv_has ls 10 [(0, .long x0), (2, .long x2)]) : W p l e (RM 0 0 0 0) s m args below meth c H locs 0 0 (MQ below (PQ E A (some (.long rz))) args s 0 0 A) (F0 m 0 ls []) := by
  unfold fX12_common_0 at hf
  refine lv_lload_n b.1 b.2.1 dX12_common_0 rfl (lv_at hl 0 rfl) ?_
  refine lv_lconst (v := 0) b.1 b.2.1 dX12_common_1 rfl ?_
  refine W.lcmp b.1 b.2.1 dX12_common_2 ?_
  refine lv_if_ge (tgt := 11) b.1 b.2.1 dX12_common_3 (by decide) (fun c4 => ?_) (fun c4 => ?_)
  · have hf := oI_t c4 hf
    refine lv_lload_n b.1 b.2.1 dX12_common_11 rfl (lv_at hl 0 rfl) ?_
    exact wfX12_common_12 b hlk hr zs zk  hf hE (lv_sub hl [1] rfl)
  · have hf := oI_f c4 hf
    refine lv_lload_n b.1 b.2.1 dX12_common_6 rfl (lv_at hl 0 rfl) ?_
    refine lv_lneg b.1 b.2.1 dX12_common_7 ?_
    refine lv_goto (tgt := 12) b.1 b.2.1 dX12_common_8 (by decide) ?_
    exact wfX12_common_12 b hlk hr zs zk  hf hE (lv_sub hl [1] rfl)
def fX12_common (x0 : Int64) (x2 : Int64) : Option (Int64) := fX12_common_0 x0 x2
set_option maxHeartbeats 4000000 in
theorem CX12_common (l : Launch) (D : va_G) (aC : Nat → ClassId) {E : Heap → Prop} {A : Nat → Prop} {Z : State → Prop} (zk : ZOK Z A) {x0 : Int64} {x2 : Int64} {rz : Int64} (hf : fX12_common x0 x2 = some rz) : CM l D aC Z yX12_common cX12_common 10 (some .long) 0 0 0 0 E [.long x0, .long x2] E (some (.long rz)) A := by
  refine CM.of rfl ?_
  intro p e s m below meth c b hr hlk hin2 zs hE
  refine k_ent (Nat.le_of_ble_eq_true rfl) (fun ls hl => ?_)
  exact wfX12_common_0 b hlk hr zs zk hf hE (lv_sub hl [0, 1] rfl)
theorem dX12_lowest_0 : decode cX12_lowest 0 = .ok (.lload_n 1, 1) := by decide +kernel
theorem dX12_lowest_1 : decode cX12_lowest 1 = .ok (.lload_n 3, 1) := by decide +kernel
theorem dX12_lowest_2 : decode cX12_lowest 2 = .ok (.invokestatic 448, 3) := by decide +kernel
theorem dX12_lowest_5 : decode cX12_lowest 5 = .ok (.lstore 5, 2) := by decide +kernel
theorem dX12_lowest_7 : decode cX12_lowest 7 = .ok (.aload_n 0, 1) := by decide +kernel
theorem dX12_lowest_8 : decode cX12_lowest 8 = .ok (.lload_n 1, 1) := by decide +kernel
theorem dX12_lowest_9 : decode cX12_lowest 9 = .ok (.lload 5, 2) := by decide +kernel
theorem dX12_lowest_11 : decode cX12_lowest 11 = .ok (.ldiv, 1) := by decide +kernel
theorem dX12_lowest_12 : decode cX12_lowest 12 = .ok (.putfield 452, 3) := by decide +kernel
theorem dX12_lowest_15 : decode cX12_lowest 15 = .ok (.aload_n 0, 1) := by decide +kernel
theorem dX12_lowest_16 : decode cX12_lowest 16 = .ok (.lload_n 3, 1) := by decide +kernel
theorem dX12_lowest_17 : decode cX12_lowest 17 = .ok (.lload 5, 2) := by decide +kernel
theorem dX12_lowest_19 : decode cX12_lowest 19 = .ok (.ldiv, 1) := by decide +kernel
theorem dX12_lowest_20 : decode cX12_lowest 20 = .ok (.putfield 456, 3) := by decide +kernel
theorem dX12_lowest_23 : decode cX12_lowest 23 = .ok (.aload_n 0, 1) := by decide +kernel
theorem dX12_lowest_24 : decode cX12_lowest 24 = .ok (.getfield 452, 3) := by decide +kernel
theorem dX12_lowest_27 : decode cX12_lowest 27 = .ok (.ldc2_w 459, 3) := by decide +kernel
theorem dX12_lowest_30 : decode cX12_lowest 30 = .ok (.lcmp, 1) := by decide +kernel
theorem dX12_lowest_31 : decode cX12_lowest 31 = .ok (.ifCond .gt 25, 3) := by decide +kernel
theorem dX12_lowest_34 : decode cX12_lowest 34 = .ok (.aload_n 0, 1) := by decide +kernel
theorem dX12_lowest_35 : decode cX12_lowest 35 = .ok (.getfield 452, 3) := by decide +kernel
theorem dX12_lowest_38 : decode cX12_lowest 38 = .ok (.ldc2_w 461, 3) := by decide +kernel
theorem dX12_lowest_41 : decode cX12_lowest 41 = .ok (.lcmp, 1) := by decide +kernel
theorem dX12_lowest_42 : decode cX12_lowest 42 = .ok (.ifCond .lt 14, 3) := by decide +kernel
theorem dX12_lowest_45 : decode cX12_lowest 45 = .ok (.aload_n 0, 1) := by decide +kernel
theorem dX12_lowest_46 : decode cX12_lowest 46 = .ok (.getfield 456, 3) := by decide +kernel
theorem dX12_lowest_49 : decode cX12_lowest 49 = .ok (.ldc2_w 459, 3) := by decide +kernel
theorem dX12_lowest_52 : decode cX12_lowest 52 = .ok (.lcmp, 1) := by decide +kernel
theorem dX12_lowest_53 : decode cX12_lowest 53 = .ok (.ifCond .le 8, 3) := by decide +kernel
theorem dX12_lowest_56 : decode cX12_lowest 56 = .ok (.aload_n 0, 1) := by decide +kernel
theorem dX12_lowest_57 : decode cX12_lowest 57 = .ok (.iconst 1, 1) := by decide +kernel
theorem dX12_lowest_58 : decode cX12_lowest 58 = .ok (.putfield 463, 3) := by decide +kernel
theorem dX12_lowest_61 : decode cX12_lowest 61 = .ok (.return_, 1) := by decide +kernel
def fX12_lowest_56  (h : MS) : Option (MS) :=
  oL (mSI h 79 1) (fun h1 => some (h1))
set_option maxHeartbeats 4000000 in
theorem wfX12_lowest_56 {args : Array Value} (b : Bd p s m c cX12_lowest 7 RX12 D aC) (hlk : meth.locks = false) (hr : meth.sig.returnType = none) {Z : State → Prop} (zs : Z s) (zk : ZOK Z (Rg ad)) {hz : MS} {h : MS}  {H : Heap} {locs : List Loc} {ls : Array Slot} (hf : fX12_lowest_56 h = some hz) (hE : CE (EM D aC ad h) (Rg ad) s H locs) (hl : lv_has ls 7 [(0, .ref (ad 116))]) : W p l e (RM 1 29 0 0) s m args below meth c H locs 0 0 (MQ below (PQ (EM D aC ad hz) (Rg ad) none) args s 0 0 (Rg ad)) (F0 m 56 ls []) := by
  unfold fX12_lowest_56 at hf
  refine lv_aload_n b.1 b.2.1 dX12_lowest_56 rfl (lv_at hl 0 rfl) ?_
  refine lv_iconst (v := 1) b.1 b.2.1 dX12_lowest_57 (by decide) ?_
  obtain ⟨h1, eh1, hf⟩ := oL_s hf
  refine pM_463 b hE (by decide) eh1 dX12_lowest_58 (fun H locs hE => ?_)
  cases hf
  exact k_vret b hlk hr hE (Nat.le_refl _) (Nat.le_refl _) dX12_lowest_61
def fX12_lowest_0  (h : MS) (x1 : Int64) (x3 : Int64) : Option (MS) :=
  oB (fX12_common x1 x3) (fun r3 => oC (decide (¬ r3 = 0)) (oL (mSL h 80 (x1 / r3)) (fun h5 => oC (decide (¬ r3 = 0)) (oL (mSL h5 81 (x3 / r3)) (fun h7 => if 0 < (lg_cmp (mL h7 80) 1000000000) then (fX12_lowest_56  h7) else (if (lg_cmp (mL h7 80) (-1000000000)) < 0 then (fX12_lowest_56  h7) else (if (lg_cmp (mL h7 81) 1000000000) ≤ 0 then (some (h7)) else (fX12_lowest_56  h7))))))))
set_option maxHeartbeats 4000000 in
theorem wfX12_lowest_0 {args : Array Value} (b : Bd p s m c cX12_lowest 7 RX12 D aC) (hlk : meth.locks = false) (hr : meth.sig.returnType = none) {Z : State → Prop} (zs : Z s) (zk : ZOK Z (Rg ad)) {hz : MS} {h : MS} {x1 : Int64} {x3 : Int64}  {H : Heap} {locs : List Loc} {ls : Array Slot} (hf : fX12_lowest_0 h x1 x3 = some hz) (hE : CE (EM D aC ad h) (Rg ad) s H locs) (hl : lv_has ls 7 [(0, .ref (ad 116)), (1, .long x1), (3, .long x3)]) : W p l e (RM 1 29 0 0) s m args below meth c H locs 0 0 (MQ below (PQ (EM D aC ad hz) (Rg ad) none) args s 0 0 (Rg ad)) (F0 m 0 ls []) := by
  unfold fX12_lowest_0 at hf
  refine lv_lload_n b.1 b.2.1 dX12_lowest_0 rfl (lv_at hl 1 rfl) ?_
  refine lv_lload_n b.1 b.2.1 dX12_lowest_1 rfl (lv_at hl 2 rfl) ?_
  obtain ⟨r3, hc2, hf⟩ := oB_s hf
  refine k_callS0 b zs zk hE (CX12_common l D aC zk hc2) mc_X12_common (in8 36 rfl rfl) mt_X12_common ini_RX12 ok_X12_common ⟨Nat.le_of_ble_eq_true rfl, Nat.le_of_ble_eq_true rfl⟩ rfl hl.1 rfl (k_room _ (by exact Nat.le_of_ble_eq_true rfl)) ⟨Nat.le_refl _, Nat.le_refl _⟩ dX12_lowest_2 (fun H locs hE => ?_)
  refine lv_lstore (lv' := [(5, .long r3), (0, .ref (ad 116)), (1, .long x1), (3, .long x3)]) b.1 b.2.1 dX12_lowest_5 hl (by decide) rfl (fun ls hl => ?_)
  refine lv_aload_n b.1 b.2.1 dX12_lowest_7 rfl (lv_at hl 1 rfl) ?_
  refine lv_lload_n b.1 b.2.1 dX12_lowest_8 rfl (lv_at hl 2 rfl) ?_
  refine lv_lload b.1 b.2.1 dX12_lowest_9 (lv_at hl 0 rfl) ?_
  obtain ⟨g4, hf⟩ := oC_s hf
  refine lv_ldiv b.1 b.2.1 dX12_lowest_11 (of_decide_eq_true g4) ?_
  obtain ⟨h5, eh5, hf⟩ := oL_s hf
  refine pM_452 b hE eh5 dX12_lowest_12 (fun H locs hE => ?_)
  refine lv_aload_n b.1 b.2.1 dX12_lowest_15 rfl (lv_at hl 1 rfl) ?_
  refine lv_lload_n b.1 b.2.1 dX12_lowest_16 rfl (lv_at hl 3 rfl) ?_
  refine lv_lload b.1 b.2.1 dX12_lowest_17 (lv_at hl 0 rfl) ?_
  obtain ⟨g6, hf⟩ := oC_s hf
  refine lv_ldiv b.1 b.2.1 dX12_lowest_19 (of_decide_eq_true g6) ?_
  obtain ⟨h7, eh7, hf⟩ := oL_s hf
  refine pM_456 b hE eh7 dX12_lowest_20 (fun H locs hE => ?_)
  refine lv_aload_n b.1 b.2.1 dX12_lowest_23 rfl (lv_at hl 1 rfl) ?_
  refine gM_452 b hE dX12_lowest_24 ?_
  refine k_ldc2 (v := 1000000000) b (in8 39 rfl rfl) dX12_lowest_27 ?_
  refine W.lcmp b.1 b.2.1 dX12_lowest_30 ?_
  refine lv_if_gt (tgt := 56) b.1 b.2.1 dX12_lowest_31 (by decide) (fun c8 => ?_) (fun c8 => ?_)
  · have hf := oI_t c8 hf
    exact wfX12_lowest_56 b hlk hr zs zk  hf hE (lv_sub hl [1] rfl)
  · have hf := oI_f c8 hf
    refine lv_aload_n b.1 b.2.1 dX12_lowest_34 rfl (lv_at hl 1 rfl) ?_
    refine gM_452 b hE dX12_lowest_35 ?_
    refine k_ldc2 (v := (-1000000000)) b (in8 40 rfl rfl) dX12_lowest_38 ?_
    refine W.lcmp b.1 b.2.1 dX12_lowest_41 ?_
    refine lv_if_lt (tgt := 56) b.1 b.2.1 dX12_lowest_42 (by decide) (fun c9 => ?_) (fun c9 => ?_)
    · have hf := oI_t c9 hf
      exact wfX12_lowest_56 b hlk hr zs zk  hf hE (lv_sub hl [1] rfl)
    · have hf := oI_f c9 hf
      refine lv_aload_n b.1 b.2.1 dX12_lowest_45 rfl (lv_at hl 1 rfl) ?_
      refine gM_456 b hE dX12_lowest_46 ?_
      refine k_ldc2 (v := 1000000000) b (in8 39 rfl rfl) dX12_lowest_49 ?_
      refine W.lcmp b.1 b.2.1 dX12_lowest_52 ?_
      refine lv_if_le (tgt := 61) b.1 b.2.1 dX12_lowest_53 (by decide) (fun c10 => ?_) (fun c10 => ?_)
      · have hf := oI_t c10 hf
        cases hf
        exact k_vret b hlk hr hE (Nat.le_refl _) (Nat.le_refl _) dX12_lowest_61
      · have hf := oI_f c10 hf
        exact wfX12_lowest_56 b hlk hr zs zk  hf hE (lv_sub hl [1] rfl)
def fX12_lowest (h : MS) (x1 : Int64) (x3 : Int64) : Option (MS) := fX12_lowest_0 h x1 x3
set_option maxHeartbeats 4000000 in
theorem CX12_lowest (l : Launch) (D : va_G) (aC : Nat → ClassId) (ad : Nat → Nat) {Z : State → Prop} (zk : ZOK Z (Rg ad)) {h : MS} {x1 : Int64} {x3 : Int64} {hz : MS} (hf : fX12_lowest h x1 x3 = some hz) : CM l D aC Z yX12_lowest cX12_lowest 7 (none) 1 29 0 0 (EM D aC ad h) [.ref (ad 116), .long x1, .long x3] (EM D aC ad hz) none (Rg ad) := by
  refine CM.of rfl ?_
  intro p e s m below meth c b hr hlk hin2 zs hE
  refine k_ent (Nat.le_of_ble_eq_true rfl) (fun ls hl => ?_)
  exact wfX12_lowest_0 b hlk hr zs zk hf hE (lv_sub hl [0, 1, 2] rfl)
theorem dX12_personOf_0 : decode cX12_personOf 0 = .ok (.iload_n 0, 1) := by decide +kernel
theorem dX12_personOf_1 : decode cX12_personOf 1 = .ok (.bipush 10, 2) := by decide +kernel
theorem dX12_personOf_3 : decode cX12_personOf 3 = .ok (.if_icmp .lt 10, 3) := by decide +kernel
theorem dX12_personOf_6 : decode cX12_personOf 6 = .ok (.iload_n 0, 1) := by decide +kernel
theorem dX12_personOf_7 : decode cX12_personOf 7 = .ok (.bipush 10, 2) := by decide +kernel
theorem dX12_personOf_9 : decode cX12_personOf 9 = .ok (.isub, 1) := by decide +kernel
theorem dX12_personOf_10 : decode cX12_personOf 10 = .ok (.goto 6, 3) := by decide +kernel
theorem dX12_personOf_13 : decode cX12_personOf 13 = .ok (.aload_n 1, 1) := by decide +kernel
theorem dX12_personOf_14 : decode cX12_personOf 14 = .ok (.iload_n 0, 1) := by decide +kernel
theorem dX12_personOf_15 : decode cX12_personOf 15 = .ok (.iaload, 1) := by decide +kernel
theorem dX12_personOf_16 : decode cX12_personOf 16 = .ok (.ireturn, 1) := by decide +kernel
def fX12_personOf_0 (x1 : Nat)  (h : MS) (x0 : Int32) : Option (Int32) :=
  if x0 < 10 then (oC (ix x0 (mlen x1)) (some ((mA h x1 (Int32.toNatClampNeg x0))))) else (some ((x0 - 10)))
set_option maxHeartbeats 4000000 in
theorem wfX12_personOf_0 {args : Array Value} (b : Bd p s m c cX12_personOf 2 RX12 D aC) (hlk : meth.locks = false) (hr : meth.sig.returnType = some .int) {Z : State → Prop} (zs : Z s) (zk : ZOK Z (Rg ad)) {x1 : Nat} (hka_x1 : mk x1 = 2 ∧ mak x1 = 1) {rz : Int32} {h : MS} {x0 : Int32}  {H : Heap} {locs : List Loc} {ls : Array Slot} (hf : fX12_personOf_0 x1 h x0 = some rz) (hE : CE (EM D aC ad h) (Rg ad) s H locs) (hl : lv_has ls 2 [(0, .int x0), (1, .ref (ad x1))]) : W p l e (RM 0 0 0 0) s m args below meth c H locs 0 0 (MQ below (PQ (EM D aC ad h) (Rg ad) (some (.int rz))) args s 0 0 (Rg ad)) (F0 m 0 ls []) := by
  unfold fX12_personOf_0 at hf
  refine lv_iload_n b.1 b.2.1 dX12_personOf_0 rfl (lv_at hl 0 rfl) ?_
  refine lv_bipush (v := 10) b.1 b.2.1 dX12_personOf_1 (by decide) ?_
  refine lv_icmp_lt (tgt := 13) b.1 b.2.1 dX12_personOf_3 (by decide) (fun c1 => ?_) (fun c1 => ?_)
  · have hf := oI_t c1 hf
    refine lv_aload_n b.1 b.2.1 dX12_personOf_13 rfl (lv_at hl 1 rfl) ?_
    refine lv_iload_n b.1 b.2.1 dX12_personOf_14 rfl (lv_at hl 0 rfl) ?_
    obtain ⟨g2, hf⟩ := oC_s hf
    refine m_iald b hE hka_x1.1 hka_x1.2 g2 dX12_personOf_15 ?_
    cases hf
    exact k_iret b hlk hr hE (Nat.le_refl _) (Nat.le_refl _) dX12_personOf_16
  · have hf := oI_f c1 hf
    refine lv_iload_n b.1 b.2.1 dX12_personOf_6 rfl (lv_at hl 0 rfl) ?_
    refine lv_bipush (v := 10) b.1 b.2.1 dX12_personOf_7 (by decide) ?_
    refine lv_isub b.1 b.2.1 dX12_personOf_9 ?_
    refine lv_goto (tgt := 16) b.1 b.2.1 dX12_personOf_10 (by decide) ?_
    cases hf
    exact k_iret b hlk hr hE (Nat.le_refl _) (Nat.le_refl _) dX12_personOf_16
def fX12_personOf (h : MS) (x0 : Int32) (x1 : Nat) : Option (Int32) := oC ((decide (mk x1 = 2) && decide (mak x1 = 1))) (fX12_personOf_0 x1 h x0)
set_option maxHeartbeats 4000000 in
theorem CX12_personOf (l : Launch) (D : va_G) (aC : Nat → ClassId) (ad : Nat → Nat) {Z : State → Prop} (zk : ZOK Z (Rg ad)) {h : MS} {x0 : Int32} {x1 : Nat} {rz : Int32} (hf : fX12_personOf h x0 x1 = some rz) : CM l D aC Z yX12_personOf cX12_personOf 2 (some .int) 0 0 0 0 (EM D aC ad h) [.int x0, .ref (ad x1)] (EM D aC ad h) (some (.int rz)) (Rg ad) := by
  refine CM.of rfl ?_
  intro p e s m below meth c b hr hlk hin2 zs hE
  obtain ⟨hka, hf⟩ := oC_s hf
  have hka_x1 : mk x1 = 2 ∧ mak x1 = 1 := by simpa using hka
  refine k_ent (Nat.le_of_ble_eq_true rfl) (fun ls hl => ?_)
  exact wfX12_personOf_0 b hlk hr zs zk hka_x1 hf hE (lv_sub hl [0, 1] rfl)
theorem dX12_join_0 : decode cX12_join 0 = .ok (.iload_n 1, 1) := by decide +kernel
theorem dX12_join_1 : decode cX12_join 1 = .ok (.iconst 5, 1) := by decide +kernel
theorem dX12_join_2 : decode cX12_join 2 = .ok (.if_icmp .ne 19, 3) := by decide +kernel
theorem dX12_join_5 : decode cX12_join 5 = .ok (.aload_n 0, 1) := by decide +kernel
theorem dX12_join_6 : decode cX12_join 6 = .ok (.lload_n 2, 1) := by decide +kernel
theorem dX12_join_7 : decode cX12_join 7 = .ok (.lload 6, 2) := by decide +kernel
theorem dX12_join_9 : decode cX12_join 9 = .ok (.lmul, 1) := by decide +kernel
theorem dX12_join_10 : decode cX12_join 10 = .ok (.lload 4, 2) := by decide +kernel
theorem dX12_join_12 : decode cX12_join 12 = .ok (.lload 8, 2) := by decide +kernel
theorem dX12_join_14 : decode cX12_join 14 = .ok (.lmul, 1) := by decide +kernel
theorem dX12_join_15 : decode cX12_join 15 = .ok (.invokevirtual 466, 3) := by decide +kernel
theorem dX12_join_18 : decode cX12_join 18 = .ok (.goto 40, 3) := by decide +kernel
theorem dX12_join_21 : decode cX12_join 21 = .ok (.aload_n 0, 1) := by decide +kernel
theorem dX12_join_22 : decode cX12_join 22 = .ok (.iload_n 1, 1) := by decide +kernel
theorem dX12_join_23 : decode cX12_join 23 = .ok (.iconst 3, 1) := by decide +kernel
theorem dX12_join_24 : decode cX12_join 24 = .ok (.if_icmp .ne 16, 3) := by decide +kernel
theorem dX12_join_27 : decode cX12_join 27 = .ok (.lload_n 2, 1) := by decide +kernel
theorem dX12_join_28 : decode cX12_join 28 = .ok (.lload 8, 2) := by decide +kernel
theorem dX12_join_30 : decode cX12_join 30 = .ok (.lmul, 1) := by decide +kernel
theorem dX12_join_31 : decode cX12_join 31 = .ok (.lload 6, 2) := by decide +kernel
theorem dX12_join_33 : decode cX12_join 33 = .ok (.lload 4, 2) := by decide +kernel
theorem dX12_join_35 : decode cX12_join 35 = .ok (.lmul, 1) := by decide +kernel
theorem dX12_join_36 : decode cX12_join 36 = .ok (.ladd, 1) := by decide +kernel
theorem dX12_join_37 : decode cX12_join 37 = .ok (.goto 13, 3) := by decide +kernel
theorem dX12_join_40 : decode cX12_join 40 = .ok (.lload_n 2, 1) := by decide +kernel
theorem dX12_join_41 : decode cX12_join 41 = .ok (.lload 8, 2) := by decide +kernel
theorem dX12_join_43 : decode cX12_join 43 = .ok (.lmul, 1) := by decide +kernel
theorem dX12_join_44 : decode cX12_join 44 = .ok (.lload 6, 2) := by decide +kernel
theorem dX12_join_46 : decode cX12_join 46 = .ok (.lload 4, 2) := by decide +kernel
theorem dX12_join_48 : decode cX12_join 48 = .ok (.lmul, 1) := by decide +kernel
theorem dX12_join_49 : decode cX12_join 49 = .ok (.lsub, 1) := by decide +kernel
theorem dX12_join_50 : decode cX12_join 50 = .ok (.lload 4, 2) := by decide +kernel
theorem dX12_join_52 : decode cX12_join 52 = .ok (.lload 8, 2) := by decide +kernel
theorem dX12_join_54 : decode cX12_join 54 = .ok (.lmul, 1) := by decide +kernel
theorem dX12_join_55 : decode cX12_join 55 = .ok (.invokevirtual 466, 3) := by decide +kernel
theorem dX12_join_58 : decode cX12_join 58 = .ok (.return_, 1) := by decide +kernel
def fX12_join_50  (h : MS) (x4 : Int64) (x8 : Int64) (s0 : Int64) : Option (MS) :=
  oB (fX12_lowest h s0 (x4 * x8)) (fun h2 => some (h2))
set_option maxHeartbeats 4000000 in
theorem wfX12_join_50 {args : Array Value} (b : Bd p s m c cX12_join 10 RX12 D aC) (hlk : meth.locks = false) (hr : meth.sig.returnType = none) {Z : State → Prop} (zs : Z s) (zk : ZOK Z (Rg ad)) {hz : MS} {h : MS} {x4 : Int64} {x8 : Int64} {s0 : Int64}  {H : Heap} {locs : List Loc} {ls : Array Slot} (hf : fX12_join_50 h x4 x8 s0 = some hz) (hE : CE (EM D aC ad h) (Rg ad) s H locs) (hl : lv_has ls 10 [(4, .long x4), (8, .long x8)]) : W p l e (RM 2 55 0 0) s m args below meth c H locs 0 0 (MQ below (PQ (EM D aC ad hz) (Rg ad) none) args s 0 0 (Rg ad)) (F0 m 50 ls [.long s0, .ref (ad 116)]) := by
  unfold fX12_join_50 at hf
  refine lv_lload b.1 b.2.1 dX12_join_50 (lv_at hl 0 rfl) ?_
  refine lv_lload b.1 b.2.1 dX12_join_52 (lv_at hl 1 rfl) ?_
  refine lv_lmul b.1 b.2.1 dX12_join_54 ?_
  obtain ⟨h2, hc1, hf⟩ := oB_s hf
  refine k_callV0 (C := RX12) b zs zk hE (CX12_lowest l D aC ad zk hc1) mc_X12_lowest (in8 32 rfl rfl) mi_X12_lowest ms_X12_lowest ini_RX12 ok_X12_lowest (m_recv b hE) ⟨Nat.le_of_ble_eq_true rfl, Nat.le_of_ble_eq_true rfl⟩ rfl hl.1 rfl (k_room _ (by exact Nat.le_of_ble_eq_true rfl)) ⟨Nat.le_refl _, Nat.le_refl _⟩ dX12_join_55 (fun H locs hE => ?_)
  cases hf
  exact k_vret b hlk hr hE (Nat.le_refl _) (Nat.le_refl _) dX12_join_58
def fX12_join_0  (h : MS) (x1 : Int32) (x2 : Int64) (x4 : Int64) (x6 : Int64) (x8 : Int64) : Option (MS) :=
  if x1 = 5 then (oB (fX12_lowest h (x2 * x6) (x4 * x8)) (fun h6 => some (h6))) else (if x1 = 3 then (fX12_join_50  h x4 x8 ((x2 * x8) + (x6 * x4))) else (fX12_join_50  h x4 x8 ((x2 * x8) - (x6 * x4))))
set_option maxHeartbeats 4000000 in
theorem wfX12_join_0 {args : Array Value} (b : Bd p s m c cX12_join 10 RX12 D aC) (hlk : meth.locks = false) (hr : meth.sig.returnType = none) {Z : State → Prop} (zs : Z s) (zk : ZOK Z (Rg ad)) {hz : MS} {h : MS} {x1 : Int32} {x2 : Int64} {x4 : Int64} {x6 : Int64} {x8 : Int64}  {H : Heap} {locs : List Loc} {ls : Array Slot} (hf : fX12_join_0 h x1 x2 x4 x6 x8 = some hz) (hE : CE (EM D aC ad h) (Rg ad) s H locs) (hl : lv_has ls 10 [(0, .ref (ad 116)), (1, .int x1), (2, .long x2), (4, .long x4), (6, .long x6), (8, .long x8)]) : W p l e (RM 2 55 0 0) s m args below meth c H locs 0 0 (MQ below (PQ (EM D aC ad hz) (Rg ad) none) args s 0 0 (Rg ad)) (F0 m 0 ls []) := by
  unfold fX12_join_0 at hf
  refine lv_iload_n b.1 b.2.1 dX12_join_0 rfl (lv_at hl 1 rfl) ?_
  refine lv_iconst (v := 5) b.1 b.2.1 dX12_join_1 (by decide) ?_
  refine lv_icmp_ne (tgt := 21) b.1 b.2.1 dX12_join_2 (by decide) (fun c3 => ?_) (fun c3 => ?_)
  · have hf := oI_f c3 hf
    refine lv_aload_n b.1 b.2.1 dX12_join_21 rfl (lv_at hl 0 rfl) ?_
    refine lv_iload_n b.1 b.2.1 dX12_join_22 rfl (lv_at hl 1 rfl) ?_
    refine lv_iconst (v := 3) b.1 b.2.1 dX12_join_23 (by decide) ?_
    refine lv_icmp_ne (tgt := 40) b.1 b.2.1 dX12_join_24 (by decide) (fun c4 => ?_) (fun c4 => ?_)
    · have hf := oI_f c4 hf
      refine lv_lload_n b.1 b.2.1 dX12_join_40 rfl (lv_at hl 2 rfl) ?_
      refine lv_lload b.1 b.2.1 dX12_join_41 (lv_at hl 5 rfl) ?_
      refine lv_lmul b.1 b.2.1 dX12_join_43 ?_
      refine lv_lload b.1 b.2.1 dX12_join_44 (lv_at hl 4 rfl) ?_
      refine lv_lload b.1 b.2.1 dX12_join_46 (lv_at hl 3 rfl) ?_
      refine lv_lmul b.1 b.2.1 dX12_join_48 ?_
      refine lv_lsub b.1 b.2.1 dX12_join_49 ?_
      exact wfX12_join_50 b hlk hr zs zk  hf hE (lv_sub hl [3, 5] rfl)
    · have hf := oI_t c4 hf
      refine lv_lload_n b.1 b.2.1 dX12_join_27 rfl (lv_at hl 2 rfl) ?_
      refine lv_lload b.1 b.2.1 dX12_join_28 (lv_at hl 5 rfl) ?_
      refine lv_lmul b.1 b.2.1 dX12_join_30 ?_
      refine lv_lload b.1 b.2.1 dX12_join_31 (lv_at hl 4 rfl) ?_
      refine lv_lload b.1 b.2.1 dX12_join_33 (lv_at hl 3 rfl) ?_
      refine lv_lmul b.1 b.2.1 dX12_join_35 ?_
      refine lv_ladd b.1 b.2.1 dX12_join_36 ?_
      refine lv_goto (tgt := 50) b.1 b.2.1 dX12_join_37 (by decide) ?_
      exact wfX12_join_50 b hlk hr zs zk  hf hE (lv_sub hl [3, 5] rfl)
  · have hf := oI_t c3 hf
    refine lv_aload_n b.1 b.2.1 dX12_join_5 rfl (lv_at hl 0 rfl) ?_
    refine lv_lload_n b.1 b.2.1 dX12_join_6 rfl (lv_at hl 2 rfl) ?_
    refine lv_lload b.1 b.2.1 dX12_join_7 (lv_at hl 4 rfl) ?_
    refine lv_lmul b.1 b.2.1 dX12_join_9 ?_
    refine lv_lload b.1 b.2.1 dX12_join_10 (lv_at hl 3 rfl) ?_
    refine lv_lload b.1 b.2.1 dX12_join_12 (lv_at hl 5 rfl) ?_
    refine lv_lmul b.1 b.2.1 dX12_join_14 ?_
    obtain ⟨h6, hc5, hf⟩ := oB_s hf
    refine k_callV0 (C := RX12) b zs zk hE (CX12_lowest l D aC ad zk hc5) mc_X12_lowest (in8 32 rfl rfl) mi_X12_lowest ms_X12_lowest ini_RX12 ok_X12_lowest (m_recv b hE) ⟨Nat.le_of_ble_eq_true rfl, Nat.le_of_ble_eq_true rfl⟩ rfl hl.1 rfl (k_room _ (by exact Nat.le_of_ble_eq_true rfl)) ⟨Nat.le_refl _, Nat.le_refl _⟩ dX12_join_15 (fun H locs hE => ?_)
    refine lv_goto (tgt := 58) b.1 b.2.1 dX12_join_18 (by decide) ?_
    cases hf
    exact k_vret b hlk hr hE (Nat.le_refl _) (Nat.le_refl _) dX12_join_58
def fX12_join (h : MS) (x1 : Int32) (x2 : Int64) (x4 : Int64) (x6 : Int64) (x8 : Int64) : Option (MS) := fX12_join_0 h x1 x2 x4 x6 x8
set_option maxHeartbeats 4000000 in
theorem CX12_join (l : Launch) (D : va_G) (aC : Nat → ClassId) (ad : Nat → Nat) {Z : State → Prop} (zk : ZOK Z (Rg ad)) {h : MS} {x1 : Int32} {x2 : Int64} {x4 : Int64} {x6 : Int64} {x8 : Int64} {hz : MS} (hf : fX12_join h x1 x2 x4 x6 x8 = some hz) : CM l D aC Z yX12_join cX12_join 10 (none) 2 55 0 0 (EM D aC ad h) [.ref (ad 116), .int x1, .long x2, .long x4, .long x6, .long x8] (EM D aC ad hz) none (Rg ad) := by
  refine CM.of rfl ?_
  intro p e s m below meth c b hr hlk hin2 zs hE
  refine k_ent (Nat.le_of_ble_eq_true rfl) (fun ls hl => ?_)
  exact wfX12_join_0 b hlk hr zs zk hf hE (lv_sub hl [0, 1, 2, 3, 4, 5] rfl)
theorem dX12_worth_0 : decode cX12_worth 0 = .ok (.iconst 0, 1) := by decide +kernel
theorem dX12_worth_1 : decode cX12_worth 1 = .ok (.istore 4, 2) := by decide +kernel
theorem dX12_worth_3 : decode cX12_worth 3 = .ok (.aload_n 0, 1) := by decide +kernel
theorem dX12_worth_4 : decode cX12_worth 4 = .ok (.iconst 0, 1) := by decide +kernel
theorem dX12_worth_5 : decode cX12_worth 5 = .ok (.putfield 463, 3) := by decide +kernel
theorem dX12_worth_8 : decode cX12_worth 8 = .ok (.iload_n 1, 1) := by decide +kernel
theorem dX12_worth_9 : decode cX12_worth 9 = .ok (.istore 5, 2) := by decide +kernel
theorem dX12_worth_11 : decode cX12_worth 11 = .ok (.iload 5, 2) := by decide +kernel
theorem dX12_worth_13 : decode cX12_worth 13 = .ok (.iload_n 2, 1) := by decide +kernel
theorem dX12_worth_14 : decode cX12_worth 14 = .ok (.if_icmp .ge 192, 3) := by decide +kernel
theorem dX12_worth_17 : decode cX12_worth 17 = .ok (.aload_n 0, 1) := by decide +kernel
theorem dX12_worth_18 : decode cX12_worth 18 = .ok (.getfield 147, 3) := by decide +kernel
theorem dX12_worth_21 : decode cX12_worth 21 = .ok (.iload 5, 2) := by decide +kernel
theorem dX12_worth_23 : decode cX12_worth 23 = .ok (.iaload, 1) := by decide +kernel
theorem dX12_worth_24 : decode cX12_worth 24 = .ok (.istore 6, 2) := by decide +kernel
theorem dX12_worth_26 : decode cX12_worth 26 = .ok (.iload 6, 2) := by decide +kernel
theorem dX12_worth_28 : decode cX12_worth 28 = .ok (.ifCond .ne 26, 3) := by decide +kernel
theorem dX12_worth_31 : decode cX12_worth 31 = .ok (.aload_n 0, 1) := by decide +kernel
theorem dX12_worth_32 : decode cX12_worth 32 = .ok (.aload_n 0, 1) := by decide +kernel
theorem dX12_worth_33 : decode cX12_worth 33 = .ok (.getfield 150, 3) := by decide +kernel
theorem dX12_worth_36 : decode cX12_worth 36 = .ok (.iload 5, 2) := by decide +kernel
theorem dX12_worth_38 : decode cX12_worth 38 = .ok (.iaload, 1) := by decide +kernel
theorem dX12_worth_39 : decode cX12_worth 39 = .ok (.i2l, 1) := by decide +kernel
theorem dX12_worth_40 : decode cX12_worth 40 = .ok (.aload_n 0, 1) := by decide +kernel
theorem dX12_worth_41 : decode cX12_worth 41 = .ok (.getfield 153, 3) := by decide +kernel
theorem dX12_worth_44 : decode cX12_worth 44 = .ok (.iload 5, 2) := by decide +kernel
theorem dX12_worth_46 : decode cX12_worth 46 = .ok (.iaload, 1) := by decide +kernel
theorem dX12_worth_47 : decode cX12_worth 47 = .ok (.i2l, 1) := by decide +kernel
theorem dX12_worth_48 : decode cX12_worth 48 = .ok (.invokevirtual 466, 3) := by decide +kernel
theorem dX12_worth_51 : decode cX12_worth 51 = .ok (.goto 116, 3) := by decide +kernel
theorem dX12_worth_54 : decode cX12_worth 54 = .ok (.iload 6, 2) := by decide +kernel
theorem dX12_worth_56 : decode cX12_worth 56 = .ok (.iconst 1, 1) := by decide +kernel
theorem dX12_worth_57 : decode cX12_worth 57 = .ok (.if_icmp .ne 38, 3) := by decide +kernel
theorem dX12_worth_60 : decode cX12_worth 60 = .ok (.aload_n 0, 1) := by decide +kernel
theorem dX12_worth_61 : decode cX12_worth 61 = .ok (.aload_n 0, 1) := by decide +kernel
theorem dX12_worth_62 : decode cX12_worth 62 = .ok (.getfield 43, 3) := by decide +kernel
theorem dX12_worth_65 : decode cX12_worth 65 = .ok (.iconst 4, 1) := by decide +kernel
theorem dX12_worth_66 : decode cX12_worth 66 = .ok (.aload_n 0, 1) := by decide +kernel
theorem dX12_worth_67 : decode cX12_worth 67 = .ok (.getfield 150, 3) := by decide +kernel
theorem dX12_worth_70 : decode cX12_worth 70 = .ok (.iload 5, 2) := by decide +kernel
theorem dX12_worth_72 : decode cX12_worth 72 = .ok (.iaload, 1) := by decide +kernel
theorem dX12_worth_73 : decode cX12_worth 73 = .ok (.aload_n 3, 1) := by decide +kernel
theorem dX12_worth_74 : decode cX12_worth 74 = .ok (.invokestatic 470, 3) := by decide +kernel
theorem dX12_worth_77 : decode cX12_worth 77 = .ok (.imul, 1) := by decide +kernel
theorem dX12_worth_78 : decode cX12_worth 78 = .ok (.aload_n 0, 1) := by decide +kernel
theorem dX12_worth_79 : decode cX12_worth 79 = .ok (.getfield 153, 3) := by decide +kernel
theorem dX12_worth_82 : decode cX12_worth 82 = .ok (.iload 5, 2) := by decide +kernel
theorem dX12_worth_84 : decode cX12_worth 84 = .ok (.iaload, 1) := by decide +kernel
theorem dX12_worth_85 : decode cX12_worth 85 = .ok (.iadd, 1) := by decide +kernel
theorem dX12_worth_86 : decode cX12_worth 86 = .ok (.iaload, 1) := by decide +kernel
theorem dX12_worth_87 : decode cX12_worth 87 = .ok (.i2l, 1) := by decide +kernel
theorem dX12_worth_88 : decode cX12_worth 88 = .ok (.lconst 1, 1) := by decide +kernel
theorem dX12_worth_89 : decode cX12_worth 89 = .ok (.invokevirtual 466, 3) := by decide +kernel
theorem dX12_worth_92 : decode cX12_worth 92 = .ok (.goto 75, 3) := by decide +kernel
theorem dX12_worth_95 : decode cX12_worth 95 = .ok (.iload 6, 2) := by decide +kernel
theorem dX12_worth_97 : decode cX12_worth 97 = .ok (.iconst 2, 1) := by decide +kernel
theorem dX12_worth_98 : decode cX12_worth 98 = .ok (.if_icmp .ne 28, 3) := by decide +kernel
theorem dX12_worth_101 : decode cX12_worth 101 = .ok (.iinc 4 (-1), 3) := by decide +kernel
theorem dX12_worth_104 : decode cX12_worth 104 = .ok (.aload_n 0, 1) := by decide +kernel
theorem dX12_worth_105 : decode cX12_worth 105 = .ok (.aload_n 0, 1) := by decide +kernel
theorem dX12_worth_106 : decode cX12_worth 106 = .ok (.getfield 177, 3) := by decide +kernel
theorem dX12_worth_109 : decode cX12_worth 109 = .ok (.iload 4, 2) := by decide +kernel
theorem dX12_worth_111 : decode cX12_worth 111 = .ok (.laload, 1) := by decide +kernel
theorem dX12_worth_112 : decode cX12_worth 112 = .ok (.lneg, 1) := by decide +kernel
theorem dX12_worth_113 : decode cX12_worth 113 = .ok (.aload_n 0, 1) := by decide +kernel
theorem dX12_worth_114 : decode cX12_worth 114 = .ok (.getfield 180, 3) := by decide +kernel
theorem dX12_worth_117 : decode cX12_worth 117 = .ok (.iload 4, 2) := by decide +kernel
theorem dX12_worth_119 : decode cX12_worth 119 = .ok (.laload, 1) := by decide +kernel
theorem dX12_worth_120 : decode cX12_worth 120 = .ok (.invokevirtual 466, 3) := by decide +kernel
theorem dX12_worth_123 : decode cX12_worth 123 = .ok (.goto 44, 3) := by decide +kernel
theorem dX12_worth_126 : decode cX12_worth 126 = .ok (.iinc 4 (-2), 3) := by decide +kernel
theorem dX12_worth_129 : decode cX12_worth 129 = .ok (.aload_n 0, 1) := by decide +kernel
theorem dX12_worth_130 : decode cX12_worth 130 = .ok (.iload 6, 2) := by decide +kernel
theorem dX12_worth_132 : decode cX12_worth 132 = .ok (.aload_n 0, 1) := by decide +kernel
theorem dX12_worth_133 : decode cX12_worth 133 = .ok (.getfield 177, 3) := by decide +kernel
theorem dX12_worth_136 : decode cX12_worth 136 = .ok (.iload 4, 2) := by decide +kernel
theorem dX12_worth_138 : decode cX12_worth 138 = .ok (.laload, 1) := by decide +kernel
theorem dX12_worth_139 : decode cX12_worth 139 = .ok (.aload_n 0, 1) := by decide +kernel
theorem dX12_worth_140 : decode cX12_worth 140 = .ok (.getfield 180, 3) := by decide +kernel
theorem dX12_worth_143 : decode cX12_worth 143 = .ok (.iload 4, 2) := by decide +kernel
theorem dX12_worth_145 : decode cX12_worth 145 = .ok (.laload, 1) := by decide +kernel
theorem dX12_worth_146 : decode cX12_worth 146 = .ok (.aload_n 0, 1) := by decide +kernel
theorem dX12_worth_147 : decode cX12_worth 147 = .ok (.getfield 177, 3) := by decide +kernel
theorem dX12_worth_150 : decode cX12_worth 150 = .ok (.iload 4, 2) := by decide +kernel
theorem dX12_worth_152 : decode cX12_worth 152 = .ok (.iconst 1, 1) := by decide +kernel
theorem dX12_worth_153 : decode cX12_worth 153 = .ok (.iadd, 1) := by decide +kernel
theorem dX12_worth_154 : decode cX12_worth 154 = .ok (.laload, 1) := by decide +kernel
theorem dX12_worth_155 : decode cX12_worth 155 = .ok (.aload_n 0, 1) := by decide +kernel
theorem dX12_worth_156 : decode cX12_worth 156 = .ok (.getfield 180, 3) := by decide +kernel
theorem dX12_worth_159 : decode cX12_worth 159 = .ok (.iload 4, 2) := by decide +kernel
theorem dX12_worth_161 : decode cX12_worth 161 = .ok (.iconst 1, 1) := by decide +kernel
theorem dX12_worth_162 : decode cX12_worth 162 = .ok (.iadd, 1) := by decide +kernel
theorem dX12_worth_163 : decode cX12_worth 163 = .ok (.laload, 1) := by decide +kernel
theorem dX12_worth_164 : decode cX12_worth 164 = .ok (.invokevirtual 474, 3) := by decide +kernel
theorem dX12_worth_167 : decode cX12_worth 167 = .ok (.aload_n 0, 1) := by decide +kernel
theorem dX12_worth_168 : decode cX12_worth 168 = .ok (.getfield 463, 3) := by decide +kernel
theorem dX12_worth_171 : decode cX12_worth 171 = .ok (.ifCond .eq 4, 3) := by decide +kernel
theorem dX12_worth_174 : decode cX12_worth 174 = .ok (.return_, 1) := by decide +kernel
theorem dX12_worth_175 : decode cX12_worth 175 = .ok (.aload_n 0, 1) := by decide +kernel
theorem dX12_worth_176 : decode cX12_worth 176 = .ok (.getfield 177, 3) := by decide +kernel
theorem dX12_worth_179 : decode cX12_worth 179 = .ok (.iload 4, 2) := by decide +kernel
theorem dX12_worth_181 : decode cX12_worth 181 = .ok (.aload_n 0, 1) := by decide +kernel
theorem dX12_worth_182 : decode cX12_worth 182 = .ok (.getfield 452, 3) := by decide +kernel
theorem dX12_worth_185 : decode cX12_worth 185 = .ok (.lastore, 1) := by decide +kernel
theorem dX12_worth_186 : decode cX12_worth 186 = .ok (.aload_n 0, 1) := by decide +kernel
theorem dX12_worth_187 : decode cX12_worth 187 = .ok (.getfield 180, 3) := by decide +kernel
theorem dX12_worth_190 : decode cX12_worth 190 = .ok (.iload 4, 2) := by decide +kernel
theorem dX12_worth_192 : decode cX12_worth 192 = .ok (.aload_n 0, 1) := by decide +kernel
theorem dX12_worth_193 : decode cX12_worth 193 = .ok (.getfield 456, 3) := by decide +kernel
theorem dX12_worth_196 : decode cX12_worth 196 = .ok (.lastore, 1) := by decide +kernel
theorem dX12_worth_197 : decode cX12_worth 197 = .ok (.iinc 4 1, 3) := by decide +kernel
theorem dX12_worth_200 : decode cX12_worth 200 = .ok (.iinc 5 1, 3) := by decide +kernel
theorem dX12_worth_203 : decode cX12_worth 203 = .ok (.goto (-192), 3) := by decide +kernel
theorem dX12_worth_206 : decode cX12_worth 206 = .ok (.return_, 1) := by decide +kernel
def fX12_worth_167 (x3 : Nat) (k11 : MS → Int32 → Int32 → Int32 → Option (MS)) (h : MS) (x2 : Int32) (x4 : Int32) (x5 : Int32) : Option (MS) :=
  if (mI h 79) = 0 then (oC (ix x4 (mlen 82)) (oL (mSB h 82 (Int32.toNatClampNeg x4) (mL h 80)) (fun h3 => oC (ix x4 (mlen 83)) (oL (mSB h3 83 (Int32.toNatClampNeg x4) (mL h3 81)) (fun h5 => oL (x4 + 1) (fun y6 => oL (x5 + 1) (fun y7 => k11 h5 x2 y6 y7))))))) else (some (h))
set_option maxHeartbeats 4000000 in
theorem wfX12_worth_167 {args : Array Value} (b : Bd p s m c cX12_worth 7 RX12 D aC) (hlk : meth.locks = false) (hr : meth.sig.returnType = none) {Z : State → Prop} (zs : Z s) (zk : ZOK Z (Rg ad)) {x3 : Nat} (hka_x3 : mk x3 = 2 ∧ mak x3 = 1) {hz : MS} {k11 : MS → Int32 → Int32 → Int32 → Option (MS)} (H11 : ∀ (h : MS) (x2 : Int32) (x4 : Int32) (x5 : Int32), ∀ (H : Heap) (locs : List Loc) (ls : Array Slot), k11 h x2 x4 x5 = some hz → CE (EM D aC ad h) (Rg ad) s H locs → lv_has ls 7 [(0, .ref (ad 116)), (2, .int x2), (3, .ref (ad x3)), (4, .int x4), (5, .int x5)] → W p l e (RM 3 84 0 0) s m args below meth c H locs 0 0 (MQ below (PQ (EM D aC ad hz) (Rg ad) none) args s 0 0 (Rg ad)) (F0 m 11 ls [])) {h : MS} {x2 : Int32} {x4 : Int32} {x5 : Int32}  {H : Heap} {locs : List Loc} {ls : Array Slot} (hf : fX12_worth_167 x3 k11 h x2 x4 x5 = some hz) (hE : CE (EM D aC ad h) (Rg ad) s H locs) (hl : lv_has ls 7 [(0, .ref (ad 116)), (2, .int x2), (3, .ref (ad x3)), (4, .int x4), (5, .int x5)]) : W p l e (RM 3 84 0 0) s m args below meth c H locs 0 0 (MQ below (PQ (EM D aC ad hz) (Rg ad) none) args s 0 0 (Rg ad)) (F0 m 167 ls []) := by
  unfold fX12_worth_167 at hf
  refine lv_aload_n b.1 b.2.1 dX12_worth_167 rfl (lv_at hl 0 rfl) ?_
  refine gM_463 b hE dX12_worth_168 ?_
  refine lv_if_eq (tgt := 175) b.1 b.2.1 dX12_worth_171 (by decide) (fun c1 => ?_) (fun c1 => ?_)
  · have hf := oI_t c1 hf
    refine lv_aload_n b.1 b.2.1 dX12_worth_175 rfl (lv_at hl 0 rfl) ?_
    refine gM_177 b hE dX12_worth_176 ?_
    refine lv_iload b.1 b.2.1 dX12_worth_179 (lv_at hl 3 rfl) ?_
    refine lv_aload_n b.1 b.2.1 dX12_worth_181 rfl (lv_at hl 0 rfl) ?_
    refine gM_452 b hE dX12_worth_182 ?_
    obtain ⟨g2, hf⟩ := oC_s hf
    obtain ⟨h3, eh3, hf⟩ := oL_s hf
    refine n_last b hE rfl rfl g2 eh3 dX12_worth_185 (fun H locs hE => ?_)
    refine lv_aload_n b.1 b.2.1 dX12_worth_186 rfl (lv_at hl 0 rfl) ?_
    refine gM_180 b hE dX12_worth_187 ?_
    refine lv_iload b.1 b.2.1 dX12_worth_190 (lv_at hl 3 rfl) ?_
    refine lv_aload_n b.1 b.2.1 dX12_worth_192 rfl (lv_at hl 0 rfl) ?_
    refine gM_456 b hE dX12_worth_193 ?_
    obtain ⟨g4, hf⟩ := oC_s hf
    obtain ⟨h5, eh5, hf⟩ := oL_s hf
    refine n_last b hE rfl rfl g4 eh5 dX12_worth_196 (fun H locs hE => ?_)
    obtain ⟨y6, ey6, hf⟩ := oL_s hf
    refine lv_iinc (v := y6) (lv' := [(4, .int y6), (0, .ref (ad 116)), (2, .int x2), (3, .ref (ad x3)), (5, .int x5)]) b.1 b.2.1 dX12_worth_197 hl (k := 3) rfl (by rw [ey6]; rfl) (by decide) rfl (fun ls hl => ?_)
    obtain ⟨y7, ey7, hf⟩ := oL_s hf
    refine lv_iinc (v := y7) (lv' := [(5, .int y7), (4, .int y6), (0, .ref (ad 116)), (2, .int x2), (3, .ref (ad x3))]) b.1 b.2.1 dX12_worth_200 hl (k := 4) rfl (by rw [ey7]; rfl) (by decide) rfl (fun ls hl => ?_)
    refine lv_goto (tgt := 11) b.1 b.2.1 dX12_worth_203 (by decide) ?_
    exact H11 h5 x2 y6 y7 _ _ _ hf hE (lv_sub hl [2, 3, 4, 1, 0] rfl)
  · have hf := oI_f c1 hf
    cases hf
    exact k_vret b hlk hr hE (Nat.le_refl _) (Nat.le_refl _) dX12_worth_174
def fX12_worth_11F (x3 : Nat) (k11 : MS → Int32 → Int32 → Int32 → Option (MS)) (h : MS) (x2 : Int32) (x4 : Int32) (x5 : Int32) : Option (MS) :=
  if x2 ≤ x5 then (some (h)) else (oC (ix x5 (mlen 60)) (oL (mA h 60 (Int32.toNatClampNeg x5)) (fun y10 => if y10 = 0 then (oC (ix x5 (mlen 61)) (oC (ix x5 (mlen 62)) (oB (fX12_lowest h (Int32.toInt64 (mA h 61 (Int32.toNatClampNeg x5))) (Int32.toInt64 (mA h 62 (Int32.toNatClampNeg x5)))) (fun h36 => fX12_worth_167 x3 k11 h36 x2 x4 x5)))) else (if y10 = 1 then (oC (ix x5 (mlen 61)) (oB (fX12_personOf h (mA h 61 (Int32.toNatClampNeg x5)) x3) (fun r28 => oC (ix x5 (mlen 62)) (oC (ix ((4 * r28) + (mA h 62 (Int32.toNatClampNeg x5))) (mlen 26)) (oB (fX12_lowest h (Int32.toInt64 (mA h 26 (Int32.toNatClampNeg ((4 * r28) + (mA h 62 (Int32.toNatClampNeg x5)))))) 1) (fun h32 => fX12_worth_167 x3 k11 h32 x2 x4 x5)))))) else (if y10 = 2 then (oL (x4 + (-1)) (fun y21 => oC (ix y21 (mlen 82)) (oC (ix y21 (mlen 83)) (oB (fX12_lowest h (-(mB h 82 (Int32.toNatClampNeg y21))) (mB h 83 (Int32.toNatClampNeg y21))) (fun h25 => fX12_worth_167 x3 k11 h25 x2 y21 x5))))) else (oL (x4 + (-2)) (fun y14 => oC (ix y14 (mlen 82)) (oC (ix y14 (mlen 83)) (oC (ix (y14 + 1) (mlen 82)) (oC (ix (y14 + 1) (mlen 83)) (oB (fX12_join h y10 (mB h 82 (Int32.toNatClampNeg y14)) (mB h 83 (Int32.toNatClampNeg y14)) (mB h 82 (Int32.toNatClampNeg (y14 + 1))) (mB h 83 (Int32.toNatClampNeg (y14 + 1)))) (fun h20 => fX12_worth_167 x3 k11 h20 x2 y14 x5))))))))))))
set_option maxHeartbeats 4000000 in
theorem wfX12_worth_11F {args : Array Value} (b : Bd p s m c cX12_worth 7 RX12 D aC) (hlk : meth.locks = false) (hr : meth.sig.returnType = none) {Z : State → Prop} (zs : Z s) (zk : ZOK Z (Rg ad)) {x3 : Nat} (hka_x3 : mk x3 = 2 ∧ mak x3 = 1) {hz : MS} {k11 : MS → Int32 → Int32 → Int32 → Option (MS)} (H11 : ∀ (h : MS) (x2 : Int32) (x4 : Int32) (x5 : Int32), ∀ (H : Heap) (locs : List Loc) (ls : Array Slot), k11 h x2 x4 x5 = some hz → CE (EM D aC ad h) (Rg ad) s H locs → lv_has ls 7 [(0, .ref (ad 116)), (2, .int x2), (3, .ref (ad x3)), (4, .int x4), (5, .int x5)] → W p l e (RM 3 84 0 0) s m args below meth c H locs 0 0 (MQ below (PQ (EM D aC ad hz) (Rg ad) none) args s 0 0 (Rg ad)) (F0 m 11 ls [])) {h : MS} {x2 : Int32} {x4 : Int32} {x5 : Int32}  {H : Heap} {locs : List Loc} {ls : Array Slot} (hf : fX12_worth_11F x3 k11 h x2 x4 x5 = some hz) (hE : CE (EM D aC ad h) (Rg ad) s H locs) (hl : lv_has ls 7 [(0, .ref (ad 116)), (2, .int x2), (3, .ref (ad x3)), (4, .int x4), (5, .int x5)]) : W p l e (RM 3 84 0 0) s m args below meth c H locs 0 0 (MQ below (PQ (EM D aC ad hz) (Rg ad) none) args s 0 0 (Rg ad)) (F0 m 11 ls []) := by
  unfold fX12_worth_11F at hf
  refine lv_iload b.1 b.2.1 dX12_worth_11 (lv_at hl 4 rfl) ?_
  refine lv_iload_n b.1 b.2.1 dX12_worth_13 rfl (lv_at hl 1 rfl) ?_
  refine lv_icmp_ge (tgt := 206) b.1 b.2.1 dX12_worth_14 (by decide) (fun c8 => ?_) (fun c8 => ?_)
  · have hf := oI_t c8 hf
    cases hf
    exact k_vret b hlk hr hE (Nat.le_refl _) (Nat.le_refl _) dX12_worth_206
  · have hf := oI_f c8 hf
    refine lv_aload_n b.1 b.2.1 dX12_worth_17 rfl (lv_at hl 0 rfl) ?_
    refine gM_147 b hE dX12_worth_18 ?_
    refine lv_iload b.1 b.2.1 dX12_worth_21 (lv_at hl 4 rfl) ?_
    obtain ⟨g9, hf⟩ := oC_s hf
    refine m_iald b hE rfl rfl g9 dX12_worth_23 ?_
    obtain ⟨y10, ey10, hf⟩ := oL_s hf
    refine k_nmI ey10 ?_
    refine lv_istore (lv' := [(6, .int y10), (0, .ref (ad 116)), (2, .int x2), (3, .ref (ad x3)), (4, .int x4), (5, .int x5)]) b.1 b.2.1 dX12_worth_24 hl (by decide) rfl (fun ls hl => ?_)
    refine lv_iload b.1 b.2.1 dX12_worth_26 (lv_at hl 0 rfl) ?_
    refine lv_if_ne (tgt := 54) b.1 b.2.1 dX12_worth_28 (by decide) (fun c11 => ?_) (fun c11 => ?_)
    · have hf := oI_f c11 hf
      refine lv_iload b.1 b.2.1 dX12_worth_54 (lv_at hl 0 rfl) ?_
      refine lv_iconst (v := 1) b.1 b.2.1 dX12_worth_56 (by decide) ?_
      refine lv_icmp_ne (tgt := 95) b.1 b.2.1 dX12_worth_57 (by decide) (fun c12 => ?_) (fun c12 => ?_)
      · have hf := oI_f c12 hf
        refine lv_iload b.1 b.2.1 dX12_worth_95 (lv_at hl 0 rfl) ?_
        refine lv_iconst (v := 2) b.1 b.2.1 dX12_worth_97 (by decide) ?_
        refine lv_icmp_ne (tgt := 126) b.1 b.2.1 dX12_worth_98 (by decide) (fun c13 => ?_) (fun c13 => ?_)
        · have hf := oI_f c13 hf
          obtain ⟨y14, ey14, hf⟩ := oL_s hf
          refine lv_iinc (v := y14) (lv' := [(4, .int y14), (6, .int y10), (0, .ref (ad 116)), (2, .int x2), (3, .ref (ad x3)), (5, .int x5)]) b.1 b.2.1 dX12_worth_126 hl (k := 4) rfl (by rw [ey14]; rfl) (by decide) rfl (fun ls hl => ?_)
          refine lv_aload_n b.1 b.2.1 dX12_worth_129 rfl (lv_at hl 2 rfl) ?_
          refine lv_iload b.1 b.2.1 dX12_worth_130 (lv_at hl 1 rfl) ?_
          refine lv_aload_n b.1 b.2.1 dX12_worth_132 rfl (lv_at hl 2 rfl) ?_
          refine gM_177 b hE dX12_worth_133 ?_
          refine lv_iload b.1 b.2.1 dX12_worth_136 (lv_at hl 0 rfl) ?_
          obtain ⟨g15, hf⟩ := oC_s hf
          refine m_lald b hE rfl rfl g15 dX12_worth_138 ?_
          refine lv_aload_n b.1 b.2.1 dX12_worth_139 rfl (lv_at hl 2 rfl) ?_
          refine gM_180 b hE dX12_worth_140 ?_
          refine lv_iload b.1 b.2.1 dX12_worth_143 (lv_at hl 0 rfl) ?_
          obtain ⟨g16, hf⟩ := oC_s hf
          refine m_lald b hE rfl rfl g16 dX12_worth_145 ?_
          refine lv_aload_n b.1 b.2.1 dX12_worth_146 rfl (lv_at hl 2 rfl) ?_
          refine gM_177 b hE dX12_worth_147 ?_
          refine lv_iload b.1 b.2.1 dX12_worth_150 (lv_at hl 0 rfl) ?_
          refine lv_iconst (v := 1) b.1 b.2.1 dX12_worth_152 (by decide) ?_
          refine lv_iadd b.1 b.2.1 dX12_worth_153 ?_
          obtain ⟨g17, hf⟩ := oC_s hf
          refine m_lald b hE rfl rfl g17 dX12_worth_154 ?_
          refine lv_aload_n b.1 b.2.1 dX12_worth_155 rfl (lv_at hl 2 rfl) ?_
          refine gM_180 b hE dX12_worth_156 ?_
          refine lv_iload b.1 b.2.1 dX12_worth_159 (lv_at hl 0 rfl) ?_
          refine lv_iconst (v := 1) b.1 b.2.1 dX12_worth_161 (by decide) ?_
          refine lv_iadd b.1 b.2.1 dX12_worth_162 ?_
          obtain ⟨g18, hf⟩ := oC_s hf
          refine m_lald b hE rfl rfl g18 dX12_worth_163 ?_
          obtain ⟨h20, hc19, hf⟩ := oB_s hf
          refine k_callV0 (C := RX12) b zs zk hE (CX12_join l D aC ad zk hc19) mc_X12_join (in8 41 rfl rfl) mi_X12_join ms_X12_join ini_RX12 ok_X12_join (m_recv b hE) ⟨Nat.le_of_ble_eq_true rfl, Nat.le_of_ble_eq_true rfl⟩ rfl hl.1 rfl (k_room _ (by exact Nat.le_of_ble_eq_true rfl)) ⟨Nat.le_refl _, Nat.le_refl _⟩ dX12_worth_164 (fun H locs hE => ?_)
          exact wfX12_worth_167 b hlk hr zs zk hka_x3 H11 hf hE (lv_sub hl [2, 3, 4, 0, 5] rfl)
        · have hf := oI_t c13 hf
          obtain ⟨y21, ey21, hf⟩ := oL_s hf
          refine lv_iinc (v := y21) (lv' := [(4, .int y21), (6, .int y10), (0, .ref (ad 116)), (2, .int x2), (3, .ref (ad x3)), (5, .int x5)]) b.1 b.2.1 dX12_worth_101 hl (k := 4) rfl (by rw [ey21]; rfl) (by decide) rfl (fun ls hl => ?_)
          refine lv_aload_n b.1 b.2.1 dX12_worth_104 rfl (lv_at hl 2 rfl) ?_
          refine lv_aload_n b.1 b.2.1 dX12_worth_105 rfl (lv_at hl 2 rfl) ?_
          refine gM_177 b hE dX12_worth_106 ?_
          refine lv_iload b.1 b.2.1 dX12_worth_109 (lv_at hl 0 rfl) ?_
          obtain ⟨g22, hf⟩ := oC_s hf
          refine m_lald b hE rfl rfl g22 dX12_worth_111 ?_
          refine lv_lneg b.1 b.2.1 dX12_worth_112 ?_
          refine lv_aload_n b.1 b.2.1 dX12_worth_113 rfl (lv_at hl 2 rfl) ?_
          refine gM_180 b hE dX12_worth_114 ?_
          refine lv_iload b.1 b.2.1 dX12_worth_117 (lv_at hl 0 rfl) ?_
          obtain ⟨g23, hf⟩ := oC_s hf
          refine m_lald b hE rfl rfl g23 dX12_worth_119 ?_
          obtain ⟨h25, hc24, hf⟩ := oB_s hf
          refine k_callV0 (C := RX12) b zs zk hE (CX12_lowest l D aC ad zk hc24) mc_X12_lowest (in8 32 rfl rfl) mi_X12_lowest ms_X12_lowest ini_RX12 ok_X12_lowest (m_recv b hE) ⟨Nat.le_of_ble_eq_true rfl, Nat.le_of_ble_eq_true rfl⟩ rfl hl.1 rfl (k_room _ (by exact Nat.le_of_ble_eq_true rfl)) ⟨Nat.le_refl _, Nat.le_refl _⟩ dX12_worth_120 (fun H locs hE => ?_)
          refine lv_goto (tgt := 167) b.1 b.2.1 dX12_worth_123 (by decide) ?_
          exact wfX12_worth_167 b hlk hr zs zk hka_x3 H11 hf hE (lv_sub hl [2, 3, 4, 0, 5] rfl)
      · have hf := oI_t c12 hf
        refine lv_aload_n b.1 b.2.1 dX12_worth_60 rfl (lv_at hl 1 rfl) ?_
        refine lv_aload_n b.1 b.2.1 dX12_worth_61 rfl (lv_at hl 1 rfl) ?_
        refine gM_43 b hE dX12_worth_62 ?_
        refine lv_iconst (v := 4) b.1 b.2.1 dX12_worth_65 (by decide) ?_
        refine lv_aload_n b.1 b.2.1 dX12_worth_66 rfl (lv_at hl 1 rfl) ?_
        refine gM_150 b hE dX12_worth_67 ?_
        refine lv_iload b.1 b.2.1 dX12_worth_70 (lv_at hl 5 rfl) ?_
        obtain ⟨g26, hf⟩ := oC_s hf
        refine m_iald b hE rfl rfl g26 dX12_worth_72 ?_
        refine lv_aload_n b.1 b.2.1 dX12_worth_73 rfl (lv_at hl 3 rfl) ?_
        obtain ⟨r28, hc27, hf⟩ := oB_s hf
        refine k_callS0 b zs zk hE (CX12_personOf l D aC ad zk hc27) mc_X12_personOf (in8 21 rfl rfl) mt_X12_personOf ini_RX12 ok_X12_personOf ⟨Nat.le_of_ble_eq_true rfl, Nat.le_of_ble_eq_true rfl⟩ rfl hl.1 rfl (k_room _ (by exact Nat.le_of_ble_eq_true rfl)) ⟨Nat.le_refl _, Nat.le_refl _⟩ dX12_worth_74 (fun H locs hE => ?_)
        refine lv_imul b.1 b.2.1 dX12_worth_77 ?_
        refine lv_aload_n b.1 b.2.1 dX12_worth_78 rfl (lv_at hl 1 rfl) ?_
        refine gM_153 b hE dX12_worth_79 ?_
        refine lv_iload b.1 b.2.1 dX12_worth_82 (lv_at hl 5 rfl) ?_
        obtain ⟨g29, hf⟩ := oC_s hf
        refine m_iald b hE rfl rfl g29 dX12_worth_84 ?_
        refine lv_iadd b.1 b.2.1 dX12_worth_85 ?_
        obtain ⟨g30, hf⟩ := oC_s hf
        refine m_iald b hE rfl rfl g30 dX12_worth_86 ?_
        refine lv_i2l b.1 b.2.1 dX12_worth_87 rfl ?_
        refine lv_lconst (v := 1) b.1 b.2.1 dX12_worth_88 rfl ?_
        obtain ⟨h32, hc31, hf⟩ := oB_s hf
        refine k_callV0 (C := RX12) b zs zk hE (CX12_lowest l D aC ad zk hc31) mc_X12_lowest (in8 32 rfl rfl) mi_X12_lowest ms_X12_lowest ini_RX12 ok_X12_lowest (m_recv b hE) ⟨Nat.le_of_ble_eq_true rfl, Nat.le_of_ble_eq_true rfl⟩ rfl hl.1 rfl (k_room _ (by exact Nat.le_of_ble_eq_true rfl)) ⟨Nat.le_refl _, Nat.le_refl _⟩ dX12_worth_89 (fun H locs hE => ?_)
        refine lv_goto (tgt := 167) b.1 b.2.1 dX12_worth_92 (by decide) ?_
        exact wfX12_worth_167 b hlk hr zs zk hka_x3 H11 hf hE (lv_sub hl [1, 2, 3, 4, 5] rfl)
    · have hf := oI_t c11 hf
      refine lv_aload_n b.1 b.2.1 dX12_worth_31 rfl (lv_at hl 1 rfl) ?_
      refine lv_aload_n b.1 b.2.1 dX12_worth_32 rfl (lv_at hl 1 rfl) ?_
      refine gM_150 b hE dX12_worth_33 ?_
      refine lv_iload b.1 b.2.1 dX12_worth_36 (lv_at hl 5 rfl) ?_
      obtain ⟨g33, hf⟩ := oC_s hf
      refine m_iald b hE rfl rfl g33 dX12_worth_38 ?_
      refine lv_i2l b.1 b.2.1 dX12_worth_39 rfl ?_
      refine lv_aload_n b.1 b.2.1 dX12_worth_40 rfl (lv_at hl 1 rfl) ?_
      refine gM_153 b hE dX12_worth_41 ?_
      refine lv_iload b.1 b.2.1 dX12_worth_44 (lv_at hl 5 rfl) ?_
      obtain ⟨g34, hf⟩ := oC_s hf
      refine m_iald b hE rfl rfl g34 dX12_worth_46 ?_
      refine lv_i2l b.1 b.2.1 dX12_worth_47 rfl ?_
      obtain ⟨h36, hc35, hf⟩ := oB_s hf
      refine k_callV0 (C := RX12) b zs zk hE (CX12_lowest l D aC ad zk hc35) mc_X12_lowest (in8 32 rfl rfl) mi_X12_lowest ms_X12_lowest ini_RX12 ok_X12_lowest (m_recv b hE) ⟨Nat.le_of_ble_eq_true rfl, Nat.le_of_ble_eq_true rfl⟩ rfl hl.1 rfl (k_room _ (by exact Nat.le_of_ble_eq_true rfl)) ⟨Nat.le_refl _, Nat.le_refl _⟩ dX12_worth_48 (fun H locs hE => ?_)
      refine lv_goto (tgt := 167) b.1 b.2.1 dX12_worth_51 (by decide) ?_
      exact wfX12_worth_167 b hlk hr zs zk hka_x3 H11 hf hE (lv_sub hl [1, 2, 3, 4, 5] rfl)
def fX12_worth_11 (x3 : Nat)  : Nat → MS → Int32 → Int32 → Int32 → Option (MS)
  | 0 => fun _ _ _ _ => none
  | n + 1 => fX12_worth_11F x3  (fX12_worth_11 x3  n)
set_option maxHeartbeats 4000000 in
theorem wfX12_worth_11 {args : Array Value} (b : Bd p s m c cX12_worth 7 RX12 D aC) (hlk : meth.locks = false) (hr : meth.sig.returnType = none) {Z : State → Prop} (zs : Z s) (zk : ZOK Z (Rg ad)) {x3 : Nat} (hka_x3 : mk x3 = 2 ∧ mak x3 = 1) {hz : MS} : ∀ n : Nat, ∀ (h : MS) (x2 : Int32) (x4 : Int32) (x5 : Int32), ∀ (H : Heap) (locs : List Loc) (ls : Array Slot), fX12_worth_11 x3  n h x2 x4 x5 = some hz → CE (EM D aC ad h) (Rg ad) s H locs → lv_has ls 7 [(0, .ref (ad 116)), (2, .int x2), (3, .ref (ad x3)), (4, .int x4), (5, .int x5)] → W p l e (RM 3 84 0 0) s m args below meth c H locs 0 0 (MQ below (PQ (EM D aC ad hz) (Rg ad) none) args s 0 0 (Rg ad)) (F0 m 11 ls []) := by
  intro n
  induction n with
  | zero =>
    intro h x2 x4 x5 H locs ls hf
    have hf : (none : Option (MS)) = some _ := hf
    cases hf
  | succ n ih =>
    intro h x2 x4 x5 H locs ls hf hE hl
    exact wfX12_worth_11F b hlk hr zs zk hka_x3  ih hf hE hl
def fX12_worth_0 (x3 : Nat)  (h : MS) (x1 : Int32) (x2 : Int32) : Option (MS) :=
  oL (mSI h 79 0) (fun h37 => fX12_worth_11 x3  FU h37 x2 0 x1)
set_option maxHeartbeats 4000000 in
theorem wfX12_worth_0 {args : Array Value} (b : Bd p s m c cX12_worth 7 RX12 D aC) (hlk : meth.locks = false) (hr : meth.sig.returnType = none) {Z : State → Prop} (zs : Z s) (zk : ZOK Z (Rg ad)) {x3 : Nat} (hka_x3 : mk x3 = 2 ∧ mak x3 = 1) {hz : MS} {h : MS} {x1 : Int32} {x2 : Int32}  {H : Heap} {locs : List Loc} {ls : Array Slot} (hf : fX12_worth_0 x3 h x1 x2 = some hz) (hE : CE (EM D aC ad h) (Rg ad) s H locs) (hl : lv_has ls 7 [(0, .ref (ad 116)), (1, .int x1), (2, .int x2), (3, .ref (ad x3))]) : W p l e (RM 3 84 0 0) s m args below meth c H locs 0 0 (MQ below (PQ (EM D aC ad hz) (Rg ad) none) args s 0 0 (Rg ad)) (F0 m 0 ls []) := by
  unfold fX12_worth_0 at hf
  refine lv_iconst (v := 0) b.1 b.2.1 dX12_worth_0 (by decide) ?_
  refine lv_istore (lv' := [(4, .int 0), (0, .ref (ad 116)), (1, .int x1), (2, .int x2), (3, .ref (ad x3))]) b.1 b.2.1 dX12_worth_1 hl (by decide) rfl (fun ls hl => ?_)
  refine lv_aload_n b.1 b.2.1 dX12_worth_3 rfl (lv_at hl 1 rfl) ?_
  refine lv_iconst (v := 0) b.1 b.2.1 dX12_worth_4 (by decide) ?_
  obtain ⟨h37, eh37, hf⟩ := oL_s hf
  refine pM_463 b hE (by decide) eh37 dX12_worth_5 (fun H locs hE => ?_)
  refine lv_iload_n b.1 b.2.1 dX12_worth_8 rfl (lv_at hl 2 rfl) ?_
  refine lv_istore (lv' := [(5, .int x1), (4, .int 0), (0, .ref (ad 116)), (1, .int x1), (2, .int x2), (3, .ref (ad x3))]) b.1 b.2.1 dX12_worth_9 hl (by decide) rfl (fun ls hl => ?_)
  have hl := lv_sub (l' := [(5, .int x1), (4, .int 0), (0, .ref (ad 116)), (2, .int x2), (3, .ref (ad x3))]) hl [0, 1, 2, 4, 5] rfl
  exact wfX12_worth_11 b hlk hr zs zk hka_x3  FU h37 x2 0 x1 _ _ _ hf hE (lv_sub hl [2, 3, 4, 1, 0] rfl)
def fX12_worth (h : MS) (x1 : Int32) (x2 : Int32) (x3 : Nat) : Option (MS) := oC ((decide (mk x3 = 2) && decide (mak x3 = 1))) (fX12_worth_0 x3 h x1 x2)
set_option maxHeartbeats 4000000 in
theorem CX12_worth (l : Launch) (D : va_G) (aC : Nat → ClassId) (ad : Nat → Nat) {Z : State → Prop} (zk : ZOK Z (Rg ad)) {h : MS} {x1 : Int32} {x2 : Int32} {x3 : Nat} {hz : MS} (hf : fX12_worth h x1 x2 x3 = some hz) : CM l D aC Z yX12_worth cX12_worth 7 (none) 3 84 0 0 (EM D aC ad h) [.ref (ad 116), .int x1, .int x2, .ref (ad x3)] (EM D aC ad hz) none (Rg ad) := by
  refine CM.of rfl ?_
  intro p e s m below meth c b hr hlk hin2 zs hE
  obtain ⟨hka, hf⟩ := oC_s hf
  have hka_x3 : mk x3 = 2 ∧ mak x3 = 1 := by simpa using hka
  refine k_ent (Nat.le_of_ble_eq_true rfl) (fun ls hl => ?_)
  exact wfX12_worth_0 b hlk hr zs zk hka_x3 hf hE (lv_sub hl [0, 1, 2, 3] rfl)
theorem dX12_against_0 : decode cX12_against 0 = .ok (.lload_n 0, 1) := by decide +kernel
theorem dX12_against_1 : decode cX12_against 1 = .ok (.lload 6, 2) := by decide +kernel
theorem dX12_against_3 : decode cX12_against 3 = .ok (.lmul, 1) := by decide +kernel
theorem dX12_against_4 : decode cX12_against 4 = .ok (.lload 4, 2) := by decide +kernel
theorem dX12_against_6 : decode cX12_against 6 = .ok (.lload_n 2, 1) := by decide +kernel
theorem dX12_against_7 : decode cX12_against 7 = .ok (.lmul, 1) := by decide +kernel
theorem dX12_against_8 : decode cX12_against 8 = .ok (.lcmp, 1) := by decide +kernel
theorem dX12_against_9 : decode cX12_against 9 = .ok (.ifCond .ge 7, 3) := by decide +kernel
theorem dX12_against_12 : decode cX12_against 12 = .ok (.iconst (-1), 1) := by decide +kernel
theorem dX12_against_13 : decode cX12_against 13 = .ok (.goto 20, 3) := by decide +kernel
theorem dX12_against_16 : decode cX12_against 16 = .ok (.lload_n 0, 1) := by decide +kernel
theorem dX12_against_17 : decode cX12_against 17 = .ok (.lload 6, 2) := by decide +kernel
theorem dX12_against_19 : decode cX12_against 19 = .ok (.lmul, 1) := by decide +kernel
theorem dX12_against_20 : decode cX12_against 20 = .ok (.lload 4, 2) := by decide +kernel
theorem dX12_against_22 : decode cX12_against 22 = .ok (.lload_n 2, 1) := by decide +kernel
theorem dX12_against_23 : decode cX12_against 23 = .ok (.lmul, 1) := by decide +kernel
theorem dX12_against_24 : decode cX12_against 24 = .ok (.lcmp, 1) := by decide +kernel
theorem dX12_against_25 : decode cX12_against 25 = .ok (.ifCond .le 7, 3) := by decide +kernel
theorem dX12_against_28 : decode cX12_against 28 = .ok (.iconst 1, 1) := by decide +kernel
theorem dX12_against_29 : decode cX12_against 29 = .ok (.goto 4, 3) := by decide +kernel
theorem dX12_against_32 : decode cX12_against 32 = .ok (.iconst 0, 1) := by decide +kernel
theorem dX12_against_33 : decode cX12_against 33 = .ok (.ireturn, 1) := by decide +kernel
def fX12_against_0  (x0 : Int64) (x2 : Int64) (x4 : Int64) (x6 : Int64) : Option (Int32) :=
  if 0 ≤ (lg_cmp (x0 * x6) (x4 * x2)) then (if (lg_cmp (x0 * x6) (x4 * x2)) ≤ 0 then (some (0)) else (some (1))) else (some ((-1)))
set_option maxHeartbeats 4000000 in
theorem wfX12_against_0 {E : Heap → Prop} {A : Nat → Prop} {args : Array Value} (b : Bd p s m c cX12_against 8 RX12 D aC) (hlk : meth.locks = false) (hr : meth.sig.returnType = some .int) {Z : State → Prop} (zs : Z s) (zk : ZOK Z A) {rz : Int32} {x0 : Int64} {x2 : Int64} {x4 : Int64} {x6 : Int64}  {H : Heap} {locs : List Loc} {ls : Array Slot} (hf : fX12_against_0 x0 x2 x4 x6 = some rz) (hE : CE E A s H locs) (hl : lv_has ls 8 [(0, .long x0), (2, .long x2), (4, .long x4), (6, .long x6)]) : W p l e (RM 0 0 0 0) s m args below meth c H locs 0 0 (MQ below (PQ E A (some (.int rz))) args s 0 0 A) (F0 m 0 ls []) := by
  unfold fX12_against_0 at hf
  refine lv_lload_n b.1 b.2.1 dX12_against_0 rfl (lv_at hl 0 rfl) ?_
  refine lv_lload b.1 b.2.1 dX12_against_1 (lv_at hl 3 rfl) ?_
  refine lv_lmul b.1 b.2.1 dX12_against_3 ?_
  refine lv_lload b.1 b.2.1 dX12_against_4 (lv_at hl 2 rfl) ?_
  refine lv_lload_n b.1 b.2.1 dX12_against_6 rfl (lv_at hl 1 rfl) ?_
  refine lv_lmul b.1 b.2.1 dX12_against_7 ?_
  refine W.lcmp b.1 b.2.1 dX12_against_8 ?_
  refine lv_if_ge (tgt := 16) b.1 b.2.1 dX12_against_9 (by decide) (fun c1 => ?_) (fun c1 => ?_)
  · have hf := oI_t c1 hf
    refine lv_lload_n b.1 b.2.1 dX12_against_16 rfl (lv_at hl 0 rfl) ?_
    refine lv_lload b.1 b.2.1 dX12_against_17 (lv_at hl 3 rfl) ?_
    refine lv_lmul b.1 b.2.1 dX12_against_19 ?_
    refine lv_lload b.1 b.2.1 dX12_against_20 (lv_at hl 2 rfl) ?_
    refine lv_lload_n b.1 b.2.1 dX12_against_22 rfl (lv_at hl 1 rfl) ?_
    refine lv_lmul b.1 b.2.1 dX12_against_23 ?_
    refine W.lcmp b.1 b.2.1 dX12_against_24 ?_
    refine lv_if_le (tgt := 32) b.1 b.2.1 dX12_against_25 (by decide) (fun c2 => ?_) (fun c2 => ?_)
    · have hf := oI_t c2 hf
      refine lv_iconst (v := 0) b.1 b.2.1 dX12_against_32 (by decide) ?_
      cases hf
      exact k_iret b hlk hr hE (Nat.le_refl _) (Nat.le_refl _) dX12_against_33
    · have hf := oI_f c2 hf
      refine lv_iconst (v := 1) b.1 b.2.1 dX12_against_28 (by decide) ?_
      refine lv_goto (tgt := 33) b.1 b.2.1 dX12_against_29 (by decide) ?_
      cases hf
      exact k_iret b hlk hr hE (Nat.le_refl _) (Nat.le_refl _) dX12_against_33
  · have hf := oI_f c1 hf
    refine lv_iconst (v := (-1)) b.1 b.2.1 dX12_against_12 (by decide) ?_
    refine lv_goto (tgt := 33) b.1 b.2.1 dX12_against_13 (by decide) ?_
    cases hf
    exact k_iret b hlk hr hE (Nat.le_refl _) (Nat.le_refl _) dX12_against_33
def fX12_against (x0 : Int64) (x2 : Int64) (x4 : Int64) (x6 : Int64) : Option (Int32) := fX12_against_0 x0 x2 x4 x6
set_option maxHeartbeats 4000000 in
theorem CX12_against (l : Launch) (D : va_G) (aC : Nat → ClassId) {E : Heap → Prop} {A : Nat → Prop} {Z : State → Prop} (zk : ZOK Z A) {x0 : Int64} {x2 : Int64} {x4 : Int64} {x6 : Int64} {rz : Int32} (hf : fX12_against x0 x2 x4 x6 = some rz) : CM l D aC Z yX12_against cX12_against 8 (some .int) 0 0 0 0 E [.long x0, .long x2, .long x4, .long x6] E (some (.int rz)) A := by
  refine CM.of rfl ?_
  intro p e s m below meth c b hr hlk hin2 zs hE
  refine k_ent (Nat.le_of_ble_eq_true rfl) (fun ls hl => ?_)
  exact wfX12_against_0 b hlk hr zs zk hf hE (lv_sub hl [0, 1, 2, 3] rfl)
theorem dX12_instances_0 : decode cX12_instances 0 = .ok (.iconst 1, 1) := by decide +kernel
theorem dX12_instances_1 : decode cX12_instances 1 = .ok (.istore_n 2, 1) := by decide +kernel
theorem dX12_instances_2 : decode cX12_instances 2 = .ok (.iconst 0, 1) := by decide +kernel
theorem dX12_instances_3 : decode cX12_instances 3 = .ok (.istore_n 3, 1) := by decide +kernel
theorem dX12_instances_4 : decode cX12_instances 4 = .ok (.iload_n 3, 1) := by decide +kernel
theorem dX12_instances_5 : decode cX12_instances 5 = .ok (.aload_n 0, 1) := by decide +kernel
theorem dX12_instances_6 : decode cX12_instances 6 = .ok (.getfield 91, 3) := by decide +kernel
theorem dX12_instances_9 : decode cX12_instances 9 = .ok (.iload_n 1, 1) := by decide +kernel
theorem dX12_instances_10 : decode cX12_instances 10 = .ok (.iaload, 1) := by decide +kernel
theorem dX12_instances_11 : decode cX12_instances 11 = .ok (.if_icmp .ge 16, 3) := by decide +kernel
theorem dX12_instances_14 : decode cX12_instances 14 = .ok (.iload_n 2, 1) := by decide +kernel
theorem dX12_instances_15 : decode cX12_instances 15 = .ok (.aload_n 0, 1) := by decide +kernel
theorem dX12_instances_16 : decode cX12_instances 16 = .ok (.getfield 338, 3) := by decide +kernel
theorem dX12_instances_19 : decode cX12_instances 19 = .ok (.imul, 1) := by decide +kernel
theorem dX12_instances_20 : decode cX12_instances 20 = .ok (.istore_n 2, 1) := by decide +kernel
theorem dX12_instances_21 : decode cX12_instances 21 = .ok (.iinc 3 1, 3) := by decide +kernel
theorem dX12_instances_24 : decode cX12_instances 24 = .ok (.goto (-20), 3) := by decide +kernel
theorem dX12_instances_27 : decode cX12_instances 27 = .ok (.iload_n 2, 1) := by decide +kernel
theorem dX12_instances_28 : decode cX12_instances 28 = .ok (.ireturn, 1) := by decide +kernel
def fX12_instances_4F (k4 : MS → Int32 → Int32 → Int32 → Option (Int32)) (h : MS) (x1 : Int32) (x2 : Int32) (x3 : Int32) : Option (Int32) :=
  oC (ix x1 (mlen 42)) (if (mA h 42 (Int32.toNatClampNeg x1)) ≤ x3 then (some (x2)) else (oL (x2 * (mI h 18)) (fun y3 => oL (x3 + 1) (fun y4 => k4 h x1 y3 y4))))
set_option maxHeartbeats 4000000 in
theorem wfX12_instances_4F {args : Array Value} (b : Bd p s m c cX12_instances 4 RX12 D aC) (hlk : meth.locks = false) (hr : meth.sig.returnType = some .int) {Z : State → Prop} (zs : Z s) (zk : ZOK Z (Rg ad)) {rz : Int32} {k4 : MS → Int32 → Int32 → Int32 → Option (Int32)} (H4 : ∀ (h : MS) (x1 : Int32) (x2 : Int32) (x3 : Int32), ∀ (H : Heap) (locs : List Loc) (ls : Array Slot), k4 h x1 x2 x3 = some rz → CE (EM D aC ad h) (Rg ad) s H locs → lv_has ls 4 [(0, .ref (ad 116)), (1, .int x1), (2, .int x2), (3, .int x3)] → W p l e (RM 0 0 0 0) s m args below meth c H locs 0 0 (MQ below (PQ (EM D aC ad h) (Rg ad) (some (.int rz))) args s 0 0 (Rg ad)) (F0 m 4 ls [])) {h : MS} {x1 : Int32} {x2 : Int32} {x3 : Int32}  {H : Heap} {locs : List Loc} {ls : Array Slot} (hf : fX12_instances_4F k4 h x1 x2 x3 = some rz) (hE : CE (EM D aC ad h) (Rg ad) s H locs) (hl : lv_has ls 4 [(0, .ref (ad 116)), (1, .int x1), (2, .int x2), (3, .int x3)]) : W p l e (RM 0 0 0 0) s m args below meth c H locs 0 0 (MQ below (PQ (EM D aC ad h) (Rg ad) (some (.int rz))) args s 0 0 (Rg ad)) (F0 m 4 ls []) := by
  unfold fX12_instances_4F at hf
  refine lv_iload_n b.1 b.2.1 dX12_instances_4 rfl (lv_at hl 3 rfl) ?_
  refine lv_aload_n b.1 b.2.1 dX12_instances_5 rfl (lv_at hl 0 rfl) ?_
  refine gM_91 b hE dX12_instances_6 ?_
  refine lv_iload_n b.1 b.2.1 dX12_instances_9 rfl (lv_at hl 1 rfl) ?_
  obtain ⟨g1, hf⟩ := oC_s hf
  refine m_iald b hE rfl rfl g1 dX12_instances_10 ?_
  refine lv_icmp_ge (tgt := 27) b.1 b.2.1 dX12_instances_11 (by decide) (fun c2 => ?_) (fun c2 => ?_)
  · have hf := oI_t c2 hf
    refine lv_iload_n b.1 b.2.1 dX12_instances_27 rfl (lv_at hl 2 rfl) ?_
    cases hf
    exact k_iret b hlk hr hE (Nat.le_refl _) (Nat.le_refl _) dX12_instances_28
  · have hf := oI_f c2 hf
    refine lv_iload_n b.1 b.2.1 dX12_instances_14 rfl (lv_at hl 2 rfl) ?_
    refine lv_aload_n b.1 b.2.1 dX12_instances_15 rfl (lv_at hl 0 rfl) ?_
    refine gM_338 b hE dX12_instances_16 ?_
    refine lv_imul b.1 b.2.1 dX12_instances_19 ?_
    obtain ⟨y3, ey3, hf⟩ := oL_s hf
    refine k_nmI ey3 ?_
    refine lv_istore_n (lv' := [(2, .int y3), (0, .ref (ad 116)), (1, .int x1), (3, .int x3)]) b.1 b.2.1 dX12_instances_20 rfl hl (by decide) rfl (fun ls hl => ?_)
    obtain ⟨y4, ey4, hf⟩ := oL_s hf
    refine lv_iinc (v := y4) (lv' := [(3, .int y4), (2, .int y3), (0, .ref (ad 116)), (1, .int x1)]) b.1 b.2.1 dX12_instances_21 hl (k := 3) rfl (by rw [ey4]; rfl) (by decide) rfl (fun ls hl => ?_)
    refine lv_goto (tgt := 4) b.1 b.2.1 dX12_instances_24 (by decide) ?_
    exact H4 h x1 y3 y4 _ _ _ hf hE (lv_sub hl [2, 3, 1, 0] rfl)
def fX12_instances_4  : Nat → MS → Int32 → Int32 → Int32 → Option (Int32)
  | 0 => fun _ _ _ _ => none
  | n + 1 => fX12_instances_4F  (fX12_instances_4  n)
set_option maxHeartbeats 4000000 in
theorem wfX12_instances_4 {args : Array Value} (b : Bd p s m c cX12_instances 4 RX12 D aC) (hlk : meth.locks = false) (hr : meth.sig.returnType = some .int) {Z : State → Prop} (zs : Z s) (zk : ZOK Z (Rg ad)) {rz : Int32} : ∀ n : Nat, ∀ (h : MS) (x1 : Int32) (x2 : Int32) (x3 : Int32), ∀ (H : Heap) (locs : List Loc) (ls : Array Slot), fX12_instances_4  n h x1 x2 x3 = some rz → CE (EM D aC ad h) (Rg ad) s H locs → lv_has ls 4 [(0, .ref (ad 116)), (1, .int x1), (2, .int x2), (3, .int x3)] → W p l e (RM 0 0 0 0) s m args below meth c H locs 0 0 (MQ below (PQ (EM D aC ad h) (Rg ad) (some (.int rz))) args s 0 0 (Rg ad)) (F0 m 4 ls []) := by
  intro n
  induction n with
  | zero =>
    intro h x1 x2 x3 H locs ls hf
    have hf : (none : Option (Int32)) = some _ := hf
    cases hf
  | succ n ih =>
    intro h x1 x2 x3 H locs ls hf hE hl
    exact wfX12_instances_4F b hlk hr zs zk  ih hf hE hl
def fX12_instances_0  (h : MS) (x1 : Int32) : Option (Int32) :=
  fX12_instances_4  FU h x1 1 0
set_option maxHeartbeats 4000000 in
theorem wfX12_instances_0 {args : Array Value} (b : Bd p s m c cX12_instances 4 RX12 D aC) (hlk : meth.locks = false) (hr : meth.sig.returnType = some .int) {Z : State → Prop} (zs : Z s) (zk : ZOK Z (Rg ad)) {rz : Int32} {h : MS} {x1 : Int32}  {H : Heap} {locs : List Loc} {ls : Array Slot} (hf : fX12_instances_0 h x1 = some rz) (hE : CE (EM D aC ad h) (Rg ad) s H locs) (hl : lv_has ls 4 [(0, .ref (ad 116)), (1, .int x1)]) : W p l e (RM 0 0 0 0) s m args below meth c H locs 0 0 (MQ below (PQ (EM D aC ad h) (Rg ad) (some (.int rz))) args s 0 0 (Rg ad)) (F0 m 0 ls []) := by
  unfold fX12_instances_0 at hf
  refine lv_iconst (v := 1) b.1 b.2.1 dX12_instances_0 (by decide) ?_
  refine lv_istore_n (lv' := [(2, .int 1), (0, .ref (ad 116)), (1, .int x1)]) b.1 b.2.1 dX12_instances_1 rfl hl (by decide) rfl (fun ls hl => ?_)
  refine lv_iconst (v := 0) b.1 b.2.1 dX12_instances_2 (by decide) ?_
  refine lv_istore_n (lv' := [(3, .int 0), (2, .int 1), (0, .ref (ad 116)), (1, .int x1)]) b.1 b.2.1 dX12_instances_3 rfl hl (by decide) rfl (fun ls hl => ?_)
  exact wfX12_instances_4 b hlk hr zs zk  FU h x1 1 0 _ _ _ hf hE (lv_sub hl [2, 3, 1, 0] rfl)
def fX12_instances (h : MS) (x1 : Int32) : Option (Int32) := fX12_instances_0 h x1
set_option maxHeartbeats 4000000 in
theorem CX12_instances (l : Launch) (D : va_G) (aC : Nat → ClassId) (ad : Nat → Nat) {Z : State → Prop} (zk : ZOK Z (Rg ad)) {h : MS} {x1 : Int32} {rz : Int32} (hf : fX12_instances h x1 = some rz) : CM l D aC Z yX12_instances cX12_instances 4 (some .int) 0 0 0 0 (EM D aC ad h) [.ref (ad 116), .int x1] (EM D aC ad h) (some (.int rz)) (Rg ad) := by
  refine CM.of rfl ?_
  intro p e s m below meth c b hr hlk hin2 zs hE
  refine k_ent (Nat.le_of_ble_eq_true rfl) (fun ls hl => ?_)
  exact wfX12_instances_0 b hlk hr zs zk hf hE (lv_sub hl [0, 1] rfl)
theorem dX12_gives_0 : decode cX12_gives 0 = .ok (.iload_n 2, 1) := by decide +kernel
theorem dX12_gives_1 : decode cX12_gives 1 = .ok (.istore_n 3, 1) := by decide +kernel
theorem dX12_gives_2 : decode cX12_gives 2 = .ok (.iconst 2, 1) := by decide +kernel
theorem dX12_gives_3 : decode cX12_gives 3 = .ok (.istore 4, 2) := by decide +kernel
theorem dX12_gives_5 : decode cX12_gives 5 = .ok (.iload 4, 2) := by decide +kernel
theorem dX12_gives_7 : decode cX12_gives 7 = .ok (.ifCond .lt 51, 3) := by decide +kernel
theorem dX12_gives_10 : decode cX12_gives 10 = .ok (.aload_n 0, 1) := by decide +kernel
theorem dX12_gives_11 : decode cX12_gives 11 = .ok (.getfield 216, 3) := by decide +kernel
theorem dX12_gives_14 : decode cX12_gives 14 = .ok (.iload 4, 2) := by decide +kernel
theorem dX12_gives_16 : decode cX12_gives 16 = .ok (.iconst (-1), 1) := by decide +kernel
theorem dX12_gives_17 : decode cX12_gives 17 = .ok (.iastore, 1) := by decide +kernel
theorem dX12_gives_18 : decode cX12_gives 18 = .ok (.iload 4, 2) := by decide +kernel
theorem dX12_gives_20 : decode cX12_gives 20 = .ok (.aload_n 0, 1) := by decide +kernel
theorem dX12_gives_21 : decode cX12_gives 21 = .ok (.getfield 91, 3) := by decide +kernel
theorem dX12_gives_24 : decode cX12_gives 24 = .ok (.iload_n 1, 1) := by decide +kernel
theorem dX12_gives_25 : decode cX12_gives 25 = .ok (.iaload, 1) := by decide +kernel
theorem dX12_gives_26 : decode cX12_gives 26 = .ok (.if_icmp .lt 6, 3) := by decide +kernel
theorem dX12_gives_29 : decode cX12_gives 29 = .ok (.goto 23, 3) := by decide +kernel
theorem dX12_gives_32 : decode cX12_gives 32 = .ok (.aload_n 0, 1) := by decide +kernel
theorem dX12_gives_33 : decode cX12_gives 33 = .ok (.getfield 216, 3) := by decide +kernel
theorem dX12_gives_36 : decode cX12_gives 36 = .ok (.iload 4, 2) := by decide +kernel
theorem dX12_gives_38 : decode cX12_gives 38 = .ok (.iload_n 3, 1) := by decide +kernel
theorem dX12_gives_39 : decode cX12_gives 39 = .ok (.aload_n 0, 1) := by decide +kernel
theorem dX12_gives_40 : decode cX12_gives 40 = .ok (.getfield 338, 3) := by decide +kernel
theorem dX12_gives_43 : decode cX12_gives 43 = .ok (.irem, 1) := by decide +kernel
theorem dX12_gives_44 : decode cX12_gives 44 = .ok (.iastore, 1) := by decide +kernel
theorem dX12_gives_45 : decode cX12_gives 45 = .ok (.iload_n 3, 1) := by decide +kernel
theorem dX12_gives_46 : decode cX12_gives 46 = .ok (.aload_n 0, 1) := by decide +kernel
theorem dX12_gives_47 : decode cX12_gives 47 = .ok (.getfield 338, 3) := by decide +kernel
theorem dX12_gives_50 : decode cX12_gives 50 = .ok (.idiv, 1) := by decide +kernel
theorem dX12_gives_51 : decode cX12_gives 51 = .ok (.istore_n 3, 1) := by decide +kernel
theorem dX12_gives_52 : decode cX12_gives 52 = .ok (.iinc 4 (-1), 3) := by decide +kernel
theorem dX12_gives_55 : decode cX12_gives 55 = .ok (.goto (-50), 3) := by decide +kernel
theorem dX12_gives_58 : decode cX12_gives 58 = .ok (.return_, 1) := by decide +kernel
def fX12_gives_52 (k5 : MS → Int32 → Int32 → Int32 → Option (MS)) (h : MS) (x1 : Int32) (x3 : Int32) (x4 : Int32) : Option (MS) :=
  oL (x4 + (-1)) (fun y1 => k5 h x1 x3 y1)
set_option maxHeartbeats 4000000 in
theorem wfX12_gives_52 {args : Array Value} (b : Bd p s m c cX12_gives 5 RX12 D aC) (hlk : meth.locks = false) (hr : meth.sig.returnType = none) {Z : State → Prop} (zs : Z s) (zk : ZOK Z (Rg ad)) {hz : MS} {k5 : MS → Int32 → Int32 → Int32 → Option (MS)} (H5 : ∀ (h : MS) (x1 : Int32) (x3 : Int32) (x4 : Int32), ∀ (H : Heap) (locs : List Loc) (ls : Array Slot), k5 h x1 x3 x4 = some hz → CE (EM D aC ad h) (Rg ad) s H locs → lv_has ls 5 [(0, .ref (ad 116)), (1, .int x1), (3, .int x3), (4, .int x4)] → W p l e (RM 0 0 0 0) s m args below meth c H locs 0 0 (MQ below (PQ (EM D aC ad hz) (Rg ad) none) args s 0 0 (Rg ad)) (F0 m 5 ls [])) {h : MS} {x1 : Int32} {x3 : Int32} {x4 : Int32}  {H : Heap} {locs : List Loc} {ls : Array Slot} (hf : fX12_gives_52 k5 h x1 x3 x4 = some hz) (hE : CE (EM D aC ad h) (Rg ad) s H locs) (hl : lv_has ls 5 [(0, .ref (ad 116)), (1, .int x1), (3, .int x3), (4, .int x4)]) : W p l e (RM 0 0 0 0) s m args below meth c H locs 0 0 (MQ below (PQ (EM D aC ad hz) (Rg ad) none) args s 0 0 (Rg ad)) (F0 m 52 ls []) := by
  unfold fX12_gives_52 at hf
  obtain ⟨y1, ey1, hf⟩ := oL_s hf
  refine lv_iinc (v := y1) (lv' := [(4, .int y1), (0, .ref (ad 116)), (1, .int x1), (3, .int x3)]) b.1 b.2.1 dX12_gives_52 hl (k := 3) rfl (by rw [ey1]; rfl) (by decide) rfl (fun ls hl => ?_)
  refine lv_goto (tgt := 5) b.1 b.2.1 dX12_gives_55 (by decide) ?_
  exact H5 h x1 x3 y1 _ _ _ hf hE (lv_sub hl [1, 2, 3, 0] rfl)
def fX12_gives_5F (k5 : MS → Int32 → Int32 → Int32 → Option (MS)) (h : MS) (x1 : Int32) (x3 : Int32) (x4 : Int32) : Option (MS) :=
  if x4 < 0 then (some (h)) else (oC (ix x4 (mlen 95)) (oL (mSA h 95 (Int32.toNatClampNeg x4) (-1)) (fun h4 => oC (ix x1 (mlen 42)) (if x4 < (mA h4 42 (Int32.toNatClampNeg x1)) then (oC (decide (¬ (mI h4 18) = 0)) (oC (ix x4 (mlen 95)) (oL (mSA h4 95 (Int32.toNatClampNeg x4) (x3 - x3 / (mI h4 18) * (mI h4 18))) (fun h9 => oC (decide (¬ (mI h9 18) = 0)) (oL (x3 / (mI h9 18)) (fun y11 => fX12_gives_52 k5 h9 x1 y11 x4)))))) else (fX12_gives_52 k5 h4 x1 x3 x4)))))
set_option maxHeartbeats 4000000 in
theorem wfX12_gives_5F {args : Array Value} (b : Bd p s m c cX12_gives 5 RX12 D aC) (hlk : meth.locks = false) (hr : meth.sig.returnType = none) {Z : State → Prop} (zs : Z s) (zk : ZOK Z (Rg ad)) {hz : MS} {k5 : MS → Int32 → Int32 → Int32 → Option (MS)} (H5 : ∀ (h : MS) (x1 : Int32) (x3 : Int32) (x4 : Int32), ∀ (H : Heap) (locs : List Loc) (ls : Array Slot), k5 h x1 x3 x4 = some hz → CE (EM D aC ad h) (Rg ad) s H locs → lv_has ls 5 [(0, .ref (ad 116)), (1, .int x1), (3, .int x3), (4, .int x4)] → W p l e (RM 0 0 0 0) s m args below meth c H locs 0 0 (MQ below (PQ (EM D aC ad hz) (Rg ad) none) args s 0 0 (Rg ad)) (F0 m 5 ls [])) {h : MS} {x1 : Int32} {x3 : Int32} {x4 : Int32}  {H : Heap} {locs : List Loc} {ls : Array Slot} (hf : fX12_gives_5F k5 h x1 x3 x4 = some hz) (hE : CE (EM D aC ad h) (Rg ad) s H locs) (hl : lv_has ls 5 [(0, .ref (ad 116)), (1, .int x1), (3, .int x3), (4, .int x4)]) : W p l e (RM 0 0 0 0) s m args below meth c H locs 0 0 (MQ below (PQ (EM D aC ad hz) (Rg ad) none) args s 0 0 (Rg ad)) (F0 m 5 ls []) := by
  unfold fX12_gives_5F at hf
  refine lv_iload b.1 b.2.1 dX12_gives_5 (lv_at hl 3 rfl) ?_
  refine lv_if_lt (tgt := 58) b.1 b.2.1 dX12_gives_7 (by decide) (fun c2 => ?_) (fun c2 => ?_)
  · have hf := oI_t c2 hf
    cases hf
    exact k_vret b hlk hr hE (Nat.le_refl _) (Nat.le_refl _) dX12_gives_58
  · have hf := oI_f c2 hf
    refine lv_aload_n b.1 b.2.1 dX12_gives_10 rfl (lv_at hl 0 rfl) ?_
    refine gM_216 b hE dX12_gives_11 ?_
    refine lv_iload b.1 b.2.1 dX12_gives_14 (lv_at hl 3 rfl) ?_
    refine lv_iconst (v := (-1)) b.1 b.2.1 dX12_gives_16 (by decide) ?_
    obtain ⟨g3, hf⟩ := oC_s hf
    obtain ⟨h4, eh4, hf⟩ := oL_s hf
    refine n_iast b hE rfl rfl g3 eh4 dX12_gives_17 (fun H locs hE => ?_)
    refine lv_iload b.1 b.2.1 dX12_gives_18 (lv_at hl 3 rfl) ?_
    refine lv_aload_n b.1 b.2.1 dX12_gives_20 rfl (lv_at hl 0 rfl) ?_
    refine gM_91 b hE dX12_gives_21 ?_
    refine lv_iload_n b.1 b.2.1 dX12_gives_24 rfl (lv_at hl 1 rfl) ?_
    obtain ⟨g5, hf⟩ := oC_s hf
    refine m_iald b hE rfl rfl g5 dX12_gives_25 ?_
    refine lv_icmp_lt (tgt := 32) b.1 b.2.1 dX12_gives_26 (by decide) (fun c6 => ?_) (fun c6 => ?_)
    · have hf := oI_t c6 hf
      refine lv_aload_n b.1 b.2.1 dX12_gives_32 rfl (lv_at hl 0 rfl) ?_
      refine gM_216 b hE dX12_gives_33 ?_
      refine lv_iload b.1 b.2.1 dX12_gives_36 (lv_at hl 3 rfl) ?_
      refine lv_iload_n b.1 b.2.1 dX12_gives_38 rfl (lv_at hl 2 rfl) ?_
      refine lv_aload_n b.1 b.2.1 dX12_gives_39 rfl (lv_at hl 0 rfl) ?_
      refine gM_338 b hE dX12_gives_40 ?_
      obtain ⟨g7, hf⟩ := oC_s hf
      refine lv_irem b.1 b.2.1 dX12_gives_43 (of_decide_eq_true g7) ?_
      obtain ⟨g8, hf⟩ := oC_s hf
      obtain ⟨h9, eh9, hf⟩ := oL_s hf
      refine n_iast b hE rfl rfl g8 eh9 dX12_gives_44 (fun H locs hE => ?_)
      refine lv_iload_n b.1 b.2.1 dX12_gives_45 rfl (lv_at hl 2 rfl) ?_
      refine lv_aload_n b.1 b.2.1 dX12_gives_46 rfl (lv_at hl 0 rfl) ?_
      refine gM_338 b hE dX12_gives_47 ?_
      obtain ⟨g10, hf⟩ := oC_s hf
      refine lv_idiv b.1 b.2.1 dX12_gives_50 (of_decide_eq_true g10) ?_
      obtain ⟨y11, ey11, hf⟩ := oL_s hf
      refine k_nmI ey11 ?_
      refine lv_istore_n (lv' := [(3, .int y11), (0, .ref (ad 116)), (1, .int x1), (4, .int x4)]) b.1 b.2.1 dX12_gives_51 rfl hl (by decide) rfl (fun ls hl => ?_)
      exact wfX12_gives_52 b hlk hr zs zk H5 hf hE (lv_sub hl [1, 2, 0, 3] rfl)
    · have hf := oI_f c6 hf
      refine lv_goto (tgt := 52) b.1 b.2.1 dX12_gives_29 (by decide) ?_
      exact wfX12_gives_52 b hlk hr zs zk H5 hf hE (lv_sub hl [0, 1, 2, 3] rfl)
def fX12_gives_5  : Nat → MS → Int32 → Int32 → Int32 → Option (MS)
  | 0 => fun _ _ _ _ => none
  | n + 1 => fX12_gives_5F  (fX12_gives_5  n)
set_option maxHeartbeats 4000000 in
theorem wfX12_gives_5 {args : Array Value} (b : Bd p s m c cX12_gives 5 RX12 D aC) (hlk : meth.locks = false) (hr : meth.sig.returnType = none) {Z : State → Prop} (zs : Z s) (zk : ZOK Z (Rg ad)) {hz : MS} : ∀ n : Nat, ∀ (h : MS) (x1 : Int32) (x3 : Int32) (x4 : Int32), ∀ (H : Heap) (locs : List Loc) (ls : Array Slot), fX12_gives_5  n h x1 x3 x4 = some hz → CE (EM D aC ad h) (Rg ad) s H locs → lv_has ls 5 [(0, .ref (ad 116)), (1, .int x1), (3, .int x3), (4, .int x4)] → W p l e (RM 0 0 0 0) s m args below meth c H locs 0 0 (MQ below (PQ (EM D aC ad hz) (Rg ad) none) args s 0 0 (Rg ad)) (F0 m 5 ls []) := by
  intro n
  induction n with
  | zero =>
    intro h x1 x3 x4 H locs ls hf
    have hf : (none : Option (MS)) = some _ := hf
    cases hf
  | succ n ih =>
    intro h x1 x3 x4 H locs ls hf hE hl
    exact wfX12_gives_5F b hlk hr zs zk  ih hf hE hl
def fX12_gives_0  (h : MS) (x1 : Int32) (x2 : Int32) : Option (MS) :=
  fX12_gives_5  FU h x1 x2 2
set_option maxHeartbeats 4000000 in
theorem wfX12_gives_0 {args : Array Value} (b : Bd p s m c cX12_gives 5 RX12 D aC) (hlk : meth.locks = false) (hr : meth.sig.returnType = none) {Z : State → Prop} (zs : Z s) (zk : ZOK Z (Rg ad)) {hz : MS} {h : MS} {x1 : Int32} {x2 : Int32}  {H : Heap} {locs : List Loc} {ls : Array Slot} (hf : fX12_gives_0 h x1 x2 = some hz) (hE : CE (EM D aC ad h) (Rg ad) s H locs) (hl : lv_has ls 5 [(0, .ref (ad 116)), (1, .int x1), (2, .int x2)]) : W p l e (RM 0 0 0 0) s m args below meth c H locs 0 0 (MQ below (PQ (EM D aC ad hz) (Rg ad) none) args s 0 0 (Rg ad)) (F0 m 0 ls []) := by
  unfold fX12_gives_0 at hf
  refine lv_iload_n b.1 b.2.1 dX12_gives_0 rfl (lv_at hl 2 rfl) ?_
  refine lv_istore_n (lv' := [(3, .int x2), (0, .ref (ad 116)), (1, .int x1), (2, .int x2)]) b.1 b.2.1 dX12_gives_1 rfl hl (by decide) rfl (fun ls hl => ?_)
  have hl := lv_sub (l' := [(3, .int x2), (0, .ref (ad 116)), (1, .int x1)]) hl [0, 1, 2] rfl
  refine lv_iconst (v := 2) b.1 b.2.1 dX12_gives_2 (by decide) ?_
  refine lv_istore (lv' := [(4, .int 2), (3, .int x2), (0, .ref (ad 116)), (1, .int x1)]) b.1 b.2.1 dX12_gives_3 hl (by decide) rfl (fun ls hl => ?_)
  exact wfX12_gives_5 b hlk hr zs zk  FU h x1 x2 2 _ _ _ hf hE (lv_sub hl [2, 3, 1, 0] rfl)
def fX12_gives (h : MS) (x1 : Int32) (x2 : Int32) : Option (MS) := fX12_gives_0 h x1 x2
set_option maxHeartbeats 4000000 in
theorem CX12_gives (l : Launch) (D : va_G) (aC : Nat → ClassId) (ad : Nat → Nat) {Z : State → Prop} (zk : ZOK Z (Rg ad)) {h : MS} {x1 : Int32} {x2 : Int32} {hz : MS} (hf : fX12_gives h x1 x2 = some hz) : CM l D aC Z yX12_gives cX12_gives 5 (none) 0 0 0 0 (EM D aC ad h) [.ref (ad 116), .int x1, .int x2] (EM D aC ad hz) none (Rg ad) := by
  refine CM.of rfl ?_
  intro p e s m below meth c b hr hlk hin2 zs hE
  refine k_ent (Nat.le_of_ble_eq_true rfl) (fun ls hl => ?_)
  exact wfX12_gives_0 b hlk hr zs zk hf hE (lv_sub hl [0, 1, 2] rfl)
theorem dX12_literalBy_0 : decode cX12_literalBy 0 = .ok (.iload_n 3, 1) := by decide +kernel
theorem dX12_literalBy_1 : decode cX12_literalBy 1 = .ok (.iconst (-1), 1) := by decide +kernel
theorem dX12_literalBy_2 : decode cX12_literalBy 2 = .ok (.if_icmp .ne 7, 3) := by decide +kernel
theorem dX12_literalBy_5 : decode cX12_literalBy 5 = .ok (.iconst 0, 1) := by decide +kernel
theorem dX12_literalBy_6 : decode cX12_literalBy 6 = .ok (.goto 11, 3) := by decide +kernel
theorem dX12_literalBy_9 : decode cX12_literalBy 9 = .ok (.iload_n 3, 1) := by decide +kernel
theorem dX12_literalBy_10 : decode cX12_literalBy 10 = .ok (.aload_n 0, 1) := by decide +kernel
theorem dX12_literalBy_11 : decode cX12_literalBy 11 = .ok (.getfield 216, 3) := by decide +kernel
theorem dX12_literalBy_14 : decode cX12_literalBy 14 = .ok (.invokestatic 470, 3) := by decide +kernel
theorem dX12_literalBy_17 : decode cX12_literalBy 17 = .ok (.istore 5, 2) := by decide +kernel
theorem dX12_literalBy_19 : decode cX12_literalBy 19 = .ok (.iload 4, 2) := by decide +kernel
theorem dX12_literalBy_21 : decode cX12_literalBy 21 = .ok (.iconst (-1), 1) := by decide +kernel
theorem dX12_literalBy_22 : decode cX12_literalBy 22 = .ok (.if_icmp .ne 7, 3) := by decide +kernel
theorem dX12_literalBy_25 : decode cX12_literalBy 25 = .ok (.iconst 0, 1) := by decide +kernel
theorem dX12_literalBy_26 : decode cX12_literalBy 26 = .ok (.goto 12, 3) := by decide +kernel
theorem dX12_literalBy_29 : decode cX12_literalBy 29 = .ok (.iload 4, 2) := by decide +kernel
theorem dX12_literalBy_31 : decode cX12_literalBy 31 = .ok (.aload_n 0, 1) := by decide +kernel
theorem dX12_literalBy_32 : decode cX12_literalBy 32 = .ok (.getfield 216, 3) := by decide +kernel
theorem dX12_literalBy_35 : decode cX12_literalBy 35 = .ok (.invokestatic 470, 3) := by decide +kernel
theorem dX12_literalBy_38 : decode cX12_literalBy 38 = .ok (.istore 6, 2) := by decide +kernel
theorem dX12_literalBy_40 : decode cX12_literalBy 40 = .ok (.iload_n 1, 1) := by decide +kernel
theorem dX12_literalBy_41 : decode cX12_literalBy 41 = .ok (.iconst 5, 1) := by decide +kernel
theorem dX12_literalBy_42 : decode cX12_literalBy 42 = .ok (.imul, 1) := by decide +kernel
theorem dX12_literalBy_43 : decode cX12_literalBy 43 = .ok (.iload 5, 2) := by decide +kernel
theorem dX12_literalBy_45 : decode cX12_literalBy 45 = .ok (.iadd, 1) := by decide +kernel
theorem dX12_literalBy_46 : decode cX12_literalBy 46 = .ok (.iconst 5, 1) := by decide +kernel
theorem dX12_literalBy_47 : decode cX12_literalBy 47 = .ok (.imul, 1) := by decide +kernel
theorem dX12_literalBy_48 : decode cX12_literalBy 48 = .ok (.iload 6, 2) := by decide +kernel
theorem dX12_literalBy_50 : decode cX12_literalBy 50 = .ok (.iadd, 1) := by decide +kernel
theorem dX12_literalBy_51 : decode cX12_literalBy 51 = .ok (.iconst 2, 1) := by decide +kernel
theorem dX12_literalBy_52 : decode cX12_literalBy 52 = .ok (.imul, 1) := by decide +kernel
theorem dX12_literalBy_53 : decode cX12_literalBy 53 = .ok (.iload_n 2, 1) := by decide +kernel
theorem dX12_literalBy_54 : decode cX12_literalBy 54 = .ok (.ifCond .eq 7, 3) := by decide +kernel
theorem dX12_literalBy_57 : decode cX12_literalBy 57 = .ok (.iconst 0, 1) := by decide +kernel
theorem dX12_literalBy_58 : decode cX12_literalBy 58 = .ok (.goto 4, 3) := by decide +kernel
theorem dX12_literalBy_61 : decode cX12_literalBy 61 = .ok (.iconst 1, 1) := by decide +kernel
theorem dX12_literalBy_62 : decode cX12_literalBy 62 = .ok (.iadd, 1) := by decide +kernel
theorem dX12_literalBy_63 : decode cX12_literalBy 63 = .ok (.ireturn, 1) := by decide +kernel
def fX12_literalBy_62  (h : MS) (s0 : Int32) (s1 : Int32) : Option (Int32) :=
  some ((s1 + s0))
set_option maxHeartbeats 4000000 in
theorem wfX12_literalBy_62 {args : Array Value} (b : Bd p s m c cX12_literalBy 7 RX12 D aC) (hlk : meth.locks = false) (hr : meth.sig.returnType = some .int) {Z : State → Prop} (zs : Z s) (zk : ZOK Z (Rg ad)) {rz : Int32} {h : MS} {s0 : Int32} {s1 : Int32}  {H : Heap} {locs : List Loc} {ls : Array Slot} (hf : fX12_literalBy_62 h s0 s1 = some rz) (hE : CE (EM D aC ad h) (Rg ad) s H locs) (hl : lv_has ls 7 []) : W p l e (RM 1 21 0 0) s m args below meth c H locs 0 0 (MQ below (PQ (EM D aC ad h) (Rg ad) (some (.int rz))) args s 0 0 (Rg ad)) (F0 m 62 ls [.int s0, .int s1]) := by
  unfold fX12_literalBy_62 at hf
  refine lv_iadd b.1 b.2.1 dX12_literalBy_62 ?_
  cases hf
  exact k_iret b hlk hr hE (Nat.le_refl _) (Nat.le_refl _) dX12_literalBy_63
def fX12_literalBy_38  (h : MS) (x1 : Int32) (x2 : Int32) (x5 : Int32) (s0 : Int32) : Option (Int32) :=
  if x2 = 0 then (fX12_literalBy_62  h 1 (((((x1 * 5) + x5) * 5) + s0) * 2)) else (fX12_literalBy_62  h 0 (((((x1 * 5) + x5) * 5) + s0) * 2))
set_option maxHeartbeats 4000000 in
theorem wfX12_literalBy_38 {args : Array Value} (b : Bd p s m c cX12_literalBy 7 RX12 D aC) (hlk : meth.locks = false) (hr : meth.sig.returnType = some .int) {Z : State → Prop} (zs : Z s) (zk : ZOK Z (Rg ad)) {rz : Int32} {h : MS} {x1 : Int32} {x2 : Int32} {x5 : Int32} {s0 : Int32}  {H : Heap} {locs : List Loc} {ls : Array Slot} (hf : fX12_literalBy_38 h x1 x2 x5 s0 = some rz) (hE : CE (EM D aC ad h) (Rg ad) s H locs) (hl : lv_has ls 7 [(1, .int x1), (2, .int x2), (5, .int x5)]) : W p l e (RM 1 21 0 0) s m args below meth c H locs 0 0 (MQ below (PQ (EM D aC ad h) (Rg ad) (some (.int rz))) args s 0 0 (Rg ad)) (F0 m 38 ls [.int s0]) := by
  unfold fX12_literalBy_38 at hf
  refine lv_istore (lv' := [(6, .int s0), (1, .int x1), (2, .int x2), (5, .int x5)]) b.1 b.2.1 dX12_literalBy_38 hl (by decide) rfl (fun ls hl => ?_)
  refine lv_iload_n b.1 b.2.1 dX12_literalBy_40 rfl (lv_at hl 1 rfl) ?_
  refine lv_iconst (v := 5) b.1 b.2.1 dX12_literalBy_41 (by decide) ?_
  refine lv_imul b.1 b.2.1 dX12_literalBy_42 ?_
  refine lv_iload b.1 b.2.1 dX12_literalBy_43 (lv_at hl 3 rfl) ?_
  refine lv_iadd b.1 b.2.1 dX12_literalBy_45 ?_
  refine lv_iconst (v := 5) b.1 b.2.1 dX12_literalBy_46 (by decide) ?_
  refine lv_imul b.1 b.2.1 dX12_literalBy_47 ?_
  refine lv_iload b.1 b.2.1 dX12_literalBy_48 (lv_at hl 0 rfl) ?_
  refine lv_iadd b.1 b.2.1 dX12_literalBy_50 ?_
  refine lv_iconst (v := 2) b.1 b.2.1 dX12_literalBy_51 (by decide) ?_
  refine lv_imul b.1 b.2.1 dX12_literalBy_52 ?_
  refine lv_iload_n b.1 b.2.1 dX12_literalBy_53 rfl (lv_at hl 2 rfl) ?_
  refine lv_if_eq (tgt := 61) b.1 b.2.1 dX12_literalBy_54 (by decide) (fun c1 => ?_) (fun c1 => ?_)
  · have hf := oI_t c1 hf
    refine lv_iconst (v := 1) b.1 b.2.1 dX12_literalBy_61 (by decide) ?_
    exact wfX12_literalBy_62 b hlk hr zs zk  hf hE (lv_sub hl [] rfl)
  · have hf := oI_f c1 hf
    refine lv_iconst (v := 0) b.1 b.2.1 dX12_literalBy_57 (by decide) ?_
    refine lv_goto (tgt := 62) b.1 b.2.1 dX12_literalBy_58 (by decide) ?_
    exact wfX12_literalBy_62 b hlk hr zs zk  hf hE (lv_sub hl [] rfl)
def fX12_literalBy_17  (h : MS) (x1 : Int32) (x2 : Int32) (x4 : Int32) (s0 : Int32) : Option (Int32) :=
  if x4 = (-1) then (fX12_literalBy_38  h x1 x2 s0 0) else (oB (fX12_personOf h x4 95) (fun r4 => fX12_literalBy_38  h x1 x2 s0 r4))
set_option maxHeartbeats 4000000 in
theorem wfX12_literalBy_17 {args : Array Value} (b : Bd p s m c cX12_literalBy 7 RX12 D aC) (hlk : meth.locks = false) (hr : meth.sig.returnType = some .int) {Z : State → Prop} (zs : Z s) (zk : ZOK Z (Rg ad)) {rz : Int32} {h : MS} {x1 : Int32} {x2 : Int32} {x4 : Int32} {s0 : Int32}  {H : Heap} {locs : List Loc} {ls : Array Slot} (hf : fX12_literalBy_17 h x1 x2 x4 s0 = some rz) (hE : CE (EM D aC ad h) (Rg ad) s H locs) (hl : lv_has ls 7 [(0, .ref (ad 116)), (1, .int x1), (2, .int x2), (4, .int x4)]) : W p l e (RM 1 21 0 0) s m args below meth c H locs 0 0 (MQ below (PQ (EM D aC ad h) (Rg ad) (some (.int rz))) args s 0 0 (Rg ad)) (F0 m 17 ls [.int s0]) := by
  unfold fX12_literalBy_17 at hf
  refine lv_istore (lv' := [(5, .int s0), (0, .ref (ad 116)), (1, .int x1), (2, .int x2), (4, .int x4)]) b.1 b.2.1 dX12_literalBy_17 hl (by decide) rfl (fun ls hl => ?_)
  refine lv_iload b.1 b.2.1 dX12_literalBy_19 (lv_at hl 4 rfl) ?_
  refine lv_iconst (v := (-1)) b.1 b.2.1 dX12_literalBy_21 (by decide) ?_
  refine lv_icmp_ne (tgt := 29) b.1 b.2.1 dX12_literalBy_22 (by decide) (fun c2 => ?_) (fun c2 => ?_)
  · have hf := oI_f c2 hf
    refine lv_iload b.1 b.2.1 dX12_literalBy_29 (lv_at hl 4 rfl) ?_
    refine lv_aload_n b.1 b.2.1 dX12_literalBy_31 rfl (lv_at hl 1 rfl) ?_
    refine gM_216 b hE dX12_literalBy_32 ?_
    obtain ⟨r4, hc3, hf⟩ := oB_s hf
    refine k_callS0 b zs zk hE (CX12_personOf l D aC ad zk hc3) mc_X12_personOf (in8 21 rfl rfl) mt_X12_personOf ini_RX12 ok_X12_personOf ⟨Nat.le_of_ble_eq_true rfl, Nat.le_of_ble_eq_true rfl⟩ rfl hl.1 rfl (k_room _ (by exact Nat.le_of_ble_eq_true rfl)) ⟨Nat.le_refl _, Nat.le_refl _⟩ dX12_literalBy_35 (fun H locs hE => ?_)
    exact wfX12_literalBy_38 b hlk hr zs zk  hf hE (lv_sub hl [2, 3, 0] rfl)
  · have hf := oI_t c2 hf
    refine lv_iconst (v := 0) b.1 b.2.1 dX12_literalBy_25 (by decide) ?_
    refine lv_goto (tgt := 38) b.1 b.2.1 dX12_literalBy_26 (by decide) ?_
    exact wfX12_literalBy_38 b hlk hr zs zk  hf hE (lv_sub hl [2, 3, 0] rfl)
def fX12_literalBy_0  (h : MS) (x1 : Int32) (x2 : Int32) (x3 : Int32) (x4 : Int32) : Option (Int32) :=
  if x3 = (-1) then (fX12_literalBy_17  h x1 x2 x4 0) else (oB (fX12_personOf h x3 95) (fun r7 => fX12_literalBy_17  h x1 x2 x4 r7))
set_option maxHeartbeats 4000000 in
theorem wfX12_literalBy_0 {args : Array Value} (b : Bd p s m c cX12_literalBy 7 RX12 D aC) (hlk : meth.locks = false) (hr : meth.sig.returnType = some .int) {Z : State → Prop} (zs : Z s) (zk : ZOK Z (Rg ad)) {rz : Int32} {h : MS} {x1 : Int32} {x2 : Int32} {x3 : Int32} {x4 : Int32}  {H : Heap} {locs : List Loc} {ls : Array Slot} (hf : fX12_literalBy_0 h x1 x2 x3 x4 = some rz) (hE : CE (EM D aC ad h) (Rg ad) s H locs) (hl : lv_has ls 7 [(0, .ref (ad 116)), (1, .int x1), (2, .int x2), (3, .int x3), (4, .int x4)]) : W p l e (RM 1 21 0 0) s m args below meth c H locs 0 0 (MQ below (PQ (EM D aC ad h) (Rg ad) (some (.int rz))) args s 0 0 (Rg ad)) (F0 m 0 ls []) := by
  unfold fX12_literalBy_0 at hf
  refine lv_iload_n b.1 b.2.1 dX12_literalBy_0 rfl (lv_at hl 3 rfl) ?_
  refine lv_iconst (v := (-1)) b.1 b.2.1 dX12_literalBy_1 (by decide) ?_
  refine lv_icmp_ne (tgt := 9) b.1 b.2.1 dX12_literalBy_2 (by decide) (fun c5 => ?_) (fun c5 => ?_)
  · have hf := oI_f c5 hf
    refine lv_iload_n b.1 b.2.1 dX12_literalBy_9 rfl (lv_at hl 3 rfl) ?_
    refine lv_aload_n b.1 b.2.1 dX12_literalBy_10 rfl (lv_at hl 0 rfl) ?_
    refine gM_216 b hE dX12_literalBy_11 ?_
    obtain ⟨r7, hc6, hf⟩ := oB_s hf
    refine k_callS0 b zs zk hE (CX12_personOf l D aC ad zk hc6) mc_X12_personOf (in8 21 rfl rfl) mt_X12_personOf ini_RX12 ok_X12_personOf ⟨Nat.le_of_ble_eq_true rfl, Nat.le_of_ble_eq_true rfl⟩ rfl hl.1 rfl (k_room _ (by exact Nat.le_of_ble_eq_true rfl)) ⟨Nat.le_refl _, Nat.le_refl _⟩ dX12_literalBy_14 (fun H locs hE => ?_)
    exact wfX12_literalBy_17 b hlk hr zs zk  hf hE (lv_sub hl [0, 1, 2, 4] rfl)
  · have hf := oI_t c5 hf
    refine lv_iconst (v := 0) b.1 b.2.1 dX12_literalBy_5 (by decide) ?_
    refine lv_goto (tgt := 17) b.1 b.2.1 dX12_literalBy_6 (by decide) ?_
    exact wfX12_literalBy_17 b hlk hr zs zk  hf hE (lv_sub hl [0, 1, 2, 4] rfl)
def fX12_literalBy (h : MS) (x1 : Int32) (x2 : Int32) (x3 : Int32) (x4 : Int32) : Option (Int32) := fX12_literalBy_0 h x1 x2 x3 x4
set_option maxHeartbeats 4000000 in
theorem CX12_literalBy (l : Launch) (D : va_G) (aC : Nat → ClassId) (ad : Nat → Nat) {Z : State → Prop} (zk : ZOK Z (Rg ad)) {h : MS} {x1 : Int32} {x2 : Int32} {x3 : Int32} {x4 : Int32} {rz : Int32} (hf : fX12_literalBy h x1 x2 x3 x4 = some rz) : CM l D aC Z yX12_literalBy cX12_literalBy 7 (some .int) 1 21 0 0 (EM D aC ad h) [.ref (ad 116), .int x1, .int x2, .int x3, .int x4] (EM D aC ad h) (some (.int rz)) (Rg ad) := by
  refine CM.of rfl ?_
  intro p e s m below meth c b hr hlk hin2 zs hE
  refine k_ent (Nat.le_of_ble_eq_true rfl) (fun ls hl => ?_)
  exact wfX12_literalBy_0 b hlk hr zs zk hf hE (lv_sub hl [0, 1, 2, 3, 4] rfl)
end
