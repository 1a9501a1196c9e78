section
variable {p : Program} {l : Launch} {e : Env} {s : State} {m : MethodId} {below : List Frame} {meth : Method} {c : Code} {D : va_G} {aC : Nat → ClassId} {ad : Nat → Nat}
theorem dX12_put_0 : decode cX12_put 0 = .ok (.bipush 24, 2) := by decide +kernel
theorem dX12_put_2 : decode cX12_put 2 = .ok (.istore_n 2, 1) := by decide +kernel
theorem dX12_put_3 : decode cX12_put 3 = .ok (.iload_n 2, 1) := by decide +kernel
theorem dX12_put_4 : decode cX12_put 4 = .ok (.ifCond .lt 32, 3) := by decide +kernel
theorem dX12_put_7 : decode cX12_put 7 = .ok (.aload_n 0, 1) := by decide +kernel
theorem dX12_put_8 : decode cX12_put 8 = .ok (.getfield 13, 3) := by decide +kernel
theorem dX12_put_11 : decode cX12_put 11 = .ok (.aload_n 0, 1) := by decide +kernel
theorem dX12_put_12 : decode cX12_put 12 = .ok (.getfield 256, 3) := by decide +kernel
theorem dX12_put_15 : decode cX12_put 15 = .ok (.iload_n 1, 1) := by decide +kernel
theorem dX12_put_16 : decode cX12_put 16 = .ok (.iload_n 2, 1) := by decide +kernel
theorem dX12_put_17 : decode cX12_put 17 = .ok (.ishr, 1) := by decide +kernel
theorem dX12_put_18 : decode cX12_put 18 = .ok (.i2b, 1) := by decide +kernel
theorem dX12_put_19 : decode cX12_put 19 = .ok (.bastore, 1) := by decide +kernel
theorem dX12_put_20 : decode cX12_put 20 = .ok (.aload_n 0, 1) := by decide +kernel
theorem dX12_put_21 : decode cX12_put 21 = .ok (.dup, 1) := by decide +kernel
theorem dX12_put_22 : decode cX12_put 22 = .ok (.getfield 256, 3) := by decide +kernel
theorem dX12_put_25 : decode cX12_put 25 = .ok (.iconst 1, 1) := by decide +kernel
theorem dX12_put_26 : decode cX12_put 26 = .ok (.iadd, 1) := by decide +kernel
theorem dX12_put_27 : decode cX12_put 27 = .ok (.putfield 256, 3) := by decide +kernel
theorem dX12_put_30 : decode cX12_put 30 = .ok (.iinc 2 (-8), 3) := by decide +kernel
theorem dX12_put_33 : decode cX12_put 33 = .ok (.goto (-30), 3) := by decide +kernel
theorem dX12_put_36 : decode cX12_put 36 = .ok (.return_, 1) := by decide +kernel
def fX12_put_3F (k3 : MS → Int32 → Int32 → Option (MS)) (h : MS) (x1 : Int32) (x2 : Int32) : Option (MS) :=
  if x2 < 0 then (some (h)) else (oC (ix (mI h 2) (mlen 1)) (oL (mSA h 1 (Int32.toNatClampNeg (mI h 2)) (Int8.toInt32 (Int32.toInt8 (Int8.toInt32 (Int32.toInt8 (x1 >>> (x2 &&& 31))))))) (fun h3 => oL (mSI h3 2 ((mI h3 2) + 1)) (fun h4 => oL (x2 + (-8)) (fun y5 => k3 h4 x1 y5)))))
set_option maxHeartbeats 4000000 in
theorem wfX12_put_3F {args : Array Value} (b : Bd p s m c cX12_put 3 RX12 D aC) (hlk : meth.locks = false) (hr : meth.sig.returnType = none) {Z : State → Prop} (zs : Z s) (zk : ZOK Z (Rg ad)) {hz : MS} {k3 : MS → Int32 → Int32 → Option (MS)} (H3 : ∀ (h : MS) (x1 : Int32) (x2 : Int32), ∀ (H : Heap) (locs : List Loc) (ls : Array Slot), k3 h x1 x2 = some hz → CE (EM D aC ad h) (Rg ad) s H locs → lv_has ls 3 [(0, .ref (ad 116)), (1, .int x1), (2, .int x2)] → W p l e (RM 0 0 0 0) s m args below meth c H locs 0 0 (MQ below (PQ (EM D aC ad hz) (Rg ad) none) args s 0 0 (Rg ad)) (F0 m 3 ls [])) {h : MS} {x1 : Int32} {x2 : Int32}  {H : Heap} {locs : List Loc} {ls : Array Slot} (hf : fX12_put_3F k3 h x1 x2 = some hz) (hE : CE (EM D aC ad h) (Rg ad) s H locs) (hl : lv_has ls 3 [(0, .ref (ad 116)), (1, .int x1), (2, .int x2)]) : W p l e (RM 0 0 0 0) s m args below meth c H locs 0 0 (MQ below (PQ (EM D aC ad hz) (Rg ad) none) args s 0 0 (Rg ad)) (F0 m 3 ls []) := by
  unfold fX12_put_3F at hf
  refine lv_iload_n b.1 b.2.1 dX12_put_3 rfl (lv_at hl 2 rfl) ?_
  refine lv_if_lt (tgt := 36) b.1 b.2.1 dX12_put_4 (by decide) (fun c1 => ?_) (fun c1 => ?_)
  · have hf := oI_t c1 hf
    cases hf
    exact k_vret b hlk hr hE (Nat.le_refl _) (Nat.le_refl _) dX12_put_36
  · have hf := oI_f c1 hf
    refine lv_aload_n b.1 b.2.1 dX12_put_7 rfl (lv_at hl 0 rfl) ?_
    refine gM_13 b hE dX12_put_8 ?_
    refine lv_aload_n b.1 b.2.1 dX12_put_11 rfl (lv_at hl 0 rfl) ?_
    refine gM_256 b hE dX12_put_12 ?_
    refine lv_iload_n b.1 b.2.1 dX12_put_15 rfl (lv_at hl 1 rfl) ?_
    refine lv_iload_n b.1 b.2.1 dX12_put_16 rfl (lv_at hl 2 rfl) ?_
    refine lv_ishr b.1 b.2.1 dX12_put_17 ?_
    refine lv_i2b b.1 b.2.1 dX12_put_18 rfl ?_
    obtain ⟨g2, hf⟩ := oC_s hf
    obtain ⟨h3, eh3, hf⟩ := oL_s hf
    refine n_bast b hE rfl rfl g2 eh3 dX12_put_19 (fun H locs hE => ?_)
    refine lv_aload_n b.1 b.2.1 dX12_put_20 rfl (lv_at hl 0 rfl) ?_
    refine lv_dup b.1 b.2.1 dX12_put_21 rfl ?_
    refine gM_256 b hE dX12_put_22 ?_
    refine lv_iconst (v := 1) b.1 b.2.1 dX12_put_25 (by decide) ?_
    refine lv_iadd b.1 b.2.1 dX12_put_26 ?_
    obtain ⟨h4, eh4, hf⟩ := oL_s hf
    refine pM_256 b hE eh4 dX12_put_27 (fun H locs hE => ?_)
    obtain ⟨y5, ey5, hf⟩ := oL_s hf
    refine lv_iinc (v := y5) (lv' := [(2, .int y5), (0, .ref (ad 116)), (1, .int x1)]) b.1 b.2.1 dX12_put_30 hl (k := 2) rfl (by rw [ey5]; rfl) (by decide) rfl (fun ls hl => ?_)
    refine lv_goto (tgt := 3) b.1 b.2.1 dX12_put_33 (by decide) ?_
    exact H3 h4 x1 y5 _ _ _ hf hE (lv_sub hl [1, 2, 0] rfl)
def fX12_put_3  : Nat → MS → Int32 → Int32 → Option (MS)
  | 0 => fun _ _ _ => none
  | n + 1 => fX12_put_3F  (fX12_put_3  n)
set_option maxHeartbeats 4000000 in
theorem wfX12_put_3 {args : Array Value} (b : Bd p s m c cX12_put 3 RX12 D aC) (hlk : meth.locks = false) (hr : meth.sig.returnType = none) {Z : State → Prop} (zs : Z s) (zk : ZOK Z (Rg ad)) {hz : MS} : ∀ n : Nat, ∀ (h : MS) (x1 : Int32) (x2 : Int32), ∀ (H : Heap) (locs : List Loc) (ls : Array Slot), fX12_put_3  n h x1 x2 = some hz → CE (EM D aC ad h) (Rg ad) s H locs → lv_has ls 3 [(0, .ref (ad 116)), (1, .int x1), (2, .int x2)] → W p l e (RM 0 0 0 0) s m args below meth c H locs 0 0 (MQ below (PQ (EM D aC ad hz) (Rg ad) none) args s 0 0 (Rg ad)) (F0 m 3 ls []) := by
  intro n
  induction n with
  | zero =>
    intro h x1 x2 H locs ls hf
    have hf : (none : Option (MS)) = some _ := hf
    cases hf
  | succ n ih =>
    intro h x1 x2 H locs ls hf hE hl
    exact wfX12_put_3F b hlk hr zs zk  ih hf hE hl
def fX12_put_0  (h : MS) (x1 : Int32) : Option (MS) :=
  fX12_put_3  FU h x1 24
set_option maxHeartbeats 4000000 in
theorem wfX12_put_0 {args : Array Value} (b : Bd p s m c cX12_put 3 RX12 D aC) (hlk : meth.locks = false) (hr : meth.sig.returnType = none) {Z : State → Prop} (zs : Z s) (zk : ZOK Z (Rg ad)) {hz : MS} {h : MS} {x1 : Int32}  {H : Heap} {locs : List Loc} {ls : Array Slot} (hf : fX12_put_0 h x1 = some hz) (hE : CE (EM D aC ad h) (Rg ad) s H locs) (hl : lv_has ls 3 [(0, .ref (ad 116)), (1, .int x1)]) : W p l e (RM 0 0 0 0) s m args below meth c H locs 0 0 (MQ below (PQ (EM D aC ad hz) (Rg ad) none) args s 0 0 (Rg ad)) (F0 m 0 ls []) := by
  unfold fX12_put_0 at hf
  refine lv_bipush (v := 24) b.1 b.2.1 dX12_put_0 (by decide) ?_
  refine lv_istore_n (lv' := [(2, .int 24), (0, .ref (ad 116)), (1, .int x1)]) b.1 b.2.1 dX12_put_2 rfl hl (by decide) rfl (fun ls hl => ?_)
  exact wfX12_put_3 b hlk hr zs zk  FU h x1 24 _ _ _ hf hE (lv_sub hl [1, 2, 0] rfl)
def fX12_put (h : MS) (x1 : Int32) : Option (MS) := fX12_put_0 h x1
set_option maxHeartbeats 4000000 in
theorem CX12_put (l : Launch) (D : va_G) (aC : Nat → ClassId) (ad : Nat → Nat) {Z : State → Prop} (zk : ZOK Z (Rg ad)) {h : MS} {x1 : Int32} {hz : MS} (hf : fX12_put h x1 = some hz) : CM l D aC Z yX12_put cX12_put 3 (none) 0 0 0 0 (EM D aC ad h) [.ref (ad 116), .int x1] (EM D aC ad hz) none (Rg ad) := by
  refine CM.of rfl ?_
  intro p e s m below meth c b hr hlk hin2 zs hE
  refine k_ent (Nat.le_of_ble_eq_true rfl) (fun ls hl => ?_)
  exact wfX12_put_0 b hlk hr zs zk hf hE (lv_sub hl [0, 1] rfl)
theorem dX12_feed_0 : decode cX12_feed 0 = .ok (.aload_n 0, 1) := by decide +kernel
theorem dX12_feed_1 : decode cX12_feed 1 = .ok (.getfield 256, 3) := by decide +kernel
theorem dX12_feed_4 : decode cX12_feed 4 = .ok (.bipush 20, 2) := by decide +kernel
theorem dX12_feed_6 : decode cX12_feed 6 = .ok (.iadd, 1) := by decide +kernel
theorem dX12_feed_7 : decode cX12_feed 7 = .ok (.sipush 4000, 3) := by decide +kernel
theorem dX12_feed_10 : decode cX12_feed 10 = .ok (.if_icmp .le 5, 3) := by decide +kernel
theorem dX12_feed_13 : decode cX12_feed 13 = .ok (.iconst (-1), 1) := by decide +kernel
theorem dX12_feed_14 : decode cX12_feed 14 = .ok (.ireturn, 1) := by decide +kernel
theorem dX12_feed_15 : decode cX12_feed 15 = .ok (.aload_n 0, 1) := by decide +kernel
theorem dX12_feed_16 : decode cX12_feed 16 = .ok (.iload_n 1, 1) := by decide +kernel
theorem dX12_feed_17 : decode cX12_feed 17 = .ok (.invokevirtual 259, 3) := by decide +kernel
theorem dX12_feed_20 : decode cX12_feed 20 = .ok (.aload_n 0, 1) := by decide +kernel
theorem dX12_feed_21 : decode cX12_feed 21 = .ok (.iload_n 2, 1) := by decide +kernel
theorem dX12_feed_22 : decode cX12_feed 22 = .ok (.invokevirtual 259, 3) := by decide +kernel
theorem dX12_feed_25 : decode cX12_feed 25 = .ok (.aload_n 0, 1) := by decide +kernel
theorem dX12_feed_26 : decode cX12_feed 26 = .ok (.iload_n 3, 1) := by decide +kernel
theorem dX12_feed_27 : decode cX12_feed 27 = .ok (.invokevirtual 259, 3) := by decide +kernel
theorem dX12_feed_30 : decode cX12_feed 30 = .ok (.aload_n 0, 1) := by decide +kernel
theorem dX12_feed_31 : decode cX12_feed 31 = .ok (.iload 4, 2) := by decide +kernel
theorem dX12_feed_33 : decode cX12_feed 33 = .ok (.invokevirtual 259, 3) := by decide +kernel
theorem dX12_feed_36 : decode cX12_feed 36 = .ok (.aload_n 0, 1) := by decide +kernel
theorem dX12_feed_37 : decode cX12_feed 37 = .ok (.iload 5, 2) := by decide +kernel
theorem dX12_feed_39 : decode cX12_feed 39 = .ok (.invokevirtual 259, 3) := by decide +kernel
theorem dX12_feed_42 : decode cX12_feed 42 = .ok (.aload_n 0, 1) := by decide +kernel
theorem dX12_feed_43 : decode cX12_feed 43 = .ok (.getfield 256, 3) := by decide +kernel
theorem dX12_feed_46 : decode cX12_feed 46 = .ok (.ireturn, 1) := by decide +kernel
def fX12_feed_0  (h : MS) (x1 : Int32) (x2 : Int32) (x3 : Int32) (x4 : Int32) (x5 : Int32) : Option (MS × Int32) :=
  if ((mI h 2) + 20) ≤ 4000 then (oB (fX12_put h x1) (fun h3 => oB (fX12_put h3 x2) (fun h5 => oB (fX12_put h5 x3) (fun h7 => oB (fX12_put h7 x4) (fun h9 => oB (fX12_put h9 x5) (fun h11 => some (h11, (mI h11 2)))))))) else (some (h, (-1)))
set_option maxHeartbeats 4000000 in
theorem wfX12_feed_0 {args : Array Value} (b : Bd p s m c cX12_feed 6 RX12 D aC) (hlk : meth.locks = false) (hr : meth.sig.returnType = some .int) {Z : State → Prop} (zs : Z s) (zk : ZOK Z (Rg ad)) {hz : MS} {rz : Int32} {h : MS} {x1 : Int32} {x2 : Int32} {x3 : Int32} {x4 : Int32} {x5 : Int32}  {H : Heap} {locs : List Loc} {ls : Array Slot} (hf : fX12_feed_0 h x1 x2 x3 x4 x5 = some (hz, rz)) (hE : CE (EM D aC ad h) (Rg ad) s H locs) (hl : lv_has ls 6 [(0, .ref (ad 116)), (1, .int x1), (2, .int x2), (3, .int x3), (4, .int x4), (5, .int x5)]) : W p l e (RM 1 22 0 0) s m args below meth c H locs 0 0 (MQ below (PQ (EM D aC ad hz) (Rg ad) (some (.int rz))) args s 0 0 (Rg ad)) (F0 m 0 ls []) := by
  unfold fX12_feed_0 at hf
  refine lv_aload_n b.1 b.2.1 dX12_feed_0 rfl (lv_at hl 0 rfl) ?_
  refine gM_256 b hE dX12_feed_1 ?_
  refine lv_bipush (v := 20) b.1 b.2.1 dX12_feed_4 (by decide) ?_
  refine lv_iadd b.1 b.2.1 dX12_feed_6 ?_
  refine lv_sipush (v := 4000) b.1 b.2.1 dX12_feed_7 (by decide) ?_
  refine lv_icmp_le (tgt := 15) b.1 b.2.1 dX12_feed_10 (by decide) (fun c1 => ?_) (fun c1 => ?_)
  · have hf := oI_t c1 hf
    refine lv_aload_n b.1 b.2.1 dX12_feed_15 rfl (lv_at hl 0 rfl) ?_
    refine lv_iload_n b.1 b.2.1 dX12_feed_16 rfl (lv_at hl 1 rfl) ?_
    obtain ⟨h3, hc2, hf⟩ := oB_s hf
    refine k_callV0 (C := RX12) b zs zk hE (CX12_put l D aC ad zk hc2) mc_X12_put (in7 78 rfl rfl) mi_X12_put ms_X12_put ini_RX12 ok_X12_put (m_recv b hE) ⟨Nat.le_of_ble_eq_true rfl, Nat.le_of_ble_eq_true rfl⟩ rfl hl.1 rfl (k_room _ (by exact Nat.le_of_ble_eq_true rfl)) ⟨Nat.le_refl _, Nat.le_refl _⟩ dX12_feed_17 (fun H locs hE => ?_)
    refine lv_aload_n b.1 b.2.1 dX12_feed_20 rfl (lv_at hl 0 rfl) ?_
    refine lv_iload_n b.1 b.2.1 dX12_feed_21 rfl (lv_at hl 2 rfl) ?_
    obtain ⟨h5, hc4, hf⟩ := oB_s hf
    refine k_callV0 (C := RX12) b zs zk hE (CX12_put l D aC ad zk hc4) mc_X12_put (in7 78 rfl rfl) mi_X12_put ms_X12_put ini_RX12 ok_X12_put (m_recv b hE) ⟨Nat.le_of_ble_eq_true rfl, Nat.le_of_ble_eq_true rfl⟩ rfl hl.1 rfl (k_room _ (by exact Nat.le_of_ble_eq_true rfl)) ⟨Nat.le_refl _, Nat.le_refl _⟩ dX12_feed_22 (fun H locs hE => ?_)
    refine lv_aload_n b.1 b.2.1 dX12_feed_25 rfl (lv_at hl 0 rfl) ?_
    refine lv_iload_n b.1 b.2.1 dX12_feed_26 rfl (lv_at hl 3 rfl) ?_
    obtain ⟨h7, hc6, hf⟩ := oB_s hf
    refine k_callV0 (C := RX12) b zs zk hE (CX12_put l D aC ad zk hc6) mc_X12_put (in7 78 rfl rfl) mi_X12_put ms_X12_put ini_RX12 ok_X12_put (m_recv b hE) ⟨Nat.le_of_ble_eq_true rfl, Nat.le_of_ble_eq_true rfl⟩ rfl hl.1 rfl (k_room _ (by exact Nat.le_of_ble_eq_true rfl)) ⟨Nat.le_refl _, Nat.le_refl _⟩ dX12_feed_27 (fun H locs hE => ?_)
    refine lv_aload_n b.1 b.2.1 dX12_feed_30 rfl (lv_at hl 0 rfl) ?_
    refine lv_iload b.1 b.2.1 dX12_feed_31 (lv_at hl 4 rfl) ?_
    obtain ⟨h9, hc8, hf⟩ := oB_s hf
    refine k_callV0 (C := RX12) b zs zk hE (CX12_put l D aC ad zk hc8) mc_X12_put (in7 78 rfl rfl) mi_X12_put ms_X12_put ini_RX12 ok_X12_put (m_recv b hE) ⟨Nat.le_of_ble_eq_true rfl, Nat.le_of_ble_eq_true rfl⟩ rfl hl.1 rfl (k_room _ (by exact Nat.le_of_ble_eq_true rfl)) ⟨Nat.le_refl _, Nat.le_refl _⟩ dX12_feed_33 (fun H locs hE => ?_)
    refine lv_aload_n b.1 b.2.1 dX12_feed_36 rfl (lv_at hl 0 rfl) ?_
    refine lv_iload b.1 b.2.1 dX12_feed_37 (lv_at hl 5 rfl) ?_
    obtain ⟨h11, hc10, hf⟩ := oB_s hf
    refine k_callV0 (C := RX12) b zs zk hE (CX12_put l D aC ad zk hc10) mc_X12_put (in7 78 rfl rfl) mi_X12_put ms_X12_put ini_RX12 ok_X12_put (m_recv b hE) ⟨Nat.le_of_ble_eq_true rfl, Nat.le_of_ble_eq_true rfl⟩ rfl hl.1 rfl (k_room _ (by exact Nat.le_of_ble_eq_true rfl)) ⟨Nat.le_refl _, Nat.le_refl _⟩ dX12_feed_39 (fun H locs hE => ?_)
    refine lv_aload_n b.1 b.2.1 dX12_feed_42 rfl (lv_at hl 0 rfl) ?_
    refine gM_256 b hE dX12_feed_43 ?_
    cases hf
    exact k_iret b hlk hr hE (Nat.le_refl _) (Nat.le_refl _) dX12_feed_46
  · have hf := oI_f c1 hf
    refine lv_iconst (v := (-1)) b.1 b.2.1 dX12_feed_13 (by decide) ?_
    cases hf
    exact k_iret b hlk hr hE (Nat.le_refl _) (Nat.le_refl _) dX12_feed_14
def fX12_feed (h : MS) (x1 : Int32) (x2 : Int32) (x3 : Int32) (x4 : Int32) (x5 : Int32) : Option (MS × Int32) := fX12_feed_0 h x1 x2 x3 x4 x5
set_option maxHeartbeats 4000000 in
theorem CX12_feed (l : Launch) (D : va_G) (aC : Nat → ClassId) (ad : Nat → Nat) {Z : State → Prop} (zk : ZOK Z (Rg ad)) {h : MS} {x1 : Int32} {x2 : Int32} {x3 : Int32} {x4 : Int32} {x5 : Int32} {hz : MS} {rz : Int32} (hf : fX12_feed h x1 x2 x3 x4 x5 = some (hz, rz)) : CM l D aC Z yX12_feed cX12_feed 6 (some .int) 1 22 0 0 (EM D aC ad h) [.ref (ad 116), .int x1, .int x2, .int x3, .int x4, .int x5] (EM D aC ad hz) (some (.int rz)) (Rg ad) := by
  refine CM.of rfl ?_
  intro p e s m below meth c b hr hlk hin2 zs hE
  refine k_ent (Nat.le_of_ble_eq_true rfl) (fun ls hl => ?_)
  exact wfX12_feed_0 b hlk hr zs zk hf hE (lv_sub hl [0, 1, 2, 3, 4, 5] rfl)
theorem dX12_back_0 : decode cX12_back 0 = .ok (.iload_n 1, 1) := by decide +kernel
theorem dX12_back_1 : decode cX12_back 1 = .ok (.ifCond .lt 11, 3) := by decide +kernel
theorem dX12_back_4 : decode cX12_back 4 = .ok (.iload_n 1, 1) := by decide +kernel
theorem dX12_back_5 : decode cX12_back 5 = .ok (.aload_n 0, 1) := by decide +kernel
theorem dX12_back_6 : decode cX12_back 6 = .ok (.getfield 256, 3) := by decide +kernel
theorem dX12_back_9 : decode cX12_back 9 = .ok (.if_icmp .le 5, 3) := by decide +kernel
theorem dX12_back_12 : decode cX12_back 12 = .ok (.iconst (-1), 1) := by decide +kernel
theorem dX12_back_13 : decode cX12_back 13 = .ok (.ireturn, 1) := by decide +kernel
theorem dX12_back_14 : decode cX12_back 14 = .ok (.aload_n 0, 1) := by decide +kernel
theorem dX12_back_15 : decode cX12_back 15 = .ok (.dup, 1) := by decide +kernel
theorem dX12_back_16 : decode cX12_back 16 = .ok (.getfield 256, 3) := by decide +kernel
theorem dX12_back_19 : decode cX12_back 19 = .ok (.iload_n 1, 1) := by decide +kernel
theorem dX12_back_20 : decode cX12_back 20 = .ok (.isub, 1) := by decide +kernel
theorem dX12_back_21 : decode cX12_back 21 = .ok (.putfield 256, 3) := by decide +kernel
theorem dX12_back_24 : decode cX12_back 24 = .ok (.aload_n 0, 1) := by decide +kernel
theorem dX12_back_25 : decode cX12_back 25 = .ok (.getfield 256, 3) := by decide +kernel
theorem dX12_back_28 : decode cX12_back 28 = .ok (.ireturn, 1) := by decide +kernel
def fX12_back_0  (h : MS) (x1 : Int32) : Option (MS × Int32) :=
  if x1 < 0 then (some (h, (-1))) else (if x1 ≤ (mI h 2) then (oL (mSI h 2 ((mI h 2) - x1)) (fun h3 => some (h3, (mI h3 2)))) else (some (h, (-1))))
set_option maxHeartbeats 4000000 in
theorem wfX12_back_0 {args : Array Value} (b : Bd p s m c cX12_back 2 RX12 D aC) (hlk : meth.locks = false) (hr : meth.sig.returnType = some .int) {Z : State → Prop} (zs : Z s) (zk : ZOK Z (Rg ad)) {hz : MS} {rz : Int32} {h : MS} {x1 : Int32}  {H : Heap} {locs : List Loc} {ls : Array Slot} (hf : fX12_back_0 h x1 = some (hz, rz)) (hE : CE (EM D aC ad h) (Rg ad) s H locs) (hl : lv_has ls 2 [(0, .ref (ad 116)), (1, .int x1)]) : W p l e (RM 0 0 0 0) s m args below meth c H locs 0 0 (MQ below (PQ (EM D aC ad hz) (Rg ad) (some (.int rz))) args s 0 0 (Rg ad)) (F0 m 0 ls []) := by
  unfold fX12_back_0 at hf
  refine lv_iload_n b.1 b.2.1 dX12_back_0 rfl (lv_at hl 1 rfl) ?_
  refine lv_if_lt (tgt := 12) b.1 b.2.1 dX12_back_1 (by decide) (fun c1 => ?_) (fun c1 => ?_)
  · have hf := oI_t c1 hf
    refine lv_iconst (v := (-1)) b.1 b.2.1 dX12_back_12 (by decide) ?_
    cases hf
    exact k_iret b hlk hr hE (Nat.le_refl _) (Nat.le_refl _) dX12_back_13
  · have hf := oI_f c1 hf
    refine lv_iload_n b.1 b.2.1 dX12_back_4 rfl (lv_at hl 1 rfl) ?_
    refine lv_aload_n b.1 b.2.1 dX12_back_5 rfl (lv_at hl 0 rfl) ?_
    refine gM_256 b hE dX12_back_6 ?_
    refine lv_icmp_le (tgt := 14) b.1 b.2.1 dX12_back_9 (by decide) (fun c2 => ?_) (fun c2 => ?_)
    · have hf := oI_t c2 hf
      refine lv_aload_n b.1 b.2.1 dX12_back_14 rfl (lv_at hl 0 rfl) ?_
      refine lv_dup b.1 b.2.1 dX12_back_15 rfl ?_
      refine gM_256 b hE dX12_back_16 ?_
      refine lv_iload_n b.1 b.2.1 dX12_back_19 rfl (lv_at hl 1 rfl) ?_
      refine lv_isub b.1 b.2.1 dX12_back_20 ?_
      obtain ⟨h3, eh3, hf⟩ := oL_s hf
      refine pM_256 b hE eh3 dX12_back_21 (fun H locs hE => ?_)
      refine lv_aload_n b.1 b.2.1 dX12_back_24 rfl (lv_at hl 0 rfl) ?_
      refine gM_256 b hE dX12_back_25 ?_
      cases hf
      exact k_iret b hlk hr hE (Nat.le_refl _) (Nat.le_refl _) dX12_back_28
    · have hf := oI_f c2 hf
      refine lv_iconst (v := (-1)) b.1 b.2.1 dX12_back_12 (by decide) ?_
      cases hf
      exact k_iret b hlk hr hE (Nat.le_refl _) (Nat.le_refl _) dX12_back_13
def fX12_back (h : MS) (x1 : Int32) : Option (MS × Int32) := fX12_back_0 h x1
set_option maxHeartbeats 4000000 in
theorem CX12_back (l : Launch) (D : va_G) (aC : Nat → ClassId) (ad : Nat → Nat) {Z : State → Prop} (zk : ZOK Z (Rg ad)) {h : MS} {x1 : Int32} {hz : MS} {rz : Int32} (hf : fX12_back h x1 = some (hz, rz)) : CM l D aC Z yX12_back cX12_back 2 (some .int) 0 0 0 0 (EM D aC ad h) [.ref (ad 116), .int x1] (EM D aC ad hz) (some (.int rz)) (Rg ad) := by
  refine CM.of rfl ?_
  intro p e s m below meth c b hr hlk hin2 zs hE
  refine k_ent (Nat.le_of_ble_eq_true rfl) (fun ls hl => ?_)
  exact wfX12_back_0 b hlk hr zs zk hf hE (lv_sub hl [0, 1] rfl)
theorem dX12_at_0 : decode cX12_at 0 = .ok (.iload_n 1, 1) := by decide +kernel
theorem dX12_at_1 : decode cX12_at 1 = .ok (.aload_n 0, 1) := by decide +kernel
theorem dX12_at_2 : decode cX12_at 2 = .ok (.getfield 263, 3) := by decide +kernel
theorem dX12_at_5 : decode cX12_at 5 = .ok (.if_icmp .ge 16, 3) := by decide +kernel
theorem dX12_at_8 : decode cX12_at 8 = .ok (.aload_n 0, 1) := by decide +kernel
theorem dX12_at_9 : decode cX12_at 9 = .ok (.getfield 17, 3) := by decide +kernel
theorem dX12_at_12 : decode cX12_at 12 = .ok (.iload_n 1, 1) := by decide +kernel
theorem dX12_at_13 : decode cX12_at 13 = .ok (.baload, 1) := by decide +kernel
theorem dX12_at_14 : decode cX12_at 14 = .ok (.sipush 255, 3) := by decide +kernel
theorem dX12_at_17 : decode cX12_at 17 = .ok (.iand, 1) := by decide +kernel
theorem dX12_at_18 : decode cX12_at 18 = .ok (.goto 4, 3) := by decide +kernel
theorem dX12_at_21 : decode cX12_at 21 = .ok (.iconst 0, 1) := by decide +kernel
theorem dX12_at_22 : decode cX12_at 22 = .ok (.ireturn, 1) := by decide +kernel
def fX12_at_0  (h : MS) (x1 : Int32) : Option (Int32) :=
  if (mI h 4) ≤ x1 then (some (0)) else (oC (ix x1 (mlen 3)) (some (((mA h 3 (Int32.toNatClampNeg x1)) &&& 255))))
set_option maxHeartbeats 4000000 in
theorem wfX12_at_0 {args : Array Value} (b : Bd p s m c cX12_at 2 RX12 D aC) (hlk : meth.locks = false) (hr : meth.sig.returnType = some .int) {Z : State → Prop} (zs : Z s) (zk : ZOK Z (Rg ad)) {rz : Int32} {h : MS} {x1 : Int32}  {H : Heap} {locs : List Loc} {ls : Array Slot} (hf : fX12_at_0 h x1 = some rz) (hE : CE (EM D aC ad h) (Rg ad) s H locs) (hl : lv_has ls 2 [(0, .ref (ad 116)), (1, .int x1)]) : W p l e (RM 0 0 0 0) s m args below meth c H locs 0 0 (MQ below (PQ (EM D aC ad h) (Rg ad) (some (.int rz))) args s 0 0 (Rg ad)) (F0 m 0 ls []) := by
  unfold fX12_at_0 at hf
  refine lv_iload_n b.1 b.2.1 dX12_at_0 rfl (lv_at hl 1 rfl) ?_
  refine lv_aload_n b.1 b.2.1 dX12_at_1 rfl (lv_at hl 0 rfl) ?_
  refine gM_263 b hE dX12_at_2 ?_
  refine lv_icmp_ge (tgt := 21) b.1 b.2.1 dX12_at_5 (by decide) (fun c1 => ?_) (fun c1 => ?_)
  · have hf := oI_t c1 hf
    refine lv_iconst (v := 0) b.1 b.2.1 dX12_at_21 (by decide) ?_
    cases hf
    exact k_iret b hlk hr hE (Nat.le_refl _) (Nat.le_refl _) dX12_at_22
  · have hf := oI_f c1 hf
    refine lv_aload_n b.1 b.2.1 dX12_at_8 rfl (lv_at hl 0 rfl) ?_
    refine gM_17 b hE dX12_at_9 ?_
    refine lv_iload_n b.1 b.2.1 dX12_at_12 rfl (lv_at hl 1 rfl) ?_
    obtain ⟨g2, hf⟩ := oC_s hf
    refine m_bald b hE rfl rfl g2 dX12_at_13 ?_
    refine lv_sipush (v := 255) b.1 b.2.1 dX12_at_14 (by decide) ?_
    refine lv_iand b.1 b.2.1 dX12_at_17 ?_
    refine lv_goto (tgt := 22) b.1 b.2.1 dX12_at_18 (by decide) ?_
    cases hf
    exact k_iret b hlk hr hE (Nat.le_refl _) (Nat.le_refl _) dX12_at_22
def fX12_at (h : MS) (x1 : Int32) : Option (Int32) := fX12_at_0 h x1
set_option maxHeartbeats 4000000 in
theorem CX12_at (l : Launch) (D : va_G) (aC : Nat → ClassId) (ad : Nat → Nat) {Z : State → Prop} (zk : ZOK Z (Rg ad)) {h : MS} {x1 : Int32} {rz : Int32} (hf : fX12_at h x1 = some rz) : CM l D aC Z yX12_at cX12_at 2 (some .int) 0 0 0 0 (EM D aC ad h) [.ref (ad 116), .int x1] (EM D aC ad h) (some (.int rz)) (Rg ad) := by
  refine CM.of rfl ?_
  intro p e s m below meth c b hr hlk hin2 zs hE
  refine k_ent (Nat.le_of_ble_eq_true rfl) (fun ls hl => ?_)
  exact wfX12_at_0 b hlk hr zs zk hf hE (lv_sub hl [0, 1] rfl)
theorem dX12_isDigit_0 : decode cX12_isDigit 0 = .ok (.iload_n 0, 1) := by decide +kernel
theorem dX12_isDigit_1 : decode cX12_isDigit 1 = .ok (.bipush 48, 2) := by decide +kernel
theorem dX12_isDigit_3 : decode cX12_isDigit 3 = .ok (.if_icmp .lt 13, 3) := by decide +kernel
theorem dX12_isDigit_6 : decode cX12_isDigit 6 = .ok (.iload_n 0, 1) := by decide +kernel
theorem dX12_isDigit_7 : decode cX12_isDigit 7 = .ok (.bipush 57, 2) := by decide +kernel
theorem dX12_isDigit_9 : decode cX12_isDigit 9 = .ok (.if_icmp .gt 7, 3) := by decide +kernel
theorem dX12_isDigit_12 : decode cX12_isDigit 12 = .ok (.iconst 1, 1) := by decide +kernel
theorem dX12_isDigit_13 : decode cX12_isDigit 13 = .ok (.goto 4, 3) := by decide +kernel
theorem dX12_isDigit_16 : decode cX12_isDigit 16 = .ok (.iconst 0, 1) := by decide +kernel
theorem dX12_isDigit_17 : decode cX12_isDigit 17 = .ok (.ireturn, 1) := by decide +kernel
def fX12_isDigit_0  (x0 : Int32) : Option (Int32) :=
  if x0 < 48 then (some (0)) else (if 57 < x0 then (some (0)) else (some (1)))
set_option maxHeartbeats 4000000 in
theorem wfX12_isDigit_0 {E : Heap → Prop} {A : Nat → Prop} {args : Array Value} (b : Bd p s m c cX12_isDigit 1 RX12 D aC) (hlk : meth.locks = false) (hr : meth.sig.returnType = some .boolean) {Z : State → Prop} (zs : Z s) (zk : ZOK Z A) {rz : Int32} {x0 : Int32}  {H : Heap} {locs : List Loc} {ls : Array Slot} (hf : fX12_isDigit_0 x0 = some rz) (hE : CE E A s H locs) (hl : lv_has ls 1 [(0, .int x0)]) : W p l e (RM 0 0 0 0) s m args below meth c H locs 0 0 (MQ below (PQ E A (some (.int rz))) args s 0 0 A) (F0 m 0 ls []) := by
  unfold fX12_isDigit_0 at hf
  refine lv_iload_n b.1 b.2.1 dX12_isDigit_0 rfl (lv_at hl 0 rfl) ?_
  refine lv_bipush (v := 48) b.1 b.2.1 dX12_isDigit_1 (by decide) ?_
  refine lv_icmp_lt (tgt := 16) b.1 b.2.1 dX12_isDigit_3 (by decide) (fun c1 => ?_) (fun c1 => ?_)
  · have hf := oI_t c1 hf
    refine lv_iconst (v := 0) b.1 b.2.1 dX12_isDigit_16 (by decide) ?_
    cases hf
    exact k_zret b hlk hr (by decide) hE (Nat.le_refl _) (Nat.le_refl _) dX12_isDigit_17
  · have hf := oI_f c1 hf
    refine lv_iload_n b.1 b.2.1 dX12_isDigit_6 rfl (lv_at hl 0 rfl) ?_
    refine lv_bipush (v := 57) b.1 b.2.1 dX12_isDigit_7 (by decide) ?_
    refine lv_icmp_gt (tgt := 16) b.1 b.2.1 dX12_isDigit_9 (by decide) (fun c2 => ?_) (fun c2 => ?_)
    · have hf := oI_t c2 hf
      refine lv_iconst (v := 0) b.1 b.2.1 dX12_isDigit_16 (by decide) ?_
      cases hf
      exact k_zret b hlk hr (by decide) hE (Nat.le_refl _) (Nat.le_refl _) dX12_isDigit_17
    · have hf := oI_f c2 hf
      refine lv_iconst (v := 1) b.1 b.2.1 dX12_isDigit_12 (by decide) ?_
      refine lv_goto (tgt := 17) b.1 b.2.1 dX12_isDigit_13 (by decide) ?_
      cases hf
      exact k_zret b hlk hr (by decide) hE (Nat.le_refl _) (Nat.le_refl _) dX12_isDigit_17
def fX12_isDigit (x0 : Int32) : Option (Int32) := fX12_isDigit_0 x0
set_option maxHeartbeats 4000000 in
theorem CX12_isDigit (l : Launch) (D : va_G) (aC : Nat → ClassId) {E : Heap → Prop} {A : Nat → Prop} {Z : State → Prop} (zk : ZOK Z A) {x0 : Int32} {rz : Int32} (hf : fX12_isDigit x0 = some rz) : CM l D aC Z yX12_isDigit cX12_isDigit 1 (some .boolean) 0 0 0 0 E [.int x0] E (some (.int rz)) A := by
  refine CM.of rfl ?_
  intro p e s m below meth c b hr hlk hin2 zs hE
  refine k_ent (Nat.le_of_ble_eq_true rfl) (fun ls hl => ?_)
  exact wfX12_isDigit_0 b hlk hr zs zk hf hE (lv_sub hl [0] rfl)
theorem dX12_isLetter_0 : decode cX12_isLetter 0 = .ok (.iload_n 0, 1) := by decide +kernel
theorem dX12_isLetter_1 : decode cX12_isLetter 1 = .ok (.bipush 97, 2) := by decide +kernel
theorem dX12_isLetter_3 : decode cX12_isLetter 3 = .ok (.if_icmp .lt 13, 3) := by decide +kernel
theorem dX12_isLetter_6 : decode cX12_isLetter 6 = .ok (.iload_n 0, 1) := by decide +kernel
theorem dX12_isLetter_7 : decode cX12_isLetter 7 = .ok (.bipush 122, 2) := by decide +kernel
theorem dX12_isLetter_9 : decode cX12_isLetter 9 = .ok (.if_icmp .gt 7, 3) := by decide +kernel
theorem dX12_isLetter_12 : decode cX12_isLetter 12 = .ok (.iconst 1, 1) := by decide +kernel
theorem dX12_isLetter_13 : decode cX12_isLetter 13 = .ok (.goto 4, 3) := by decide +kernel
theorem dX12_isLetter_16 : decode cX12_isLetter 16 = .ok (.iconst 0, 1) := by decide +kernel
theorem dX12_isLetter_17 : decode cX12_isLetter 17 = .ok (.ireturn, 1) := by decide +kernel
def fX12_isLetter_0  (x0 : Int32) : Option (Int32) :=
  if x0 < 97 then (some (0)) else (if 122 < x0 then (some (0)) else (some (1)))
set_option maxHeartbeats 4000000 in
theorem wfX12_isLetter_0 {E : Heap → Prop} {A : Nat → Prop} {args : Array Value} (b : Bd p s m c cX12_isLetter 1 RX12 D aC) (hlk : meth.locks = false) (hr : meth.sig.returnType = some .boolean) {Z : State → Prop} (zs : Z s) (zk : ZOK Z A) {rz : Int32} {x0 : Int32}  {H : Heap} {locs : List Loc} {ls : Array Slot} (hf : fX12_isLetter_0 x0 = some rz) (hE : CE E A s H locs) (hl : lv_has ls 1 [(0, .int x0)]) : W p l e (RM 0 0 0 0) s m args below meth c H locs 0 0 (MQ below (PQ E A (some (.int rz))) args s 0 0 A) (F0 m 0 ls []) := by
  unfold fX12_isLetter_0 at hf
  refine lv_iload_n b.1 b.2.1 dX12_isLetter_0 rfl (lv_at hl 0 rfl) ?_
  refine lv_bipush (v := 97) b.1 b.2.1 dX12_isLetter_1 (by decide) ?_
  refine lv_icmp_lt (tgt := 16) b.1 b.2.1 dX12_isLetter_3 (by decide) (fun c1 => ?_) (fun c1 => ?_)
  · have hf := oI_t c1 hf
    refine lv_iconst (v := 0) b.1 b.2.1 dX12_isLetter_16 (by decide) ?_
    cases hf
    exact k_zret b hlk hr (by decide) hE (Nat.le_refl _) (Nat.le_refl _) dX12_isLetter_17
  · have hf := oI_f c1 hf
    refine lv_iload_n b.1 b.2.1 dX12_isLetter_6 rfl (lv_at hl 0 rfl) ?_
    refine lv_bipush (v := 122) b.1 b.2.1 dX12_isLetter_7 (by decide) ?_
    refine lv_icmp_gt (tgt := 16) b.1 b.2.1 dX12_isLetter_9 (by decide) (fun c2 => ?_) (fun c2 => ?_)
    · have hf := oI_t c2 hf
      refine lv_iconst (v := 0) b.1 b.2.1 dX12_isLetter_16 (by decide) ?_
      cases hf
      exact k_zret b hlk hr (by decide) hE (Nat.le_refl _) (Nat.le_refl _) dX12_isLetter_17
    · have hf := oI_f c2 hf
      refine lv_iconst (v := 1) b.1 b.2.1 dX12_isLetter_12 (by decide) ?_
      refine lv_goto (tgt := 17) b.1 b.2.1 dX12_isLetter_13 (by decide) ?_
      cases hf
      exact k_zret b hlk hr (by decide) hE (Nat.le_refl _) (Nat.le_refl _) dX12_isLetter_17
def fX12_isLetter (x0 : Int32) : Option (Int32) := fX12_isLetter_0 x0
set_option maxHeartbeats 4000000 in
theorem CX12_isLetter (l : Launch) (D : va_G) (aC : Nat → ClassId) {E : Heap → Prop} {A : Nat → Prop} {Z : State → Prop} (zk : ZOK Z A) {x0 : Int32} {rz : Int32} (hf : fX12_isLetter x0 = some rz) : CM l D aC Z yX12_isLetter cX12_isLetter 1 (some .boolean) 0 0 0 0 E [.int x0] E (some (.int rz)) A := by
  refine CM.of rfl ?_
  intro p e s m below meth c b hr hlk hin2 zs hE
  refine k_ent (Nat.le_of_ble_eq_true rfl) (fun ls hl => ?_)
  exact wfX12_isLetter_0 b hlk hr zs zk hf hE (lv_sub hl [0] rfl)
theorem dX12_more_0 : decode cX12_more 0 = .ok (.iload_n 2, 1) := by decide +kernel
theorem dX12_more_1 : decode cX12_more 1 = .ok (.ifCond .ne 7, 3) := by decide +kernel
theorem dX12_more_4 : decode cX12_more 4 = .ok (.lload_n 0, 1) := by decide +kernel
theorem dX12_more_5 : decode cX12_more 5 = .ok (.goto 33, 3) := by decide +kernel
theorem dX12_more_8 : decode cX12_more 8 = .ok (.ldc2_w 266, 3) := by decide +kernel
theorem dX12_more_11 : decode cX12_more 11 = .ok (.lload_n 0, 1) := by decide +kernel
theorem dX12_more_12 : decode cX12_more 12 = .ok (.lmul, 1) := by decide +kernel
theorem dX12_more_13 : decode cX12_more 13 = .ok (.iload_n 2, 1) := by decide +kernel
theorem dX12_more_14 : decode cX12_more 14 = .ok (.invokestatic 268, 3) := by decide +kernel
theorem dX12_more_17 : decode cX12_more 17 = .ok (.ifCond .eq 13, 3) := by decide +kernel
theorem dX12_more_20 : decode cX12_more 20 = .ok (.iload_n 2, 1) := by decide +kernel
theorem dX12_more_21 : decode cX12_more 21 = .ok (.bipush 48, 2) := by decide +kernel
theorem dX12_more_23 : decode cX12_more 23 = .ok (.isub, 1) := by decide +kernel
theorem dX12_more_24 : decode cX12_more 24 = .ok (.bipush 27, 2) := by decide +kernel
theorem dX12_more_26 : decode cX12_more 26 = .ok (.iadd, 1) := by decide +kernel
theorem dX12_more_27 : decode cX12_more 27 = .ok (.goto 9, 3) := by decide +kernel
theorem dX12_more_30 : decode cX12_more 30 = .ok (.iload_n 2, 1) := by decide +kernel
theorem dX12_more_31 : decode cX12_more 31 = .ok (.bipush 97, 2) := by decide +kernel
theorem dX12_more_33 : decode cX12_more 33 = .ok (.isub, 1) := by decide +kernel
theorem dX12_more_34 : decode cX12_more 34 = .ok (.iconst 1, 1) := by decide +kernel
theorem dX12_more_35 : decode cX12_more 35 = .ok (.iadd, 1) := by decide +kernel
theorem dX12_more_36 : decode cX12_more 36 = .ok (.i2l, 1) := by decide +kernel
theorem dX12_more_37 : decode cX12_more 37 = .ok (.ladd, 1) := by decide +kernel
theorem dX12_more_38 : decode cX12_more 38 = .ok (.lreturn, 1) := by decide +kernel
def fX12_more_36  (s0 : Int32) (s1 : Int64) : Option (Int64) :=
  some ((s1 + (Int32.toInt64 s0)))
set_option maxHeartbeats 4000000 in
theorem wfX12_more_36 {E : Heap → Prop} {A : Nat → Prop} {args : Array Value} (b : Bd p s m c cX12_more 3 RX12 D aC) (hlk : meth.locks = false) (hr : meth.sig.returnType = some .long) {Z : State → Prop} (zs : Z s) (zk : ZOK Z A) {rz : Int64} {s0 : Int32} {s1 : Int64}  {H : Heap} {locs : List Loc} {ls : Array Slot} (hf : fX12_more_36 s0 s1 = some rz) (hE : CE E A s H locs) (hl : lv_has ls 3 []) : W p l e (RM 1 20 0 0) s m args below meth c H locs 0 0 (MQ below (PQ E A (some (.long rz))) args s 0 0 A) (F0 m 36 ls [.int s0, .long s1]) := by
  unfold fX12_more_36 at hf
  refine lv_i2l b.1 b.2.1 dX12_more_36 rfl ?_
  refine lv_ladd b.1 b.2.1 dX12_more_37 ?_
  cases hf
  exact k_lret b hlk hr hE (Nat.le_refl _) (Nat.le_refl _) dX12_more_38
def fX12_more_0  (x0 : Int64) (x2 : Int32) : Option (Int64) :=
  if x2 = 0 then (some (x0)) else (oB (fX12_isDigit x2) (fun r3 => if r3 = 0 then (fX12_more_36  ((x2 - 97) + 1) (37 * x0)) else (fX12_more_36  ((x2 - 48) + 27) (37 * x0))))
set_option maxHeartbeats 4000000 in
theorem wfX12_more_0 {E : Heap → Prop} {A : Nat → Prop} {args : Array Value} (b : Bd p s m c cX12_more 3 RX12 D aC) (hlk : meth.locks = false) (hr : meth.sig.returnType = some .long) {Z : State → Prop} (zs : Z s) (zk : ZOK Z A) {rz : Int64} {x0 : Int64} {x2 : Int32}  {H : Heap} {locs : List Loc} {ls : Array Slot} (hf : fX12_more_0 x0 x2 = some rz) (hE : CE E A s H locs) (hl : lv_has ls 3 [(0, .long x0), (2, .int x2)]) : W p l e (RM 1 20 0 0) s m args below meth c H locs 0 0 (MQ below (PQ E A (some (.long rz))) args s 0 0 A) (F0 m 0 ls []) := by
  unfold fX12_more_0 at hf
  refine lv_iload_n b.1 b.2.1 dX12_more_0 rfl (lv_at hl 1 rfl) ?_
  refine lv_if_ne (tgt := 8) b.1 b.2.1 dX12_more_1 (by decide) (fun c1 => ?_) (fun c1 => ?_)
  · have hf := oI_f c1 hf
    refine k_ldc2 (v := 37) b (in5 201 rfl rfl) dX12_more_8 ?_
    refine lv_lload_n b.1 b.2.1 dX12_more_11 rfl (lv_at hl 0 rfl) ?_
    refine lv_lmul b.1 b.2.1 dX12_more_12 ?_
    refine lv_iload_n b.1 b.2.1 dX12_more_13 rfl (lv_at hl 1 rfl) ?_
    obtain ⟨r3, hc2, hf⟩ := oB_s hf
    refine k_callS0 b zs zk hE (CX12_isDigit l D aC zk hc2) mc_X12_isDigit (in5 202 rfl rfl) mt_X12_isDigit ini_RX12 ok_X12_isDigit ⟨Nat.le_of_ble_eq_true rfl, Nat.le_of_ble_eq_true rfl⟩ rfl hl.1 rfl (k_room _ (by exact Nat.le_of_ble_eq_true rfl)) ⟨Nat.le_refl _, Nat.le_refl _⟩ dX12_more_14 (fun H locs hE => ?_)
    refine lv_if_eq (tgt := 30) b.1 b.2.1 dX12_more_17 (by decide) (fun c4 => ?_) (fun c4 => ?_)
    · have hf := oI_t c4 hf
      refine lv_iload_n b.1 b.2.1 dX12_more_30 rfl (lv_at hl 1 rfl) ?_
      refine lv_bipush (v := 97) b.1 b.2.1 dX12_more_31 (by decide) ?_
      refine lv_isub b.1 b.2.1 dX12_more_33 ?_
      refine lv_iconst (v := 1) b.1 b.2.1 dX12_more_34 (by decide) ?_
      refine lv_iadd b.1 b.2.1 dX12_more_35 ?_
      exact wfX12_more_36 b hlk hr zs zk  hf hE (lv_sub hl [] rfl)
    · have hf := oI_f c4 hf
      refine lv_iload_n b.1 b.2.1 dX12_more_20 rfl (lv_at hl 1 rfl) ?_
      refine lv_bipush (v := 48) b.1 b.2.1 dX12_more_21 (by decide) ?_
      refine lv_isub b.1 b.2.1 dX12_more_23 ?_
      refine lv_bipush (v := 27) b.1 b.2.1 dX12_more_24 (by decide) ?_
      refine lv_iadd b.1 b.2.1 dX12_more_26 ?_
      refine lv_goto (tgt := 36) b.1 b.2.1 dX12_more_27 (by decide) ?_
      exact wfX12_more_36 b hlk hr zs zk  hf hE (lv_sub hl [] rfl)
  · have hf := oI_t c1 hf
    refine lv_lload_n b.1 b.2.1 dX12_more_4 rfl (lv_at hl 0 rfl) ?_
    refine lv_goto (tgt := 38) b.1 b.2.1 dX12_more_5 (by decide) ?_
    cases hf
    exact k_lret b hlk hr hE (Nat.le_refl _) (Nat.le_refl _) dX12_more_38
def fX12_more (x0 : Int64) (x2 : Int32) : Option (Int64) := fX12_more_0 x0 x2
set_option maxHeartbeats 4000000 in
theorem CX12_more (l : Launch) (D : va_G) (aC : Nat → ClassId) {E : Heap → Prop} {A : Nat → Prop} {Z : State → Prop} (zk : ZOK Z A) {x0 : Int64} {x2 : Int32} {rz : Int64} (hf : fX12_more x0 x2 = some rz) : CM l D aC Z yX12_more cX12_more 3 (some .long) 1 20 0 0 E [.long x0, .int x2] E (some (.long rz)) A := by
  refine CM.of rfl ?_
  intro p e s m below meth c b hr hlk hin2 zs hE
  refine k_ent (Nat.le_of_ble_eq_true rfl) (fun ls hl => ?_)
  exact wfX12_more_0 b hlk hr zs zk hf hE (lv_sub hl [0, 1] rfl)
theorem dX12_word_0 : decode cX12_word 0 = .ok (.lconst 0, 1) := by decide +kernel
theorem dX12_word_1 : decode cX12_word 1 = .ok (.iload_n 0, 1) := by decide +kernel
theorem dX12_word_2 : decode cX12_word 2 = .ok (.invokestatic 272, 3) := by decide +kernel
theorem dX12_word_5 : decode cX12_word 5 = .ok (.iload_n 1, 1) := by decide +kernel
theorem dX12_word_6 : decode cX12_word 6 = .ok (.invokestatic 272, 3) := by decide +kernel
theorem dX12_word_9 : decode cX12_word 9 = .ok (.iload_n 2, 1) := by decide +kernel
theorem dX12_word_10 : decode cX12_word 10 = .ok (.invokestatic 272, 3) := by decide +kernel
theorem dX12_word_13 : decode cX12_word 13 = .ok (.iload_n 3, 1) := by decide +kernel
theorem dX12_word_14 : decode cX12_word 14 = .ok (.invokestatic 272, 3) := by decide +kernel
theorem dX12_word_17 : decode cX12_word 17 = .ok (.iload 4, 2) := by decide +kernel
theorem dX12_word_19 : decode cX12_word 19 = .ok (.invokestatic 272, 3) := by decide +kernel
theorem dX12_word_22 : decode cX12_word 22 = .ok (.iload 5, 2) := by decide +kernel
theorem dX12_word_24 : decode cX12_word 24 = .ok (.invokestatic 272, 3) := by decide +kernel
theorem dX12_word_27 : decode cX12_word 27 = .ok (.lreturn, 1) := by decide +kernel
def fX12_word_0  (x0 : Int32) (x1 : Int32) (x2 : Int32) (x3 : Int32) (x4 : Int32) (x5 : Int32) : Option (Int64) :=
  oB (fX12_more 0 x0) (fun r2 => oB (fX12_more r2 x1) (fun r4 => oB (fX12_more r4 x2) (fun r6 => oB (fX12_more r6 x3) (fun r8 => oB (fX12_more r8 x4) (fun r10 => oB (fX12_more r10 x5) (fun r12 => some (r12)))))))
set_option maxHeartbeats 4000000 in
theorem wfX12_word_0 {E : Heap → Prop} {A : Nat → Prop} {args : Array Value} (b : Bd p s m c cX12_word 6 RX12 D aC) (hlk : meth.locks = false) (hr : meth.sig.returnType = some .long) {Z : State → Prop} (zs : Z s) (zk : ZOK Z A) {rz : Int64} {x0 : Int32} {x1 : Int32} {x2 : Int32} {x3 : Int32} {x4 : Int32} {x5 : Int32}  {H : Heap} {locs : List Loc} {ls : Array Slot} (hf : fX12_word_0 x0 x1 x2 x3 x4 x5 = some rz) (hE : CE E A s H locs) (hl : lv_has ls 6 [(0, .int x0), (1, .int x1), (2, .int x2), (3, .int x3), (4, .int x4), (5, .int x5)]) : W p l e (RM 2 42 0 0) s m args below meth c H locs 0 0 (MQ below (PQ E A (some (.long rz))) args s 0 0 A) (F0 m 0 ls []) := by
  unfold fX12_word_0 at hf
  refine lv_lconst (v := 0) b.1 b.2.1 dX12_word_0 rfl ?_
  refine lv_iload_n b.1 b.2.1 dX12_word_1 rfl (lv_at hl 0 rfl) ?_
  obtain ⟨r2, hc1, hf⟩ := oB_s hf
  refine k_callS0 b zs zk hE (CX12_more l D aC zk hc1) mc_X12_more (in5 198 rfl rfl) mt_X12_more ini_RX12 ok_X12_more ⟨Nat.le_of_ble_eq_true rfl, Nat.le_of_ble_eq_true rfl⟩ rfl hl.1 rfl (k_room _ (by exact Nat.le_of_ble_eq_true rfl)) ⟨Nat.le_refl _, Nat.le_refl _⟩ dX12_word_2 (fun H locs hE => ?_)
  refine lv_iload_n b.1 b.2.1 dX12_word_5 rfl (lv_at hl 1 rfl) ?_
  obtain ⟨r4, hc3, hf⟩ := oB_s hf
  refine k_callS0 b zs zk hE (CX12_more l D aC zk hc3) mc_X12_more (in5 198 rfl rfl) mt_X12_more ini_RX12 ok_X12_more ⟨Nat.le_of_ble_eq_true rfl, Nat.le_of_ble_eq_true rfl⟩ rfl hl.1 rfl (k_room _ (by exact Nat.le_of_ble_eq_true rfl)) ⟨Nat.le_refl _, Nat.le_refl _⟩ dX12_word_6 (fun H locs hE => ?_)
  refine lv_iload_n b.1 b.2.1 dX12_word_9 rfl (lv_at hl 2 rfl) ?_
  obtain ⟨r6, hc5, hf⟩ := oB_s hf
  refine k_callS0 b zs zk hE (CX12_more l D aC zk hc5) mc_X12_more (in5 198 rfl rfl) mt_X12_more ini_RX12 ok_X12_more ⟨Nat.le_of_ble_eq_true rfl, Nat.le_of_ble_eq_true rfl⟩ rfl hl.1 rfl (k_room _ (by exact Nat.le_of_ble_eq_true rfl)) ⟨Nat.le_refl _, Nat.le_refl _⟩ dX12_word_10 (fun H locs hE => ?_)
  refine lv_iload_n b.1 b.2.1 dX12_word_13 rfl (lv_at hl 3 rfl) ?_
  obtain ⟨r8, hc7, hf⟩ := oB_s hf
  refine k_callS0 b zs zk hE (CX12_more l D aC zk hc7) mc_X12_more (in5 198 rfl rfl) mt_X12_more ini_RX12 ok_X12_more ⟨Nat.le_of_ble_eq_true rfl, Nat.le_of_ble_eq_true rfl⟩ rfl hl.1 rfl (k_room _ (by exact Nat.le_of_ble_eq_true rfl)) ⟨Nat.le_refl _, Nat.le_refl _⟩ dX12_word_14 (fun H locs hE => ?_)
  refine lv_iload b.1 b.2.1 dX12_word_17 (lv_at hl 4 rfl) ?_
  obtain ⟨r10, hc9, hf⟩ := oB_s hf
  refine k_callS0 b zs zk hE (CX12_more l D aC zk hc9) mc_X12_more (in5 198 rfl rfl) mt_X12_more ini_RX12 ok_X12_more ⟨Nat.le_of_ble_eq_true rfl, Nat.le_of_ble_eq_true rfl⟩ rfl hl.1 rfl (k_room _ (by exact Nat.le_of_ble_eq_true rfl)) ⟨Nat.le_refl _, Nat.le_refl _⟩ dX12_word_19 (fun H locs hE => ?_)
  refine lv_iload b.1 b.2.1 dX12_word_22 (lv_at hl 5 rfl) ?_
  obtain ⟨r12, hc11, hf⟩ := oB_s hf
  refine k_callS0 b zs zk hE (CX12_more l D aC zk hc11) mc_X12_more (in5 198 rfl rfl) mt_X12_more ini_RX12 ok_X12_more ⟨Nat.le_of_ble_eq_true rfl, Nat.le_of_ble_eq_true rfl⟩ rfl hl.1 rfl (k_room _ (by exact Nat.le_of_ble_eq_true rfl)) ⟨Nat.le_refl _, Nat.le_refl _⟩ dX12_word_24 (fun H locs hE => ?_)
  cases hf
  exact k_lret b hlk hr hE (Nat.le_refl _) (Nat.le_refl _) dX12_word_27
def fX12_word (x0 : Int32) (x1 : Int32) (x2 : Int32) (x3 : Int32) (x4 : Int32) (x5 : Int32) : Option (Int64) := fX12_word_0 x0 x1 x2 x3 x4 x5
set_option maxHeartbeats 4000000 in
theorem CX12_word (l : Launch) (D : va_G) (aC : Nat → ClassId) {E : Heap → Prop} {A : Nat → Prop} {Z : State → Prop} (zk : ZOK Z A) {x0 : Int32} {x1 : Int32} {x2 : Int32} {x3 : Int32} {x4 : Int32} {x5 : Int32} {rz : Int64} (hf : fX12_word x0 x1 x2 x3 x4 x5 = some rz) : CM l D aC Z yX12_word cX12_word 6 (some .long) 2 42 0 0 E [.int x0, .int x1, .int x2, .int x3, .int x4, .int x5] E (some (.long rz)) A := by
  refine CM.of rfl ?_
  intro p e s m below meth c b hr hlk hin2 zs hE
  refine k_ent (Nat.le_of_ble_eq_true rfl) (fun ls hl => ?_)
  exact wfX12_word_0 b hlk hr zs zk hf hE (lv_sub hl [0, 1, 2, 3, 4, 5] rfl)
theorem dX12_token_0 : decode cX12_token 0 = .ok (.aload_n 0, 1) := by decide +kernel
theorem dX12_token_1 : decode cX12_token 1 = .ok (.getfield 20, 3) := by decide +kernel
theorem dX12_token_4 : decode cX12_token 4 = .ok (.aload_n 0, 1) := by decide +kernel
theorem dX12_token_5 : decode cX12_token 5 = .ok (.getfield 276, 3) := by decide +kernel
theorem dX12_token_8 : decode cX12_token 8 = .ok (.iload_n 1, 1) := by decide +kernel
theorem dX12_token_9 : decode cX12_token 9 = .ok (.iastore, 1) := by decide +kernel
theorem dX12_token_10 : decode cX12_token 10 = .ok (.aload_n 0, 1) := by decide +kernel
theorem dX12_token_11 : decode cX12_token 11 = .ok (.getfield 24, 3) := by decide +kernel
theorem dX12_token_14 : decode cX12_token 14 = .ok (.aload_n 0, 1) := by decide +kernel
theorem dX12_token_15 : decode cX12_token 15 = .ok (.getfield 276, 3) := by decide +kernel
theorem dX12_token_18 : decode cX12_token 18 = .ok (.iload_n 2, 1) := by decide +kernel
theorem dX12_token_19 : decode cX12_token 19 = .ok (.iastore, 1) := by decide +kernel
theorem dX12_token_20 : decode cX12_token 20 = .ok (.aload_n 0, 1) := by decide +kernel
theorem dX12_token_21 : decode cX12_token 21 = .ok (.getfield 27, 3) := by decide +kernel
theorem dX12_token_24 : decode cX12_token 24 = .ok (.aload_n 0, 1) := by decide +kernel
theorem dX12_token_25 : decode cX12_token 25 = .ok (.getfield 276, 3) := by decide +kernel
theorem dX12_token_28 : decode cX12_token 28 = .ok (.iload_n 3, 1) := by decide +kernel
theorem dX12_token_29 : decode cX12_token 29 = .ok (.iastore, 1) := by decide +kernel
theorem dX12_token_30 : decode cX12_token 30 = .ok (.aload_n 0, 1) := by decide +kernel
theorem dX12_token_31 : decode cX12_token 31 = .ok (.getfield 30, 3) := by decide +kernel
theorem dX12_token_34 : decode cX12_token 34 = .ok (.aload_n 0, 1) := by decide +kernel
theorem dX12_token_35 : decode cX12_token 35 = .ok (.getfield 276, 3) := by decide +kernel
theorem dX12_token_38 : decode cX12_token 38 = .ok (.lload 4, 2) := by decide +kernel
theorem dX12_token_40 : decode cX12_token 40 = .ok (.lastore, 1) := by decide +kernel
theorem dX12_token_41 : decode cX12_token 41 = .ok (.aload_n 0, 1) := by decide +kernel
theorem dX12_token_42 : decode cX12_token 42 = .ok (.dup, 1) := by decide +kernel
theorem dX12_token_43 : decode cX12_token 43 = .ok (.getfield 276, 3) := by decide +kernel
theorem dX12_token_46 : decode cX12_token 46 = .ok (.iconst 1, 1) := by decide +kernel
theorem dX12_token_47 : decode cX12_token 47 = .ok (.iadd, 1) := by decide +kernel
theorem dX12_token_48 : decode cX12_token 48 = .ok (.putfield 276, 3) := by decide +kernel
theorem dX12_token_51 : decode cX12_token 51 = .ok (.return_, 1) := by decide +kernel
def fX12_token_0  (h : MS) (x1 : Int32) (x2 : Int32) (x3 : Int32) (x4 : Int64) : Option (MS) :=
  oC (ix (mI h 10) (mlen 5)) (oL (mSA h 5 (Int32.toNatClampNeg (mI h 10)) x1) (fun h2 => oC (ix (mI h2 10) (mlen 6)) (oL (mSA h2 6 (Int32.toNatClampNeg (mI h2 10)) x2) (fun h4 => oC (ix (mI h4 10) (mlen 7)) (oL (mSA h4 7 (Int32.toNatClampNeg (mI h4 10)) x3) (fun h6 => oC (ix (mI h6 10) (mlen 8)) (oL (mSB h6 8 (Int32.toNatClampNeg (mI h6 10)) x4) (fun h8 => oL (mSI h8 10 ((mI h8 10) + 1)) (fun h9 => some (h9))))))))))
set_option maxHeartbeats 4000000 in
theorem wfX12_token_0 {args : Array Value} (b : Bd p s m c cX12_token 6 RX12 D aC) (hlk : meth.locks = false) (hr : meth.sig.returnType = none) {Z : State → Prop} (zs : Z s) (zk : ZOK Z (Rg ad)) {hz : MS} {h : MS} {x1 : Int32} {x2 : Int32} {x3 : Int32} {x4 : Int64}  {H : Heap} {locs : List Loc} {ls : Array Slot} (hf : fX12_token_0 h x1 x2 x3 x4 = some hz) (hE : CE (EM D aC ad h) (Rg ad) s H locs) (hl : lv_has ls 6 [(0, .ref (ad 116)), (1, .int x1), (2, .int x2), (3, .int x3), (4, .long x4)]) : W p l e (RM 0 0 0 0) s m args below meth c H locs 0 0 (MQ below (PQ (EM D aC ad hz) (Rg ad) none) args s 0 0 (Rg ad)) (F0 m 0 ls []) := by
  unfold fX12_token_0 at hf
  refine lv_aload_n b.1 b.2.1 dX12_token_0 rfl (lv_at hl 0 rfl) ?_
  refine gM_20 b hE dX12_token_1 ?_
  refine lv_aload_n b.1 b.2.1 dX12_token_4 rfl (lv_at hl 0 rfl) ?_
  refine gM_276 b hE dX12_token_5 ?_
  refine lv_iload_n b.1 b.2.1 dX12_token_8 rfl (lv_at hl 1 rfl) ?_
  obtain ⟨g1, hf⟩ := oC_s hf
  obtain ⟨h2, eh2, hf⟩ := oL_s hf
  refine n_iast b hE rfl rfl g1 eh2 dX12_token_9 (fun H locs hE => ?_)
  refine lv_aload_n b.1 b.2.1 dX12_token_10 rfl (lv_at hl 0 rfl) ?_
  refine gM_24 b hE dX12_token_11 ?_
  refine lv_aload_n b.1 b.2.1 dX12_token_14 rfl (lv_at hl 0 rfl) ?_
  refine gM_276 b hE dX12_token_15 ?_
  refine lv_iload_n b.1 b.2.1 dX12_token_18 rfl (lv_at hl 2 rfl) ?_
  obtain ⟨g3, hf⟩ := oC_s hf
  obtain ⟨h4, eh4, hf⟩ := oL_s hf
  refine n_iast b hE rfl rfl g3 eh4 dX12_token_19 (fun H locs hE => ?_)
  refine lv_aload_n b.1 b.2.1 dX12_token_20 rfl (lv_at hl 0 rfl) ?_
  refine gM_27 b hE dX12_token_21 ?_
  refine lv_aload_n b.1 b.2.1 dX12_token_24 rfl (lv_at hl 0 rfl) ?_
  refine gM_276 b hE dX12_token_25 ?_
  refine lv_iload_n b.1 b.2.1 dX12_token_28 rfl (lv_at hl 3 rfl) ?_
  obtain ⟨g5, hf⟩ := oC_s hf
  obtain ⟨h6, eh6, hf⟩ := oL_s hf
  refine n_iast b hE rfl rfl g5 eh6 dX12_token_29 (fun H locs hE => ?_)
  refine lv_aload_n b.1 b.2.1 dX12_token_30 rfl (lv_at hl 0 rfl) ?_
  refine gM_30 b hE dX12_token_31 ?_
  refine lv_aload_n b.1 b.2.1 dX12_token_34 rfl (lv_at hl 0 rfl) ?_
  refine gM_276 b hE dX12_token_35 ?_
  refine lv_lload b.1 b.2.1 dX12_token_38 (lv_at hl 4 rfl) ?_
  obtain ⟨g7, hf⟩ := oC_s hf
  obtain ⟨h8, eh8, hf⟩ := oL_s hf
  refine n_last b hE rfl rfl g7 eh8 dX12_token_40 (fun H locs hE => ?_)
  refine lv_aload_n b.1 b.2.1 dX12_token_41 rfl (lv_at hl 0 rfl) ?_
  refine lv_dup b.1 b.2.1 dX12_token_42 rfl ?_
  refine gM_276 b hE dX12_token_43 ?_
  refine lv_iconst (v := 1) b.1 b.2.1 dX12_token_46 (by decide) ?_
  refine lv_iadd b.1 b.2.1 dX12_token_47 ?_
  obtain ⟨h9, eh9, hf⟩ := oL_s hf
  refine pM_276 b hE eh9 dX12_token_48 (fun H locs hE => ?_)
  cases hf
  exact k_vret b hlk hr hE (Nat.le_refl _) (Nat.le_refl _) dX12_token_51
def fX12_token (h : MS) (x1 : Int32) (x2 : Int32) (x3 : Int32) (x4 : Int64) : Option (MS) := fX12_token_0 h x1 x2 x3 x4
set_option maxHeartbeats 4000000 in
theorem CX12_token (l : Launch) (D : va_G) (aC : Nat → ClassId) (ad : Nat → Nat) {Z : State → Prop} (zk : ZOK Z (Rg ad)) {h : MS} {x1 : Int32} {x2 : Int32} {x3 : Int32} {x4 : Int64} {hz : MS} (hf : fX12_token h x1 x2 x3 x4 = some hz) : CM l D aC Z yX12_token cX12_token 6 (none) 0 0 0 0 (EM D aC ad h) [.ref (ad 116), .int x1, .int x2, .int x3, .long x4] (EM D aC ad hz) none (Rg ad) := by
  refine CM.of rfl ?_
  intro p e s m below meth c b hr hlk hin2 zs hE
  refine k_ent (Nat.le_of_ble_eq_true rfl) (fun ls hl => ?_)
  exact wfX12_token_0 b hlk hr zs zk hf hE (lv_sub hl [0, 1, 2, 3, 4] rfl)
theorem dX12_sign_0 : decode cX12_sign 0 = .ok (.iload_n 2, 1) := by decide +kernel
theorem dX12_sign_1 : decode cX12_sign 1 = .ok (.bipush 61, 2) := by decide +kernel
theorem dX12_sign_3 : decode cX12_sign 3 = .ok (.if_icmp .ne 14, 3) := by decide +kernel
theorem dX12_sign_6 : decode cX12_sign 6 = .ok (.iload_n 3, 1) := by decide +kernel
theorem dX12_sign_7 : decode cX12_sign 7 = .ok (.bipush 62, 2) := by decide +kernel
theorem dX12_sign_9 : decode cX12_sign 9 = .ok (.if_icmp .ne 8, 3) := by decide +kernel
theorem dX12_sign_12 : decode cX12_sign 12 = .ok (.bipush 15, 2) := by decide +kernel
theorem dX12_sign_14 : decode cX12_sign 14 = .ok (.goto 47, 3) := by decide +kernel
theorem dX12_sign_17 : decode cX12_sign 17 = .ok (.iload_n 3, 1) := by decide +kernel
theorem dX12_sign_18 : decode cX12_sign 18 = .ok (.bipush 61, 2) := by decide +kernel
theorem dX12_sign_20 : decode cX12_sign 20 = .ok (.if_icmp .eq 7, 3) := by decide +kernel
theorem dX12_sign_23 : decode cX12_sign 23 = .ok (.iconst 0, 1) := by decide +kernel
theorem dX12_sign_24 : decode cX12_sign 24 = .ok (.goto 37, 3) := by decide +kernel
theorem dX12_sign_27 : decode cX12_sign 27 = .ok (.iload_n 2, 1) := by decide +kernel
theorem dX12_sign_28 : decode cX12_sign 28 = .ok (.bipush 61, 2) := by decide +kernel
theorem dX12_sign_30 : decode cX12_sign 30 = .ok (.if_icmp .ne 8, 3) := by decide +kernel
theorem dX12_sign_33 : decode cX12_sign 33 = .ok (.bipush 16, 2) := by decide +kernel
theorem dX12_sign_35 : decode cX12_sign 35 = .ok (.goto 26, 3) := by decide +kernel
theorem dX12_sign_38 : decode cX12_sign 38 = .ok (.iload_n 2, 1) := by decide +kernel
theorem dX12_sign_39 : decode cX12_sign 39 = .ok (.bipush 33, 2) := by decide +kernel
theorem dX12_sign_41 : decode cX12_sign 41 = .ok (.if_icmp .ne 8, 3) := by decide +kernel
theorem dX12_sign_44 : decode cX12_sign 44 = .ok (.bipush 17, 2) := by decide +kernel
theorem dX12_sign_46 : decode cX12_sign 46 = .ok (.goto 15, 3) := by decide +kernel
theorem dX12_sign_49 : decode cX12_sign 49 = .ok (.iload_n 2, 1) := by decide +kernel
theorem dX12_sign_50 : decode cX12_sign 50 = .ok (.bipush 60, 2) := by decide +kernel
theorem dX12_sign_52 : decode cX12_sign 52 = .ok (.if_icmp .ne 8, 3) := by decide +kernel
theorem dX12_sign_55 : decode cX12_sign 55 = .ok (.bipush 19, 2) := by decide +kernel
theorem dX12_sign_57 : decode cX12_sign 57 = .ok (.goto 4, 3) := by decide +kernel
theorem dX12_sign_60 : decode cX12_sign 60 = .ok (.iconst 0, 1) := by decide +kernel
theorem dX12_sign_61 : decode cX12_sign 61 = .ok (.istore 4, 2) := by decide +kernel
theorem dX12_sign_63 : decode cX12_sign 63 = .ok (.iconst 4, 1) := by decide +kernel
theorem dX12_sign_64 : decode cX12_sign 64 = .ok (.istore 5, 2) := by decide +kernel
theorem dX12_sign_66 : decode cX12_sign 66 = .ok (.iload 4, 2) := by decide +kernel
theorem dX12_sign_68 : decode cX12_sign 68 = .ok (.ifCond .le 10, 3) := by decide +kernel
theorem dX12_sign_71 : decode cX12_sign 71 = .ok (.iload 4, 2) := by decide +kernel
theorem dX12_sign_73 : decode cX12_sign 73 = .ok (.istore 5, 2) := by decide +kernel
theorem dX12_sign_75 : decode cX12_sign 75 = .ok (.goto 142, 3) := by decide +kernel
theorem dX12_sign_78 : decode cX12_sign 78 = .ok (.iload_n 2, 1) := by decide +kernel
theorem dX12_sign_79 : decode cX12_sign 79 = .ok (.bipush 59, 2) := by decide +kernel
theorem dX12_sign_81 : decode cX12_sign 81 = .ok (.if_icmp .ne 9, 3) := by decide +kernel
theorem dX12_sign_84 : decode cX12_sign 84 = .ok (.iconst 5, 1) := by decide +kernel
theorem dX12_sign_85 : decode cX12_sign 85 = .ok (.istore 5, 2) := by decide +kernel
theorem dX12_sign_87 : decode cX12_sign 87 = .ok (.goto 130, 3) := by decide +kernel
theorem dX12_sign_90 : decode cX12_sign 90 = .ok (.iload_n 2, 1) := by decide +kernel
theorem dX12_sign_91 : decode cX12_sign 91 = .ok (.bipush 58, 2) := by decide +kernel
theorem dX12_sign_93 : decode cX12_sign 93 = .ok (.if_icmp .ne 10, 3) := by decide +kernel
theorem dX12_sign_96 : decode cX12_sign 96 = .ok (.bipush 6, 2) := by decide +kernel
theorem dX12_sign_98 : decode cX12_sign 98 = .ok (.istore 5, 2) := by decide +kernel
theorem dX12_sign_100 : decode cX12_sign 100 = .ok (.goto 117, 3) := by decide +kernel
theorem dX12_sign_103 : decode cX12_sign 103 = .ok (.iload_n 2, 1) := by decide +kernel
theorem dX12_sign_104 : decode cX12_sign 104 = .ok (.bipush 44, 2) := by decide +kernel
theorem dX12_sign_106 : decode cX12_sign 106 = .ok (.if_icmp .ne 10, 3) := by decide +kernel
theorem dX12_sign_109 : decode cX12_sign 109 = .ok (.bipush 7, 2) := by decide +kernel
theorem dX12_sign_111 : decode cX12_sign 111 = .ok (.istore 5, 2) := by decide +kernel
theorem dX12_sign_113 : decode cX12_sign 113 = .ok (.goto 104, 3) := by decide +kernel
theorem dX12_sign_116 : decode cX12_sign 116 = .ok (.iload_n 2, 1) := by decide +kernel
theorem dX12_sign_117 : decode cX12_sign 117 = .ok (.bipush 46, 2) := by decide +kernel
theorem dX12_sign_119 : decode cX12_sign 119 = .ok (.if_icmp .ne 10, 3) := by decide +kernel
theorem dX12_sign_122 : decode cX12_sign 122 = .ok (.bipush 8, 2) := by decide +kernel
theorem dX12_sign_124 : decode cX12_sign 124 = .ok (.istore 5, 2) := by decide +kernel
theorem dX12_sign_126 : decode cX12_sign 126 = .ok (.goto 91, 3) := by decide +kernel
theorem dX12_sign_129 : decode cX12_sign 129 = .ok (.iload_n 2, 1) := by decide +kernel
theorem dX12_sign_130 : decode cX12_sign 130 = .ok (.bipush 40, 2) := by decide +kernel
theorem dX12_sign_132 : decode cX12_sign 132 = .ok (.if_icmp .ne 10, 3) := by decide +kernel
theorem dX12_sign_135 : decode cX12_sign 135 = .ok (.bipush 9, 2) := by decide +kernel
theorem dX12_sign_137 : decode cX12_sign 137 = .ok (.istore 5, 2) := by decide +kernel
theorem dX12_sign_139 : decode cX12_sign 139 = .ok (.goto 78, 3) := by decide +kernel
theorem dX12_sign_142 : decode cX12_sign 142 = .ok (.iload_n 2, 1) := by decide +kernel
theorem dX12_sign_143 : decode cX12_sign 143 = .ok (.bipush 41, 2) := by decide +kernel
theorem dX12_sign_145 : decode cX12_sign 145 = .ok (.if_icmp .ne 10, 3) := by decide +kernel
theorem dX12_sign_148 : decode cX12_sign 148 = .ok (.bipush 10, 2) := by decide +kernel
theorem dX12_sign_150 : decode cX12_sign 150 = .ok (.istore 5, 2) := by decide +kernel
theorem dX12_sign_152 : decode cX12_sign 152 = .ok (.goto 65, 3) := by decide +kernel
theorem dX12_sign_155 : decode cX12_sign 155 = .ok (.iload_n 2, 1) := by decide +kernel
theorem dX12_sign_156 : decode cX12_sign 156 = .ok (.bipush 43, 2) := by decide +kernel
theorem dX12_sign_158 : decode cX12_sign 158 = .ok (.if_icmp .ne 10, 3) := by decide +kernel
theorem dX12_sign_161 : decode cX12_sign 161 = .ok (.bipush 11, 2) := by decide +kernel
theorem dX12_sign_163 : decode cX12_sign 163 = .ok (.istore 5, 2) := by decide +kernel
theorem dX12_sign_165 : decode cX12_sign 165 = .ok (.goto 52, 3) := by decide +kernel
theorem dX12_sign_168 : decode cX12_sign 168 = .ok (.iload_n 2, 1) := by decide +kernel
theorem dX12_sign_169 : decode cX12_sign 169 = .ok (.bipush 45, 2) := by decide +kernel
theorem dX12_sign_171 : decode cX12_sign 171 = .ok (.if_icmp .ne 10, 3) := by decide +kernel
theorem dX12_sign_174 : decode cX12_sign 174 = .ok (.bipush 12, 2) := by decide +kernel
theorem dX12_sign_176 : decode cX12_sign 176 = .ok (.istore 5, 2) := by decide +kernel
theorem dX12_sign_178 : decode cX12_sign 178 = .ok (.goto 39, 3) := by decide +kernel
theorem dX12_sign_181 : decode cX12_sign 181 = .ok (.iload_n 2, 1) := by decide +kernel
theorem dX12_sign_182 : decode cX12_sign 182 = .ok (.bipush 42, 2) := by decide +kernel
theorem dX12_sign_184 : decode cX12_sign 184 = .ok (.if_icmp .ne 10, 3) := by decide +kernel
theorem dX12_sign_187 : decode cX12_sign 187 = .ok (.bipush 13, 2) := by decide +kernel
theorem dX12_sign_189 : decode cX12_sign 189 = .ok (.istore 5, 2) := by decide +kernel
theorem dX12_sign_191 : decode cX12_sign 191 = .ok (.goto 26, 3) := by decide +kernel
theorem dX12_sign_194 : decode cX12_sign 194 = .ok (.iload_n 2, 1) := by decide +kernel
theorem dX12_sign_195 : decode cX12_sign 195 = .ok (.bipush 47, 2) := by decide +kernel
theorem dX12_sign_197 : decode cX12_sign 197 = .ok (.if_icmp .ne 10, 3) := by decide +kernel
theorem dX12_sign_200 : decode cX12_sign 200 = .ok (.bipush 14, 2) := by decide +kernel
theorem dX12_sign_202 : decode cX12_sign 202 = .ok (.istore 5, 2) := by decide +kernel
theorem dX12_sign_204 : decode cX12_sign 204 = .ok (.goto 13, 3) := by decide +kernel
theorem dX12_sign_207 : decode cX12_sign 207 = .ok (.iload_n 2, 1) := by decide +kernel
theorem dX12_sign_208 : decode cX12_sign 208 = .ok (.bipush 60, 2) := by decide +kernel
theorem dX12_sign_210 : decode cX12_sign 210 = .ok (.if_icmp .ne 7, 3) := by decide +kernel
theorem dX12_sign_213 : decode cX12_sign 213 = .ok (.bipush 18, 2) := by decide +kernel
theorem dX12_sign_215 : decode cX12_sign 215 = .ok (.istore 5, 2) := by decide +kernel
theorem dX12_sign_217 : decode cX12_sign 217 = .ok (.aload_n 0, 1) := by decide +kernel
theorem dX12_sign_218 : decode cX12_sign 218 = .ok (.iload 5, 2) := by decide +kernel
theorem dX12_sign_220 : decode cX12_sign 220 = .ok (.iload_n 1, 1) := by decide +kernel
theorem dX12_sign_221 : decode cX12_sign 221 = .ok (.iconst 0, 1) := by decide +kernel
theorem dX12_sign_222 : decode cX12_sign 222 = .ok (.lconst 0, 1) := by decide +kernel
theorem dX12_sign_223 : decode cX12_sign 223 = .ok (.invokevirtual 283, 3) := by decide +kernel
theorem dX12_sign_226 : decode cX12_sign 226 = .ok (.iload 4, 2) := by decide +kernel
theorem dX12_sign_228 : decode cX12_sign 228 = .ok (.ifCond .le 7, 3) := by decide +kernel
theorem dX12_sign_231 : decode cX12_sign 231 = .ok (.iconst 2, 1) := by decide +kernel
theorem dX12_sign_232 : decode cX12_sign 232 = .ok (.goto 4, 3) := by decide +kernel
theorem dX12_sign_235 : decode cX12_sign 235 = .ok (.iconst 1, 1) := by decide +kernel
theorem dX12_sign_236 : decode cX12_sign 236 = .ok (.ireturn, 1) := by decide +kernel
def fX12_sign_217  (h : MS) (x1 : Int32) (x4 : Int32) (x5 : Int32) : Option (MS × Int32) :=
  oB (fX12_token h x5 x1 0 0) (fun h2 => if x4 ≤ 0 then (some (h2, 1)) else (some (h2, 2)))
set_option maxHeartbeats 4000000 in
theorem wfX12_sign_217 {args : Array Value} (b : Bd p s m c cX12_sign 6 RX12 D aC) (hlk : meth.locks = false) (hr : meth.sig.returnType = some .int) {Z : State → Prop} (zs : Z s) (zk : ZOK Z (Rg ad)) {hz : MS} {rz : Int32} {h : MS} {x1 : Int32} {x4 : Int32} {x5 : Int32}  {H : Heap} {locs : List Loc} {ls : Array Slot} (hf : fX12_sign_217 h x1 x4 x5 = some (hz, rz)) (hE : CE (EM D aC ad h) (Rg ad) s H locs) (hl : lv_has ls 6 [(0, .ref (ad 116)), (1, .int x1), (4, .int x4), (5, .int x5)]) : W p l e (RM 1 25 0 0) s m args below meth c H locs 0 0 (MQ below (PQ (EM D aC ad hz) (Rg ad) (some (.int rz))) args s 0 0 (Rg ad)) (F0 m 217 ls []) := by
  unfold fX12_sign_217 at hf
  refine lv_aload_n b.1 b.2.1 dX12_sign_217 rfl (lv_at hl 0 rfl) ?_
  refine lv_iload b.1 b.2.1 dX12_sign_218 (lv_at hl 3 rfl) ?_
  refine lv_iload_n b.1 b.2.1 dX12_sign_220 rfl (lv_at hl 1 rfl) ?_
  refine lv_iconst (v := 0) b.1 b.2.1 dX12_sign_221 (by decide) ?_
  refine lv_lconst (v := 0) b.1 b.2.1 dX12_sign_222 rfl ?_
  obtain ⟨h2, hc1, hf⟩ := oB_s hf
  refine k_callV0 (C := RX12) b zs zk hE (CX12_token l D aC ad zk hc1) mc_X12_token (in7 98 rfl rfl) mi_X12_token ms_X12_token ini_RX12 ok_X12_token (m_recv b hE) ⟨Nat.le_of_ble_eq_true rfl, Nat.le_of_ble_eq_true rfl⟩ rfl hl.1 rfl (k_room _ (by exact Nat.le_of_ble_eq_true rfl)) ⟨Nat.le_refl _, Nat.le_refl _⟩ dX12_sign_223 (fun H locs hE => ?_)
  refine lv_iload b.1 b.2.1 dX12_sign_226 (lv_at hl 2 rfl) ?_
  refine lv_if_le (tgt := 235) b.1 b.2.1 dX12_sign_228 (by decide) (fun c3 => ?_) (fun c3 => ?_)
  · have hf := oI_t c3 hf
    refine lv_iconst (v := 1) b.1 b.2.1 dX12_sign_235 (by decide) ?_
    cases hf
    exact k_iret b hlk hr hE (Nat.le_refl _) (Nat.le_refl _) dX12_sign_236
  · have hf := oI_f c3 hf
    refine lv_iconst (v := 2) b.1 b.2.1 dX12_sign_231 (by decide) ?_
    refine lv_goto (tgt := 236) b.1 b.2.1 dX12_sign_232 (by decide) ?_
    cases hf
    exact k_iret b hlk hr hE (Nat.le_refl _) (Nat.le_refl _) dX12_sign_236
def fX12_sign_61  (h : MS) (x1 : Int32) (x2 : Int32) (s0 : Int32) : Option (MS × Int32) :=
  if s0 ≤ 0 then (if x2 = 59 then (fX12_sign_217  h x1 s0 5) else (if x2 = 58 then (fX12_sign_217  h x1 s0 6) else (if x2 = 44 then (fX12_sign_217  h x1 s0 7) else (if x2 = 46 then (fX12_sign_217  h x1 s0 8) else (if x2 = 40 then (fX12_sign_217  h x1 s0 9) else (if x2 = 41 then (fX12_sign_217  h x1 s0 10) else (if x2 = 43 then (fX12_sign_217  h x1 s0 11) else (if x2 = 45 then (fX12_sign_217  h x1 s0 12) else (if x2 = 42 then (fX12_sign_217  h x1 s0 13) else (if x2 = 47 then (fX12_sign_217  h x1 s0 14) else (if x2 = 60 then (fX12_sign_217  h x1 s0 18) else (fX12_sign_217  h x1 s0 4)))))))))))) else (fX12_sign_217  h x1 s0 s0)
set_option maxHeartbeats 4000000 in
theorem wfX12_sign_61 {args : Array Value} (b : Bd p s m c cX12_sign 6 RX12 D aC) (hlk : meth.locks = false) (hr : meth.sig.returnType = some .int) {Z : State → Prop} (zs : Z s) (zk : ZOK Z (Rg ad)) {hz : MS} {rz : Int32} {h : MS} {x1 : Int32} {x2 : Int32} {s0 : Int32}  {H : Heap} {locs : List Loc} {ls : Array Slot} (hf : fX12_sign_61 h x1 x2 s0 = some (hz, rz)) (hE : CE (EM D aC ad h) (Rg ad) s H locs) (hl : lv_has ls 6 [(0, .ref (ad 116)), (1, .int x1), (2, .int x2)]) : W p l e (RM 1 25 0 0) s m args below meth c H locs 0 0 (MQ below (PQ (EM D aC ad hz) (Rg ad) (some (.int rz))) args s 0 0 (Rg ad)) (F0 m 61 ls [.int s0]) := by
  unfold fX12_sign_61 at hf
  refine lv_istore (lv' := [(4, .int s0), (0, .ref (ad 116)), (1, .int x1), (2, .int x2)]) b.1 b.2.1 dX12_sign_61 hl (by decide) rfl (fun ls hl => ?_)
  refine lv_iconst (v := 4) b.1 b.2.1 dX12_sign_63 (by decide) ?_
  refine lv_istore (lv' := [(5, .int 4), (4, .int s0), (0, .ref (ad 116)), (1, .int x1), (2, .int x2)]) b.1 b.2.1 dX12_sign_64 hl (by decide) rfl (fun ls hl => ?_)
  refine lv_iload b.1 b.2.1 dX12_sign_66 (lv_at hl 1 rfl) ?_
  refine lv_if_le (tgt := 78) b.1 b.2.1 dX12_sign_68 (by decide) (fun c4 => ?_) (fun c4 => ?_)
  · have hf := oI_t c4 hf
    refine lv_iload_n b.1 b.2.1 dX12_sign_78 rfl (lv_at hl 4 rfl) ?_
    refine lv_bipush (v := 59) b.1 b.2.1 dX12_sign_79 (by decide) ?_
    refine lv_icmp_ne (tgt := 90) b.1 b.2.1 dX12_sign_81 (by decide) (fun c5 => ?_) (fun c5 => ?_)
    · have hf := oI_f c5 hf
      refine lv_iload_n b.1 b.2.1 dX12_sign_90 rfl (lv_at hl 4 rfl) ?_
      refine lv_bipush (v := 58) b.1 b.2.1 dX12_sign_91 (by decide) ?_
      refine lv_icmp_ne (tgt := 103) b.1 b.2.1 dX12_sign_93 (by decide) (fun c6 => ?_) (fun c6 => ?_)
      · have hf := oI_f c6 hf
        refine lv_iload_n b.1 b.2.1 dX12_sign_103 rfl (lv_at hl 4 rfl) ?_
        refine lv_bipush (v := 44) b.1 b.2.1 dX12_sign_104 (by decide) ?_
        refine lv_icmp_ne (tgt := 116) b.1 b.2.1 dX12_sign_106 (by decide) (fun c7 => ?_) (fun c7 => ?_)
        · have hf := oI_f c7 hf
          refine lv_iload_n b.1 b.2.1 dX12_sign_116 rfl (lv_at hl 4 rfl) ?_
          refine lv_bipush (v := 46) b.1 b.2.1 dX12_sign_117 (by decide) ?_
          refine lv_icmp_ne (tgt := 129) b.1 b.2.1 dX12_sign_119 (by decide) (fun c8 => ?_) (fun c8 => ?_)
          · have hf := oI_f c8 hf
            refine lv_iload_n b.1 b.2.1 dX12_sign_129 rfl (lv_at hl 4 rfl) ?_
            refine lv_bipush (v := 40) b.1 b.2.1 dX12_sign_130 (by decide) ?_
            refine lv_icmp_ne (tgt := 142) b.1 b.2.1 dX12_sign_132 (by decide) (fun c9 => ?_) (fun c9 => ?_)
            · have hf := oI_f c9 hf
              refine lv_iload_n b.1 b.2.1 dX12_sign_142 rfl (lv_at hl 4 rfl) ?_
              refine lv_bipush (v := 41) b.1 b.2.1 dX12_sign_143 (by decide) ?_
              refine lv_icmp_ne (tgt := 155) b.1 b.2.1 dX12_sign_145 (by decide) (fun c10 => ?_) (fun c10 => ?_)
              · have hf := oI_f c10 hf
                refine lv_iload_n b.1 b.2.1 dX12_sign_155 rfl (lv_at hl 4 rfl) ?_
                refine lv_bipush (v := 43) b.1 b.2.1 dX12_sign_156 (by decide) ?_
                refine lv_icmp_ne (tgt := 168) b.1 b.2.1 dX12_sign_158 (by decide) (fun c11 => ?_) (fun c11 => ?_)
                · have hf := oI_f c11 hf
                  refine lv_iload_n b.1 b.2.1 dX12_sign_168 rfl (lv_at hl 4 rfl) ?_
                  refine lv_bipush (v := 45) b.1 b.2.1 dX12_sign_169 (by decide) ?_
                  refine lv_icmp_ne (tgt := 181) b.1 b.2.1 dX12_sign_171 (by decide) (fun c12 => ?_) (fun c12 => ?_)
                  · have hf := oI_f c12 hf
                    refine lv_iload_n b.1 b.2.1 dX12_sign_181 rfl (lv_at hl 4 rfl) ?_
                    refine lv_bipush (v := 42) b.1 b.2.1 dX12_sign_182 (by decide) ?_
                    refine lv_icmp_ne (tgt := 194) b.1 b.2.1 dX12_sign_184 (by decide) (fun c13 => ?_) (fun c13 => ?_)
                    · have hf := oI_f c13 hf
                      refine lv_iload_n b.1 b.2.1 dX12_sign_194 rfl (lv_at hl 4 rfl) ?_
                      refine lv_bipush (v := 47) b.1 b.2.1 dX12_sign_195 (by decide) ?_
                      refine lv_icmp_ne (tgt := 207) b.1 b.2.1 dX12_sign_197 (by decide) (fun c14 => ?_) (fun c14 => ?_)
                      · have hf := oI_f c14 hf
                        refine lv_iload_n b.1 b.2.1 dX12_sign_207 rfl (lv_at hl 4 rfl) ?_
                        refine lv_bipush (v := 60) b.1 b.2.1 dX12_sign_208 (by decide) ?_
                        refine lv_icmp_ne (tgt := 217) b.1 b.2.1 dX12_sign_210 (by decide) (fun c15 => ?_) (fun c15 => ?_)
                        · have hf := oI_f c15 hf
                          exact wfX12_sign_217 b hlk hr zs zk  hf hE (lv_sub hl [2, 3, 1, 0] rfl)
                        · have hf := oI_t c15 hf
                          refine lv_bipush (v := 18) b.1 b.2.1 dX12_sign_213 (by decide) ?_
                          refine lv_istore (lv' := [(5, .int 18), (4, .int s0), (0, .ref (ad 116)), (1, .int x1), (2, .int x2)]) b.1 b.2.1 dX12_sign_215 hl (by decide) rfl (fun ls hl => ?_)
                          have hl := lv_sub (l' := [(5, .int 18), (4, .int s0), (0, .ref (ad 116)), (1, .int x1)]) hl [0, 1, 2, 3] rfl
                          exact wfX12_sign_217 b hlk hr zs zk  hf hE (lv_sub hl [2, 3, 1, 0] rfl)
                      · have hf := oI_t c14 hf
                        refine lv_bipush (v := 14) b.1 b.2.1 dX12_sign_200 (by decide) ?_
                        refine lv_istore (lv' := [(5, .int 14), (4, .int s0), (0, .ref (ad 116)), (1, .int x1), (2, .int x2)]) b.1 b.2.1 dX12_sign_202 hl (by decide) rfl (fun ls hl => ?_)
                        have hl := lv_sub (l' := [(5, .int 14), (4, .int s0), (0, .ref (ad 116)), (1, .int x1)]) hl [0, 1, 2, 3] rfl
                        refine lv_goto (tgt := 217) b.1 b.2.1 dX12_sign_204 (by decide) ?_
                        exact wfX12_sign_217 b hlk hr zs zk  hf hE (lv_sub hl [2, 3, 1, 0] rfl)
                    · have hf := oI_t c13 hf
                      refine lv_bipush (v := 13) b.1 b.2.1 dX12_sign_187 (by decide) ?_
                      refine lv_istore (lv' := [(5, .int 13), (4, .int s0), (0, .ref (ad 116)), (1, .int x1), (2, .int x2)]) b.1 b.2.1 dX12_sign_189 hl (by decide) rfl (fun ls hl => ?_)
                      have hl := lv_sub (l' := [(5, .int 13), (4, .int s0), (0, .ref (ad 116)), (1, .int x1)]) hl [0, 1, 2, 3] rfl
                      refine lv_goto (tgt := 217) b.1 b.2.1 dX12_sign_191 (by decide) ?_
                      exact wfX12_sign_217 b hlk hr zs zk  hf hE (lv_sub hl [2, 3, 1, 0] rfl)
                  · have hf := oI_t c12 hf
                    refine lv_bipush (v := 12) b.1 b.2.1 dX12_sign_174 (by decide) ?_
                    refine lv_istore (lv' := [(5, .int 12), (4, .int s0), (0, .ref (ad 116)), (1, .int x1), (2, .int x2)]) b.1 b.2.1 dX12_sign_176 hl (by decide) rfl (fun ls hl => ?_)
                    have hl := lv_sub (l' := [(5, .int 12), (4, .int s0), (0, .ref (ad 116)), (1, .int x1)]) hl [0, 1, 2, 3] rfl
                    refine lv_goto (tgt := 217) b.1 b.2.1 dX12_sign_178 (by decide) ?_
                    exact wfX12_sign_217 b hlk hr zs zk  hf hE (lv_sub hl [2, 3, 1, 0] rfl)
                · have hf := oI_t c11 hf
                  refine lv_bipush (v := 11) b.1 b.2.1 dX12_sign_161 (by decide) ?_
                  refine lv_istore (lv' := [(5, .int 11), (4, .int s0), (0, .ref (ad 116)), (1, .int x1), (2, .int x2)]) b.1 b.2.1 dX12_sign_163 hl (by decide) rfl (fun ls hl => ?_)
                  have hl := lv_sub (l' := [(5, .int 11), (4, .int s0), (0, .ref (ad 116)), (1, .int x1)]) hl [0, 1, 2, 3] rfl
                  refine lv_goto (tgt := 217) b.1 b.2.1 dX12_sign_165 (by decide) ?_
                  exact wfX12_sign_217 b hlk hr zs zk  hf hE (lv_sub hl [2, 3, 1, 0] rfl)
              · have hf := oI_t c10 hf
                refine lv_bipush (v := 10) b.1 b.2.1 dX12_sign_148 (by decide) ?_
                refine lv_istore (lv' := [(5, .int 10), (4, .int s0), (0, .ref (ad 116)), (1, .int x1), (2, .int x2)]) b.1 b.2.1 dX12_sign_150 hl (by decide) rfl (fun ls hl => ?_)
                have hl := lv_sub (l' := [(5, .int 10), (4, .int s0), (0, .ref (ad 116)), (1, .int x1)]) hl [0, 1, 2, 3] rfl
                refine lv_goto (tgt := 217) b.1 b.2.1 dX12_sign_152 (by decide) ?_
                exact wfX12_sign_217 b hlk hr zs zk  hf hE (lv_sub hl [2, 3, 1, 0] rfl)
            · have hf := oI_t c9 hf
              refine lv_bipush (v := 9) b.1 b.2.1 dX12_sign_135 (by decide) ?_
              refine lv_istore (lv' := [(5, .int 9), (4, .int s0), (0, .ref (ad 116)), (1, .int x1), (2, .int x2)]) b.1 b.2.1 dX12_sign_137 hl (by decide) rfl (fun ls hl => ?_)
              have hl := lv_sub (l' := [(5, .int 9), (4, .int s0), (0, .ref (ad 116)), (1, .int x1)]) hl [0, 1, 2, 3] rfl
              refine lv_goto (tgt := 217) b.1 b.2.1 dX12_sign_139 (by decide) ?_
              exact wfX12_sign_217 b hlk hr zs zk  hf hE (lv_sub hl [2, 3, 1, 0] rfl)
          · have hf := oI_t c8 hf
            refine lv_bipush (v := 8) b.1 b.2.1 dX12_sign_122 (by decide) ?_
            refine lv_istore (lv' := [(5, .int 8), (4, .int s0), (0, .ref (ad 116)), (1, .int x1), (2, .int x2)]) b.1 b.2.1 dX12_sign_124 hl (by decide) rfl (fun ls hl => ?_)
            have hl := lv_sub (l' := [(5, .int 8), (4, .int s0), (0, .ref (ad 116)), (1, .int x1)]) hl [0, 1, 2, 3] rfl
            refine lv_goto (tgt := 217) b.1 b.2.1 dX12_sign_126 (by decide) ?_
            exact wfX12_sign_217 b hlk hr zs zk  hf hE (lv_sub hl [2, 3, 1, 0] rfl)
        · have hf := oI_t c7 hf
          refine lv_bipush (v := 7) b.1 b.2.1 dX12_sign_109 (by decide) ?_
          refine lv_istore (lv' := [(5, .int 7), (4, .int s0), (0, .ref (ad 116)), (1, .int x1), (2, .int x2)]) b.1 b.2.1 dX12_sign_111 hl (by decide) rfl (fun ls hl => ?_)
          have hl := lv_sub (l' := [(5, .int 7), (4, .int s0), (0, .ref (ad 116)), (1, .int x1)]) hl [0, 1, 2, 3] rfl
          refine lv_goto (tgt := 217) b.1 b.2.1 dX12_sign_113 (by decide) ?_
          exact wfX12_sign_217 b hlk hr zs zk  hf hE (lv_sub hl [2, 3, 1, 0] rfl)
      · have hf := oI_t c6 hf
        refine lv_bipush (v := 6) b.1 b.2.1 dX12_sign_96 (by decide) ?_
        refine lv_istore (lv' := [(5, .int 6), (4, .int s0), (0, .ref (ad 116)), (1, .int x1), (2, .int x2)]) b.1 b.2.1 dX12_sign_98 hl (by decide) rfl (fun ls hl => ?_)
        have hl := lv_sub (l' := [(5, .int 6), (4, .int s0), (0, .ref (ad 116)), (1, .int x1)]) hl [0, 1, 2, 3] rfl
        refine lv_goto (tgt := 217) b.1 b.2.1 dX12_sign_100 (by decide) ?_
        exact wfX12_sign_217 b hlk hr zs zk  hf hE (lv_sub hl [2, 3, 1, 0] rfl)
    · have hf := oI_t c5 hf
      refine lv_iconst (v := 5) b.1 b.2.1 dX12_sign_84 (by decide) ?_
      refine lv_istore (lv' := [(5, .int 5), (4, .int s0), (0, .ref (ad 116)), (1, .int x1), (2, .int x2)]) b.1 b.2.1 dX12_sign_85 hl (by decide) rfl (fun ls hl => ?_)
      have hl := lv_sub (l' := [(5, .int 5), (4, .int s0), (0, .ref (ad 116)), (1, .int x1)]) hl [0, 1, 2, 3] rfl
      refine lv_goto (tgt := 217) b.1 b.2.1 dX12_sign_87 (by decide) ?_
      exact wfX12_sign_217 b hlk hr zs zk  hf hE (lv_sub hl [2, 3, 1, 0] rfl)
  · have hf := oI_f c4 hf
    refine lv_iload b.1 b.2.1 dX12_sign_71 (lv_at hl 1 rfl) ?_
    refine lv_istore (lv' := [(5, .int s0), (4, .int s0), (0, .ref (ad 116)), (1, .int x1), (2, .int x2)]) b.1 b.2.1 dX12_sign_73 hl (by decide) rfl (fun ls hl => ?_)
    have hl := lv_sub (l' := [(5, .int s0), (4, .int s0), (0, .ref (ad 116)), (1, .int x1)]) hl [0, 1, 2, 3] rfl
    refine lv_goto (tgt := 217) b.1 b.2.1 dX12_sign_75 (by decide) ?_
    exact wfX12_sign_217 b hlk hr zs zk  hf hE (lv_sub hl [2, 3, 1, 0] rfl)
def fX12_sign_17  (h : MS) (x1 : Int32) (x2 : Int32) (x3 : Int32) : Option (MS × Int32) :=
  if x3 = 61 then (if x2 = 61 then (fX12_sign_61  h x1 x2 16) else (if x2 = 33 then (fX12_sign_61  h x1 x2 17) else (if x2 = 60 then (fX12_sign_61  h x1 x2 19) else (fX12_sign_61  h x1 x2 0)))) else (fX12_sign_61  h x1 x2 0)
set_option maxHeartbeats 4000000 in
theorem wfX12_sign_17 {args : Array Value} (b : Bd p s m c cX12_sign 6 RX12 D aC) (hlk : meth.locks = false) (hr : meth.sig.returnType = some .int) {Z : State → Prop} (zs : Z s) (zk : ZOK Z (Rg ad)) {hz : MS} {rz : Int32} {h : MS} {x1 : Int32} {x2 : Int32} {x3 : Int32}  {H : Heap} {locs : List Loc} {ls : Array Slot} (hf : fX12_sign_17 h x1 x2 x3 = some (hz, rz)) (hE : CE (EM D aC ad h) (Rg ad) s H locs) (hl : lv_has ls 6 [(0, .ref (ad 116)), (1, .int x1), (2, .int x2), (3, .int x3)]) : W p l e (RM 1 25 0 0) s m args below meth c H locs 0 0 (MQ below (PQ (EM D aC ad hz) (Rg ad) (some (.int rz))) args s 0 0 (Rg ad)) (F0 m 17 ls []) := by
  unfold fX12_sign_17 at hf
  refine lv_iload_n b.1 b.2.1 dX12_sign_17 rfl (lv_at hl 3 rfl) ?_
  refine lv_bipush (v := 61) b.1 b.2.1 dX12_sign_18 (by decide) ?_
  refine lv_icmp_eq (tgt := 27) b.1 b.2.1 dX12_sign_20 (by decide) (fun c16 => ?_) (fun c16 => ?_)
  · have hf := oI_t c16 hf
    refine lv_iload_n b.1 b.2.1 dX12_sign_27 rfl (lv_at hl 2 rfl) ?_
    refine lv_bipush (v := 61) b.1 b.2.1 dX12_sign_28 (by decide) ?_
    refine lv_icmp_ne (tgt := 38) b.1 b.2.1 dX12_sign_30 (by decide) (fun c17 => ?_) (fun c17 => ?_)
    · have hf := oI_f c17 hf
      refine lv_iload_n b.1 b.2.1 dX12_sign_38 rfl (lv_at hl 2 rfl) ?_
      refine lv_bipush (v := 33) b.1 b.2.1 dX12_sign_39 (by decide) ?_
      refine lv_icmp_ne (tgt := 49) b.1 b.2.1 dX12_sign_41 (by decide) (fun c18 => ?_) (fun c18 => ?_)
      · have hf := oI_f c18 hf
        refine lv_iload_n b.1 b.2.1 dX12_sign_49 rfl (lv_at hl 2 rfl) ?_
        refine lv_bipush (v := 60) b.1 b.2.1 dX12_sign_50 (by decide) ?_
        refine lv_icmp_ne (tgt := 60) b.1 b.2.1 dX12_sign_52 (by decide) (fun c19 => ?_) (fun c19 => ?_)
        · have hf := oI_f c19 hf
          refine lv_iconst (v := 0) b.1 b.2.1 dX12_sign_60 (by decide) ?_
          exact wfX12_sign_61 b hlk hr zs zk  hf hE (lv_sub hl [0, 1, 2] rfl)
        · have hf := oI_t c19 hf
          refine lv_bipush (v := 19) b.1 b.2.1 dX12_sign_55 (by decide) ?_
          refine lv_goto (tgt := 61) b.1 b.2.1 dX12_sign_57 (by decide) ?_
          exact wfX12_sign_61 b hlk hr zs zk  hf hE (lv_sub hl [0, 1, 2] rfl)
      · have hf := oI_t c18 hf
        refine lv_bipush (v := 17) b.1 b.2.1 dX12_sign_44 (by decide) ?_
        refine lv_goto (tgt := 61) b.1 b.2.1 dX12_sign_46 (by decide) ?_
        exact wfX12_sign_61 b hlk hr zs zk  hf hE (lv_sub hl [0, 1, 2] rfl)
    · have hf := oI_t c17 hf
      refine lv_bipush (v := 16) b.1 b.2.1 dX12_sign_33 (by decide) ?_
      refine lv_goto (tgt := 61) b.1 b.2.1 dX12_sign_35 (by decide) ?_
      exact wfX12_sign_61 b hlk hr zs zk  hf hE (lv_sub hl [0, 1, 2] rfl)
  · have hf := oI_f c16 hf
    refine lv_iconst (v := 0) b.1 b.2.1 dX12_sign_23 (by decide) ?_
    refine lv_goto (tgt := 61) b.1 b.2.1 dX12_sign_24 (by decide) ?_
    exact wfX12_sign_61 b hlk hr zs zk  hf hE (lv_sub hl [0, 1, 2] rfl)
def fX12_sign_0  (h : MS) (x1 : Int32) (x2 : Int32) (x3 : Int32) : Option (MS × Int32) :=
  if x2 = 61 then (if x3 = 62 then (fX12_sign_61  h x1 x2 15) else (fX12_sign_17  h x1 x2 x3)) else (fX12_sign_17  h x1 x2 x3)
set_option maxHeartbeats 4000000 in
theorem wfX12_sign_0 {args : Array Value} (b : Bd p s m c cX12_sign 6 RX12 D aC) (hlk : meth.locks = false) (hr : meth.sig.returnType = some .int) {Z : State → Prop} (zs : Z s) (zk : ZOK Z (Rg ad)) {hz : MS} {rz : Int32} {h : MS} {x1 : Int32} {x2 : Int32} {x3 : Int32}  {H : Heap} {locs : List Loc} {ls : Array Slot} (hf : fX12_sign_0 h x1 x2 x3 = some (hz, rz)) (hE : CE (EM D aC ad h) (Rg ad) s H locs) (hl : lv_has ls 6 [(0, .ref (ad 116)), (1, .int x1), (2, .int x2), (3, .int x3)]) : W p l e (RM 1 25 0 0) s m args below meth c H locs 0 0 (MQ below (PQ (EM D aC ad hz) (Rg ad) (some (.int rz))) args s 0 0 (Rg ad)) (F0 m 0 ls []) := by
  unfold fX12_sign_0 at hf
  refine lv_iload_n b.1 b.2.1 dX12_sign_0 rfl (lv_at hl 2 rfl) ?_
  refine lv_bipush (v := 61) b.1 b.2.1 dX12_sign_1 (by decide) ?_
  refine lv_icmp_ne (tgt := 17) b.1 b.2.1 dX12_sign_3 (by decide) (fun c20 => ?_) (fun c20 => ?_)
  · have hf := oI_f c20 hf
    exact wfX12_sign_17 b hlk hr zs zk  hf hE (lv_sub hl [0, 1, 2, 3] rfl)
  · have hf := oI_t c20 hf
    refine lv_iload_n b.1 b.2.1 dX12_sign_6 rfl (lv_at hl 3 rfl) ?_
    refine lv_bipush (v := 62) b.1 b.2.1 dX12_sign_7 (by decide) ?_
    refine lv_icmp_ne (tgt := 17) b.1 b.2.1 dX12_sign_9 (by decide) (fun c21 => ?_) (fun c21 => ?_)
    · have hf := oI_f c21 hf
      exact wfX12_sign_17 b hlk hr zs zk  hf hE (lv_sub hl [0, 1, 2, 3] rfl)
    · have hf := oI_t c21 hf
      refine lv_bipush (v := 15) b.1 b.2.1 dX12_sign_12 (by decide) ?_
      refine lv_goto (tgt := 61) b.1 b.2.1 dX12_sign_14 (by decide) ?_
      exact wfX12_sign_61 b hlk hr zs zk  hf hE (lv_sub hl [0, 1, 2] rfl)
def fX12_sign (h : MS) (x1 : Int32) (x2 : Int32) (x3 : Int32) : Option (MS × Int32) := fX12_sign_0 h x1 x2 x3
set_option maxHeartbeats 4000000 in
theorem CX12_sign (l : Launch) (D : va_G) (aC : Nat → ClassId) (ad : Nat → Nat) {Z : State → Prop} (zk : ZOK Z (Rg ad)) {h : MS} {x1 : Int32} {x2 : Int32} {x3 : Int32} {hz : MS} {rz : Int32} (hf : fX12_sign h x1 x2 x3 = some (hz, rz)) : CM l D aC Z yX12_sign cX12_sign 6 (some .int) 1 25 0 0 (EM D aC ad h) [.ref (ad 116), .int x1, .int x2, .int x3] (EM D aC ad hz) (some (.int rz)) (Rg ad) := by
  refine CM.of rfl ?_
  intro p e s m below meth c b hr hlk hin2 zs hE
  refine k_ent (Nat.le_of_ble_eq_true rfl) (fun ls hl => ?_)
  exact wfX12_sign_0 b hlk hr zs zk hf hE (lv_sub hl [0, 1, 2, 3] rfl)
end
