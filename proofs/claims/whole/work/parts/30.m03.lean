section
variable {p : Program} {l : Launch} {e : Env} {s : State} {m : MethodId} {below : List Frame} {meth : Method} {c : Code} {D : va_G} {aC : Nat → ClassId} {ad : Nat → Nat}
theorem dX12_settles_0 : decode cX12_settles 0 = .ok (.aload_n 0, 1) := by decide +kernel
theorem dX12_settles_1 : decode cX12_settles 1 = .ok (.getfield 416, 3) := by decide +kernel
theorem dX12_settles_4 : decode cX12_settles 4 = .ok (.ifCond .le 81, 3) := by decide +kernel
theorem dX12_settles_7 : decode cX12_settles 7 = .ok (.aload_n 0, 1) := by decide +kernel
theorem dX12_settles_8 : decode cX12_settles 8 = .ok (.getfield 159, 3) := by decide +kernel
theorem dX12_settles_11 : decode cX12_settles 11 = .ok (.aload_n 0, 1) := by decide +kernel
theorem dX12_settles_12 : decode cX12_settles 12 = .ok (.getfield 416, 3) := by decide +kernel
theorem dX12_settles_15 : decode cX12_settles 15 = .ok (.iconst 1, 1) := by decide +kernel
theorem dX12_settles_16 : decode cX12_settles 16 = .ok (.isub, 1) := by decide +kernel
theorem dX12_settles_17 : decode cX12_settles 17 = .ok (.iaload, 1) := by decide +kernel
theorem dX12_settles_18 : decode cX12_settles 18 = .ok (.invokestatic 419, 3) := by decide +kernel
theorem dX12_settles_21 : decode cX12_settles 21 = .ok (.iload_n 1, 1) := by decide +kernel
theorem dX12_settles_22 : decode cX12_settles 22 = .ok (.if_icmp .lt 63, 3) := by decide +kernel
theorem dX12_settles_25 : decode cX12_settles 25 = .ok (.aload_n 0, 1) := by decide +kernel
theorem dX12_settles_26 : decode cX12_settles 26 = .ok (.dup, 1) := by decide +kernel
theorem dX12_settles_27 : decode cX12_settles 27 = .ok (.getfield 416, 3) := by decide +kernel
theorem dX12_settles_30 : decode cX12_settles 30 = .ok (.iconst 1, 1) := by decide +kernel
theorem dX12_settles_31 : decode cX12_settles 31 = .ok (.isub, 1) := by decide +kernel
theorem dX12_settles_32 : decode cX12_settles 32 = .ok (.putfield 416, 3) := by decide +kernel
theorem dX12_settles_35 : decode cX12_settles 35 = .ok (.aload_n 0, 1) := by decide +kernel
theorem dX12_settles_36 : decode cX12_settles 36 = .ok (.getfield 159, 3) := by decide +kernel
theorem dX12_settles_39 : decode cX12_settles 39 = .ok (.aload_n 0, 1) := by decide +kernel
theorem dX12_settles_40 : decode cX12_settles 40 = .ok (.getfield 416, 3) := by decide +kernel
theorem dX12_settles_43 : decode cX12_settles 43 = .ok (.iaload, 1) := by decide +kernel
theorem dX12_settles_44 : decode cX12_settles 44 = .ok (.istore_n 2, 1) := by decide +kernel
theorem dX12_settles_45 : decode cX12_settles 45 = .ok (.aload_n 0, 1) := by decide +kernel
theorem dX12_settles_46 : decode cX12_settles 46 = .ok (.iload_n 2, 1) := by decide +kernel
theorem dX12_settles_47 : decode cX12_settles 47 = .ok (.bipush 11, 2) := by decide +kernel
theorem dX12_settles_49 : decode cX12_settles 49 = .ok (.if_icmp .ne 7, 3) := by decide +kernel
theorem dX12_settles_52 : decode cX12_settles 52 = .ok (.iconst 3, 1) := by decide +kernel
theorem dX12_settles_53 : decode cX12_settles 53 = .ok (.goto 24, 3) := by decide +kernel
theorem dX12_settles_56 : decode cX12_settles 56 = .ok (.iload_n 2, 1) := by decide +kernel
theorem dX12_settles_57 : decode cX12_settles 57 = .ok (.bipush 12, 2) := by decide +kernel
theorem dX12_settles_59 : decode cX12_settles 59 = .ok (.if_icmp .ne 7, 3) := by decide +kernel
theorem dX12_settles_62 : decode cX12_settles 62 = .ok (.iconst 4, 1) := by decide +kernel
theorem dX12_settles_63 : decode cX12_settles 63 = .ok (.goto 14, 3) := by decide +kernel
theorem dX12_settles_66 : decode cX12_settles 66 = .ok (.iload_n 2, 1) := by decide +kernel
theorem dX12_settles_67 : decode cX12_settles 67 = .ok (.bipush 13, 2) := by decide +kernel
theorem dX12_settles_69 : decode cX12_settles 69 = .ok (.if_icmp .ne 7, 3) := by decide +kernel
theorem dX12_settles_72 : decode cX12_settles 72 = .ok (.iconst 5, 1) := by decide +kernel
theorem dX12_settles_73 : decode cX12_settles 73 = .ok (.goto 4, 3) := by decide +kernel
theorem dX12_settles_76 : decode cX12_settles 76 = .ok (.iconst 2, 1) := by decide +kernel
theorem dX12_settles_77 : decode cX12_settles 77 = .ok (.iconst 0, 1) := by decide +kernel
theorem dX12_settles_78 : decode cX12_settles 78 = .ok (.iconst 1, 1) := by decide +kernel
theorem dX12_settles_79 : decode cX12_settles 79 = .ok (.invokevirtual 422, 3) := by decide +kernel
theorem dX12_settles_82 : decode cX12_settles 82 = .ok (.goto (-82), 3) := by decide +kernel
theorem dX12_settles_85 : decode cX12_settles 85 = .ok (.return_, 1) := by decide +kernel
def fX12_settles_77 (k0 : MS → Int32 → Option (MS)) (h : MS) (x1 : Int32) (s0 : Int32) : Option (MS) :=
  oB (fX12_emit h s0 0 1) (fun h2 => k0 h2 x1)
set_option maxHeartbeats 4000000 in
theorem wfX12_settles_77 {args : Array Value} (b : Bd p s m c cX12_settles 3 RX12 D aC) (hlk : meth.locks = false) (hr : meth.sig.returnType = none) {Z : State → Prop} (zs : Z s) (zk : ZOK Z (Rg ad)) {hz : MS} {k0 : MS → Int32 → Option (MS)} (H0 : ∀ (h : MS) (x1 : Int32), ∀ (H : Heap) (locs : List Loc) (ls : Array Slot), k0 h x1 = some hz → CE (EM D aC ad h) (Rg ad) s H locs → lv_has ls 3 [(0, .ref (ad 116)), (1, .int x1)] → W p l e (RM 1 23 0 0) s m args below meth c H locs 0 0 (MQ below (PQ (EM D aC ad hz) (Rg ad) none) args s 0 0 (Rg ad)) (F0 m 0 ls [])) {h : MS} {x1 : Int32} {s0 : Int32}  {H : Heap} {locs : List Loc} {ls : Array Slot} (hf : fX12_settles_77 k0 h x1 s0 = some hz) (hE : CE (EM D aC ad h) (Rg ad) s H locs) (hl : lv_has ls 3 [(0, .ref (ad 116)), (1, .int x1)]) : W p l e (RM 1 23 0 0) s m args below meth c H locs 0 0 (MQ below (PQ (EM D aC ad hz) (Rg ad) none) args s 0 0 (Rg ad)) (F0 m 77 ls [.int s0, .ref (ad 116)]) := by
  unfold fX12_settles_77 at hf
  refine lv_iconst (v := 0) b.1 b.2.1 dX12_settles_77 (by decide) ?_
  refine lv_iconst (v := 1) b.1 b.2.1 dX12_settles_78 (by decide) ?_
  obtain ⟨h2, hc1, hf⟩ := oB_s hf
  refine k_callV0 (C := RX12) b zs zk hE (CX12_emit l D aC ad zk hc1) mc_X12_emit (in7 181 rfl rfl) mi_X12_emit ms_X12_emit ini_RX12 ok_X12_emit (m_recv b hE) ⟨Nat.le_of_ble_eq_true rfl, Nat.le_of_ble_eq_true rfl⟩ rfl hl.1 rfl (k_room _ (by exact Nat.le_of_ble_eq_true rfl)) ⟨Nat.le_refl _, Nat.le_refl _⟩ dX12_settles_79 (fun H locs hE => ?_)
  refine lv_goto (tgt := 0) b.1 b.2.1 dX12_settles_82 (by decide) ?_
  exact H0 h2 x1 _ _ _ hf hE (lv_sub hl [0, 1] rfl)
def fX12_settles_0F (k0 : MS → Int32 → Option (MS)) (h : MS) (x1 : Int32) : Option (MS) :=
  if (mI h 70) ≤ 0 then (some (h)) else (oC (ix ((mI h 70) - 1) (mlen 71)) (oB (fX12_strength (mA h 71 (Int32.toNatClampNeg ((mI h 70) - 1)))) (fun r6 => if r6 < x1 then (some (h)) else (oL (mSI h 70 ((mI h 70) - 1)) (fun h8 => oC (ix (mI h8 70) (mlen 71)) (oL (mA h8 71 (Int32.toNatClampNeg (mI h8 70))) (fun y10 => if y10 = 11 then (fX12_settles_77 k0 h8 x1 3) else (if y10 = 12 then (fX12_settles_77 k0 h8 x1 4) else (if y10 = 13 then (fX12_settles_77 k0 h8 x1 5) else (fX12_settles_77 k0 h8 x1 2))))))))))
set_option maxHeartbeats 4000000 in
theorem wfX12_settles_0F {args : Array Value} (b : Bd p s m c cX12_settles 3 RX12 D aC) (hlk : meth.locks = false) (hr : meth.sig.returnType = none) {Z : State → Prop} (zs : Z s) (zk : ZOK Z (Rg ad)) {hz : MS} {k0 : MS → Int32 → Option (MS)} (H0 : ∀ (h : MS) (x1 : Int32), ∀ (H : Heap) (locs : List Loc) (ls : Array Slot), k0 h x1 = some hz → CE (EM D aC ad h) (Rg ad) s H locs → lv_has ls 3 [(0, .ref (ad 116)), (1, .int x1)] → W p l e (RM 1 23 0 0) s m args below meth c H locs 0 0 (MQ below (PQ (EM D aC ad hz) (Rg ad) none) args s 0 0 (Rg ad)) (F0 m 0 ls [])) {h : MS} {x1 : Int32}  {H : Heap} {locs : List Loc} {ls : Array Slot} (hf : fX12_settles_0F k0 h x1 = some hz) (hE : CE (EM D aC ad h) (Rg ad) s H locs) (hl : lv_has ls 3 [(0, .ref (ad 116)), (1, .int x1)]) : W p l e (RM 1 23 0 0) s m args below meth c H locs 0 0 (MQ below (PQ (EM D aC ad hz) (Rg ad) none) args s 0 0 (Rg ad)) (F0 m 0 ls []) := by
  unfold fX12_settles_0F at hf
  refine lv_aload_n b.1 b.2.1 dX12_settles_0 rfl (lv_at hl 0 rfl) ?_
  refine gM_416 b hE dX12_settles_1 ?_
  refine lv_if_le (tgt := 85) b.1 b.2.1 dX12_settles_4 (by decide) (fun c3 => ?_) (fun c3 => ?_)
  · have hf := oI_t c3 hf
    cases hf
    exact k_vret b hlk hr hE (Nat.le_refl _) (Nat.le_refl _) dX12_settles_85
  · have hf := oI_f c3 hf
    refine lv_aload_n b.1 b.2.1 dX12_settles_7 rfl (lv_at hl 0 rfl) ?_
    refine gM_159 b hE dX12_settles_8 ?_
    refine lv_aload_n b.1 b.2.1 dX12_settles_11 rfl (lv_at hl 0 rfl) ?_
    refine gM_416 b hE dX12_settles_12 ?_
    refine lv_iconst (v := 1) b.1 b.2.1 dX12_settles_15 (by decide) ?_
    refine lv_isub b.1 b.2.1 dX12_settles_16 ?_
    obtain ⟨g4, hf⟩ := oC_s hf
    refine m_iald b hE rfl rfl g4 dX12_settles_17 ?_
    obtain ⟨r6, hc5, hf⟩ := oB_s hf
    refine k_callS0 b zs zk hE (CX12_strength l D aC zk hc5) mc_X12_strength (in7 189 rfl rfl) mt_X12_strength ini_RX12 ok_X12_strength ⟨Nat.le_of_ble_eq_true rfl, Nat.le_of_ble_eq_true rfl⟩ rfl hl.1 rfl (k_room _ (by exact Nat.le_of_ble_eq_true rfl)) ⟨Nat.le_refl _, Nat.le_refl _⟩ dX12_settles_18 (fun H locs hE => ?_)
    refine lv_iload_n b.1 b.2.1 dX12_settles_21 rfl (lv_at hl 1 rfl) ?_
    refine lv_icmp_lt (tgt := 85) b.1 b.2.1 dX12_settles_22 (by decide) (fun c7 => ?_) (fun c7 => ?_)
    · have hf := oI_t c7 hf
      cases hf
      exact k_vret b hlk hr hE (Nat.le_refl _) (Nat.le_refl _) dX12_settles_85
    · have hf := oI_f c7 hf
      refine lv_aload_n b.1 b.2.1 dX12_settles_25 rfl (lv_at hl 0 rfl) ?_
      refine lv_dup b.1 b.2.1 dX12_settles_26 rfl ?_
      refine gM_416 b hE dX12_settles_27 ?_
      refine lv_iconst (v := 1) b.1 b.2.1 dX12_settles_30 (by decide) ?_
      refine lv_isub b.1 b.2.1 dX12_settles_31 ?_
      obtain ⟨h8, eh8, hf⟩ := oL_s hf
      refine pM_416 b hE eh8 dX12_settles_32 (fun H locs hE => ?_)
      refine lv_aload_n b.1 b.2.1 dX12_settles_35 rfl (lv_at hl 0 rfl) ?_
      refine gM_159 b hE dX12_settles_36 ?_
      refine lv_aload_n b.1 b.2.1 dX12_settles_39 rfl (lv_at hl 0 rfl) ?_
      refine gM_416 b hE dX12_settles_40 ?_
      obtain ⟨g9, hf⟩ := oC_s hf
      refine m_iald b hE rfl rfl g9 dX12_settles_43 ?_
      obtain ⟨y10, ey10, hf⟩ := oL_s hf
      refine k_nmI ey10 ?_
      refine lv_istore_n (lv' := [(2, .int y10), (0, .ref (ad 116)), (1, .int x1)]) b.1 b.2.1 dX12_settles_44 rfl hl (by decide) rfl (fun ls hl => ?_)
      refine lv_aload_n b.1 b.2.1 dX12_settles_45 rfl (lv_at hl 1 rfl) ?_
      refine lv_iload_n b.1 b.2.1 dX12_settles_46 rfl (lv_at hl 0 rfl) ?_
      refine lv_bipush (v := 11) b.1 b.2.1 dX12_settles_47 (by decide) ?_
      refine lv_icmp_ne (tgt := 56) b.1 b.2.1 dX12_settles_49 (by decide) (fun c11 => ?_) (fun c11 => ?_)
      · have hf := oI_f c11 hf
        refine lv_iload_n b.1 b.2.1 dX12_settles_56 rfl (lv_at hl 0 rfl) ?_
        refine lv_bipush (v := 12) b.1 b.2.1 dX12_settles_57 (by decide) ?_
        refine lv_icmp_ne (tgt := 66) b.1 b.2.1 dX12_settles_59 (by decide) (fun c12 => ?_) (fun c12 => ?_)
        · have hf := oI_f c12 hf
          refine lv_iload_n b.1 b.2.1 dX12_settles_66 rfl (lv_at hl 0 rfl) ?_
          refine lv_bipush (v := 13) b.1 b.2.1 dX12_settles_67 (by decide) ?_
          refine lv_icmp_ne (tgt := 76) b.1 b.2.1 dX12_settles_69 (by decide) (fun c13 => ?_) (fun c13 => ?_)
          · have hf := oI_f c13 hf
            refine lv_iconst (v := 2) b.1 b.2.1 dX12_settles_76 (by decide) ?_
            exact wfX12_settles_77 b hlk hr zs zk H0 hf hE (lv_sub hl [1, 2] rfl)
          · have hf := oI_t c13 hf
            refine lv_iconst (v := 5) b.1 b.2.1 dX12_settles_72 (by decide) ?_
            refine lv_goto (tgt := 77) b.1 b.2.1 dX12_settles_73 (by decide) ?_
            exact wfX12_settles_77 b hlk hr zs zk H0 hf hE (lv_sub hl [1, 2] rfl)
        · have hf := oI_t c12 hf
          refine lv_iconst (v := 4) b.1 b.2.1 dX12_settles_62 (by decide) ?_
          refine lv_goto (tgt := 77) b.1 b.2.1 dX12_settles_63 (by decide) ?_
          exact wfX12_settles_77 b hlk hr zs zk H0 hf hE (lv_sub hl [1, 2] rfl)
      · have hf := oI_t c11 hf
        refine lv_iconst (v := 3) b.1 b.2.1 dX12_settles_52 (by decide) ?_
        refine lv_goto (tgt := 77) b.1 b.2.1 dX12_settles_53 (by decide) ?_
        exact wfX12_settles_77 b hlk hr zs zk H0 hf hE (lv_sub hl [1, 2] rfl)
def fX12_settles_0  : Nat → MS → Int32 → Option (MS)
  | 0 => fun _ _ => none
  | n + 1 => fX12_settles_0F  (fX12_settles_0  n)
set_option maxHeartbeats 4000000 in
theorem wfX12_settles_0 {args : Array Value} (b : Bd p s m c cX12_settles 3 RX12 D aC) (hlk : meth.locks = false) (hr : meth.sig.returnType = none) {Z : State → Prop} (zs : Z s) (zk : ZOK Z (Rg ad)) {hz : MS} : ∀ n : Nat, ∀ (h : MS) (x1 : Int32), ∀ (H : Heap) (locs : List Loc) (ls : Array Slot), fX12_settles_0  n h x1 = some hz → CE (EM D aC ad h) (Rg ad) s H locs → lv_has ls 3 [(0, .ref (ad 116)), (1, .int x1)] → W p l e (RM 1 23 0 0) s m args below meth c H locs 0 0 (MQ below (PQ (EM D aC ad hz) (Rg ad) none) args s 0 0 (Rg ad)) (F0 m 0 ls []) := by
  intro n
  induction n with
  | zero =>
    intro h x1 H locs ls hf
    have hf : (none : Option (MS)) = some _ := hf
    cases hf
  | succ n ih =>
    intro h x1 H locs ls hf hE hl
    exact wfX12_settles_0F b hlk hr zs zk  ih hf hE hl
def fX12_settles (h : MS) (x1 : Int32) : Option (MS) := fX12_settles_0 FU h x1
set_option maxHeartbeats 4000000 in
theorem CX12_settles (l : Launch) (D : va_G) (aC : Nat → ClassId) (ad : Nat → Nat) {Z : State → Prop} (zk : ZOK Z (Rg ad)) {h : MS} {x1 : Int32} {hz : MS} (hf : fX12_settles h x1 = some hz) : CM l D aC Z yX12_settles cX12_settles 3 (none) 1 23 0 0 (EM D aC ad h) [.ref (ad 116), .int x1] (EM D aC ad hz) none (Rg ad) := by
  refine CM.of rfl ?_
  intro p e s m below meth c b hr hlk hin2 zs hE
  refine k_ent (Nat.le_of_ble_eq_true rfl) (fun ls hl => ?_)
  exact wfX12_settles_0 b hlk hr zs zk FU _ _ _ _ _ hf hE (lv_sub hl [0, 1] rfl)
theorem dX12_expression_0 : decode cX12_expression 0 = .ok (.aload_n 0, 1) := by decide +kernel
theorem dX12_expression_1 : decode cX12_expression 1 = .ok (.iconst 0, 1) := by decide +kernel
theorem dX12_expression_2 : decode cX12_expression 2 = .ok (.putfield 416, 3) := by decide +kernel
theorem dX12_expression_5 : decode cX12_expression 5 = .ok (.aload_n 0, 1) := by decide +kernel
theorem dX12_expression_6 : decode cX12_expression 6 = .ok (.iconst 0, 1) := by decide +kernel
theorem dX12_expression_7 : decode cX12_expression 7 = .ok (.putfield 332, 3) := by decide +kernel
theorem dX12_expression_10 : decode cX12_expression 10 = .ok (.iconst 1, 1) := by decide +kernel
theorem dX12_expression_11 : decode cX12_expression 11 = .ok (.istore_n 1, 1) := by decide +kernel
theorem dX12_expression_12 : decode cX12_expression 12 = .ok (.iconst 1, 1) := by decide +kernel
theorem dX12_expression_13 : decode cX12_expression 13 = .ok (.istore_n 2, 1) := by decide +kernel
theorem dX12_expression_14 : decode cX12_expression 14 = .ok (.iload_n 2, 1) := by decide +kernel
theorem dX12_expression_15 : decode cX12_expression 15 = .ok (.ifCond .eq 214, 3) := by decide +kernel
theorem dX12_expression_18 : decode cX12_expression 18 = .ok (.aload_n 0, 1) := by decide +kernel
theorem dX12_expression_19 : decode cX12_expression 19 = .ok (.getfield 294, 3) := by decide +kernel
theorem dX12_expression_22 : decode cX12_expression 22 = .ok (.ifCond .ne 207, 3) := by decide +kernel
theorem dX12_expression_25 : decode cX12_expression 25 = .ok (.iload_n 1, 1) := by decide +kernel
theorem dX12_expression_26 : decode cX12_expression 26 = .ok (.ifCond .eq 17, 3) := by decide +kernel
theorem dX12_expression_29 : decode cX12_expression 29 = .ok (.aload_n 0, 1) := by decide +kernel
theorem dX12_expression_30 : decode cX12_expression 30 = .ok (.bipush 12, 2) := by decide +kernel
theorem dX12_expression_32 : decode cX12_expression 32 = .ok (.invokevirtual 312, 3) := by decide +kernel
theorem dX12_expression_35 : decode cX12_expression 35 = .ok (.ifCond .eq 8, 3) := by decide +kernel
theorem dX12_expression_38 : decode cX12_expression 38 = .ok (.aload_n 0, 1) := by decide +kernel
theorem dX12_expression_39 : decode cX12_expression 39 = .ok (.iconst 4, 1) := by decide +kernel
theorem dX12_expression_40 : decode cX12_expression 40 = .ok (.invokevirtual 426, 3) := by decide +kernel
theorem dX12_expression_43 : decode cX12_expression 43 = .ok (.iconst 0, 1) := by decide +kernel
theorem dX12_expression_44 : decode cX12_expression 44 = .ok (.istore_n 1, 1) := by decide +kernel
theorem dX12_expression_45 : decode cX12_expression 45 = .ok (.aload_n 0, 1) := by decide +kernel
theorem dX12_expression_46 : decode cX12_expression 46 = .ok (.bipush 9, 2) := by decide +kernel
theorem dX12_expression_48 : decode cX12_expression 48 = .ok (.invokevirtual 312, 3) := by decide +kernel
theorem dX12_expression_51 : decode cX12_expression 51 = .ok (.ifCond .eq 38, 3) := by decide +kernel
theorem dX12_expression_54 : decode cX12_expression 54 = .ok (.aload_n 0, 1) := by decide +kernel
theorem dX12_expression_55 : decode cX12_expression 55 = .ok (.getfield 332, 3) := by decide +kernel
theorem dX12_expression_58 : decode cX12_expression 58 = .ok (.bipush 8, 2) := by decide +kernel
theorem dX12_expression_60 : decode cX12_expression 60 = .ok (.if_icmp .ne 8, 3) := by decide +kernel
theorem dX12_expression_63 : decode cX12_expression 63 = .ok (.aload_n 0, 1) := by decide +kernel
theorem dX12_expression_64 : decode cX12_expression 64 = .ok (.iconst 2, 1) := by decide +kernel
theorem dX12_expression_65 : decode cX12_expression 65 = .ok (.invokevirtual 309, 3) := by decide +kernel
theorem dX12_expression_68 : decode cX12_expression 68 = .ok (.aload_n 0, 1) := by decide +kernel
theorem dX12_expression_69 : decode cX12_expression 69 = .ok (.dup, 1) := by decide +kernel
theorem dX12_expression_70 : decode cX12_expression 70 = .ok (.getfield 332, 3) := by decide +kernel
theorem dX12_expression_73 : decode cX12_expression 73 = .ok (.iconst 1, 1) := by decide +kernel
theorem dX12_expression_74 : decode cX12_expression 74 = .ok (.iadd, 1) := by decide +kernel
theorem dX12_expression_75 : decode cX12_expression 75 = .ok (.putfield 332, 3) := by decide +kernel
theorem dX12_expression_78 : decode cX12_expression 78 = .ok (.aload_n 0, 1) := by decide +kernel
theorem dX12_expression_79 : decode cX12_expression 79 = .ok (.bipush 9, 2) := by decide +kernel
theorem dX12_expression_81 : decode cX12_expression 81 = .ok (.invokevirtual 426, 3) := by decide +kernel
theorem dX12_expression_84 : decode cX12_expression 84 = .ok (.iconst 1, 1) := by decide +kernel
theorem dX12_expression_85 : decode cX12_expression 85 = .ok (.istore_n 1, 1) := by decide +kernel
theorem dX12_expression_86 : decode cX12_expression 86 = .ok (.goto (-72), 3) := by decide +kernel
theorem dX12_expression_89 : decode cX12_expression 89 = .ok (.aload_n 0, 1) := by decide +kernel
theorem dX12_expression_90 : decode cX12_expression 90 = .ok (.invokevirtual 429, 3) := by decide +kernel
theorem dX12_expression_93 : decode cX12_expression 93 = .ok (.iconst 1, 1) := by decide +kernel
theorem dX12_expression_94 : decode cX12_expression 94 = .ok (.istore_n 3, 1) := by decide +kernel
theorem dX12_expression_95 : decode cX12_expression 95 = .ok (.iload_n 3, 1) := by decide +kernel
theorem dX12_expression_96 : decode cX12_expression 96 = .ok (.ifCond .eq 130, 3) := by decide +kernel
theorem dX12_expression_99 : decode cX12_expression 99 = .ok (.aload_n 0, 1) := by decide +kernel
theorem dX12_expression_100 : decode cX12_expression 100 = .ok (.getfield 294, 3) := by decide +kernel
theorem dX12_expression_103 : decode cX12_expression 103 = .ok (.ifCond .ne 123, 3) := by decide +kernel
theorem dX12_expression_106 : decode cX12_expression 106 = .ok (.iconst 0, 1) := by decide +kernel
theorem dX12_expression_107 : decode cX12_expression 107 = .ok (.istore_n 3, 1) := by decide +kernel
theorem dX12_expression_108 : decode cX12_expression 108 = .ok (.aload_n 0, 1) := by decide +kernel
theorem dX12_expression_109 : decode cX12_expression 109 = .ok (.bipush 13, 2) := by decide +kernel
theorem dX12_expression_111 : decode cX12_expression 111 = .ok (.invokevirtual 312, 3) := by decide +kernel
theorem dX12_expression_114 : decode cX12_expression 114 = .ok (.ifCond .eq 17, 3) := by decide +kernel
theorem dX12_expression_117 : decode cX12_expression 117 = .ok (.aload_n 0, 1) := by decide +kernel
theorem dX12_expression_118 : decode cX12_expression 118 = .ok (.iconst 2, 1) := by decide +kernel
theorem dX12_expression_119 : decode cX12_expression 119 = .ok (.invokevirtual 432, 3) := by decide +kernel
theorem dX12_expression_122 : decode cX12_expression 122 = .ok (.aload_n 0, 1) := by decide +kernel
theorem dX12_expression_123 : decode cX12_expression 123 = .ok (.bipush 13, 2) := by decide +kernel
theorem dX12_expression_125 : decode cX12_expression 125 = .ok (.invokevirtual 426, 3) := by decide +kernel
theorem dX12_expression_128 : decode cX12_expression 128 = .ok (.goto (-33), 3) := by decide +kernel
theorem dX12_expression_131 : decode cX12_expression 131 = .ok (.aload_n 0, 1) := by decide +kernel
theorem dX12_expression_132 : decode cX12_expression 132 = .ok (.bipush 11, 2) := by decide +kernel
theorem dX12_expression_134 : decode cX12_expression 134 = .ok (.invokevirtual 312, 3) := by decide +kernel
theorem dX12_expression_137 : decode cX12_expression 137 = .ok (.ifCond .ne 12, 3) := by decide +kernel
theorem dX12_expression_140 : decode cX12_expression 140 = .ok (.aload_n 0, 1) := by decide +kernel
theorem dX12_expression_141 : decode cX12_expression 141 = .ok (.bipush 12, 2) := by decide +kernel
theorem dX12_expression_143 : decode cX12_expression 143 = .ok (.invokevirtual 312, 3) := by decide +kernel
theorem dX12_expression_146 : decode cX12_expression 146 = .ok (.ifCond .eq 24, 3) := by decide +kernel
theorem dX12_expression_149 : decode cX12_expression 149 = .ok (.aload_n 0, 1) := by decide +kernel
theorem dX12_expression_150 : decode cX12_expression 150 = .ok (.iconst 1, 1) := by decide +kernel
theorem dX12_expression_151 : decode cX12_expression 151 = .ok (.invokevirtual 432, 3) := by decide +kernel
theorem dX12_expression_154 : decode cX12_expression 154 = .ok (.aload_n 0, 1) := by decide +kernel
theorem dX12_expression_155 : decode cX12_expression 155 = .ok (.aload_n 0, 1) := by decide +kernel
theorem dX12_expression_156 : decode cX12_expression 156 = .ok (.getfield 20, 3) := by decide +kernel
theorem dX12_expression_159 : decode cX12_expression 159 = .ok (.aload_n 0, 1) := by decide +kernel
theorem dX12_expression_160 : decode cX12_expression 160 = .ok (.getfield 297, 3) := by decide +kernel
theorem dX12_expression_163 : decode cX12_expression 163 = .ok (.iaload, 1) := by decide +kernel
theorem dX12_expression_164 : decode cX12_expression 164 = .ok (.invokevirtual 426, 3) := by decide +kernel
theorem dX12_expression_167 : decode cX12_expression 167 = .ok (.goto (-72), 3) := by decide +kernel
theorem dX12_expression_170 : decode cX12_expression 170 = .ok (.aload_n 0, 1) := by decide +kernel
theorem dX12_expression_171 : decode cX12_expression 171 = .ok (.iconst 1, 1) := by decide +kernel
theorem dX12_expression_172 : decode cX12_expression 172 = .ok (.invokevirtual 432, 3) := by decide +kernel
theorem dX12_expression_175 : decode cX12_expression 175 = .ok (.aload_n 0, 1) := by decide +kernel
theorem dX12_expression_176 : decode cX12_expression 176 = .ok (.getfield 416, 3) := by decide +kernel
theorem dX12_expression_179 : decode cX12_expression 179 = .ok (.ifCond .le 7, 3) := by decide +kernel
theorem dX12_expression_182 : decode cX12_expression 182 = .ok (.iconst 1, 1) := by decide +kernel
theorem dX12_expression_183 : decode cX12_expression 183 = .ok (.goto 4, 3) := by decide +kernel
theorem dX12_expression_186 : decode cX12_expression 186 = .ok (.iconst 0, 1) := by decide +kernel
theorem dX12_expression_187 : decode cX12_expression 187 = .ok (.istore_n 2, 1) := by decide +kernel
theorem dX12_expression_188 : decode cX12_expression 188 = .ok (.iload_n 2, 1) := by decide +kernel
theorem dX12_expression_189 : decode cX12_expression 189 = .ok (.ifCond .ne 6, 3) := by decide +kernel
theorem dX12_expression_192 : decode cX12_expression 192 = .ok (.goto 34, 3) := by decide +kernel
theorem dX12_expression_195 : decode cX12_expression 195 = .ok (.aload_n 0, 1) := by decide +kernel
theorem dX12_expression_196 : decode cX12_expression 196 = .ok (.bipush 10, 2) := by decide +kernel
theorem dX12_expression_198 : decode cX12_expression 198 = .ok (.invokevirtual 318, 3) := by decide +kernel
theorem dX12_expression_201 : decode cX12_expression 201 = .ok (.aload_n 0, 1) := by decide +kernel
theorem dX12_expression_202 : decode cX12_expression 202 = .ok (.dup, 1) := by decide +kernel
theorem dX12_expression_203 : decode cX12_expression 203 = .ok (.getfield 416, 3) := by decide +kernel
theorem dX12_expression_206 : decode cX12_expression 206 = .ok (.iconst 1, 1) := by decide +kernel
theorem dX12_expression_207 : decode cX12_expression 207 = .ok (.isub, 1) := by decide +kernel
theorem dX12_expression_208 : decode cX12_expression 208 = .ok (.putfield 416, 3) := by decide +kernel
theorem dX12_expression_211 : decode cX12_expression 211 = .ok (.aload_n 0, 1) := by decide +kernel
theorem dX12_expression_212 : decode cX12_expression 212 = .ok (.dup, 1) := by decide +kernel
theorem dX12_expression_213 : decode cX12_expression 213 = .ok (.getfield 332, 3) := by decide +kernel
theorem dX12_expression_216 : decode cX12_expression 216 = .ok (.iconst 1, 1) := by decide +kernel
theorem dX12_expression_217 : decode cX12_expression 217 = .ok (.isub, 1) := by decide +kernel
theorem dX12_expression_218 : decode cX12_expression 218 = .ok (.putfield 332, 3) := by decide +kernel
theorem dX12_expression_221 : decode cX12_expression 221 = .ok (.iconst 1, 1) := by decide +kernel
theorem dX12_expression_222 : decode cX12_expression 222 = .ok (.istore_n 3, 1) := by decide +kernel
theorem dX12_expression_223 : decode cX12_expression 223 = .ok (.goto (-128), 3) := by decide +kernel
theorem dX12_expression_226 : decode cX12_expression 226 = .ok (.goto (-212), 3) := by decide +kernel
theorem dX12_expression_229 : decode cX12_expression 229 = .ok (.return_, 1) := by decide +kernel
def fX12_expression_149 (k14 : MS → Int32 → Int32 → Option (MS)) (k95 : MS → Int32 → Int32 → Int32 → Option (MS)) (h : MS) (x1 : Int32) (x2 : Int32) (x3 : Int32) : Option (MS) :=
  oB (fX12_settles h 1) (fun h2 => oC (ix (mI h2 11) (mlen 5)) (oB (fX12_stacks h2 (mA h2 5 (Int32.toNatClampNeg (mI h2 11)))) (fun h5 => k95 h5 x1 x2 x3)))
set_option maxHeartbeats 4000000 in
theorem wfX12_expression_149 {args : Array Value} (b : Bd p s m c cX12_expression 4 RX12 D aC) (hlk : meth.locks = false) (hr : meth.sig.returnType = none) {Z : State → Prop} (zs : Z s) (zk : ZOK Z (Rg ad)) {hz : MS} {k14 : MS → Int32 → Int32 → Option (MS)} (H14 : ∀ (h : MS) (x1 : Int32) (x2 : Int32), ∀ (H : Heap) (locs : List Loc) (ls : Array Slot), k14 h x1 x2 = some hz → CE (EM D aC ad h) (Rg ad) s H locs → lv_has ls 4 [(0, .ref (ad 116)), (1, .int x1), (2, .int x2)] → W p l e (RM 5 107 0 0) s m args below meth c H locs 0 0 (MQ below (PQ (EM D aC ad hz) (Rg ad) none) args s 0 0 (Rg ad)) (F0 m 14 ls [])) {k95 : MS → Int32 → Int32 → Int32 → Option (MS)} (H95 : ∀ (h : MS) (x1 : Int32) (x2 : Int32) (x3 : Int32), ∀ (H : Heap) (locs : List Loc) (ls : Array Slot), k95 h x1 x2 x3 = some hz → CE (EM D aC ad h) (Rg ad) s H locs → lv_has ls 4 [(0, .ref (ad 116)), (1, .int x1), (2, .int x2), (3, .int x3)] → W p l e (RM 5 107 0 0) s m args below meth c H locs 0 0 (MQ below (PQ (EM D aC ad hz) (Rg ad) none) args s 0 0 (Rg ad)) (F0 m 95 ls [])) {h : MS} {x1 : Int32} {x2 : Int32} {x3 : Int32}  {H : Heap} {locs : List Loc} {ls : Array Slot} (hf : fX12_expression_149 k14 k95 h x1 x2 x3 = some hz) (hE : CE (EM D aC ad h) (Rg ad) s H locs) (hl : lv_has ls 4 [(0, .ref (ad 116)), (1, .int x1), (2, .int x2), (3, .int x3)]) : W p l e (RM 5 107 0 0) s m args below meth c H locs 0 0 (MQ below (PQ (EM D aC ad hz) (Rg ad) none) args s 0 0 (Rg ad)) (F0 m 149 ls []) := by
  unfold fX12_expression_149 at hf
  refine lv_aload_n b.1 b.2.1 dX12_expression_149 rfl (lv_at hl 0 rfl) ?_
  refine lv_iconst (v := 1) b.1 b.2.1 dX12_expression_150 (by decide) ?_
  obtain ⟨h2, hc1, hf⟩ := oB_s hf
  refine k_callV0 (C := RX12) b zs zk hE (CX12_settles l D aC ad zk hc1) mc_X12_settles (in7 185 rfl rfl) mi_X12_settles ms_X12_settles ini_RX12 ok_X12_settles (m_recv b hE) ⟨Nat.le_of_ble_eq_true rfl, Nat.le_of_ble_eq_true rfl⟩ rfl hl.1 rfl (k_room _ (by exact Nat.le_of_ble_eq_true rfl)) ⟨Nat.le_refl _, Nat.le_refl _⟩ dX12_expression_151 (fun H locs hE => ?_)
  refine lv_aload_n b.1 b.2.1 dX12_expression_154 rfl (lv_at hl 0 rfl) ?_
  refine lv_aload_n b.1 b.2.1 dX12_expression_155 rfl (lv_at hl 0 rfl) ?_
  refine gM_20 b hE dX12_expression_156 ?_
  refine lv_aload_n b.1 b.2.1 dX12_expression_159 rfl (lv_at hl 0 rfl) ?_
  refine gM_297 b hE dX12_expression_160 ?_
  obtain ⟨g3, hf⟩ := oC_s hf
  refine m_iald b hE rfl rfl g3 dX12_expression_163 ?_
  obtain ⟨h5, hc4, hf⟩ := oB_s hf
  refine k_callV0 (C := RX12) b zs zk hE (CX12_stacks l D aC ad zk hc4) mc_X12_stacks (in7 173 rfl rfl) mi_X12_stacks ms_X12_stacks ini_RX12 ok_X12_stacks (m_recv b hE) ⟨Nat.le_of_ble_eq_true rfl, Nat.le_of_ble_eq_true rfl⟩ rfl hl.1 rfl (k_room _ (by exact Nat.le_of_ble_eq_true rfl)) ⟨Nat.le_refl _, Nat.le_refl _⟩ dX12_expression_164 (fun H locs hE => ?_)
  refine lv_goto (tgt := 95) b.1 b.2.1 dX12_expression_167 (by decide) ?_
  exact H95 h5 x1 x2 x3 _ _ _ hf hE (lv_sub hl [0, 1, 2, 3] rfl)
def fX12_expression_187 (k14 : MS → Int32 → Int32 → Option (MS)) (k95 : MS → Int32 → Int32 → Int32 → Option (MS)) (h : MS) (x1 : Int32) (s0 : Int32) : Option (MS) :=
  if s0 = 0 then (k14 h x1 s0) else (oB (fX12_must h 10) (fun h8 => oL (mSI h8 70 ((mI h8 70) - 1)) (fun h9 => oL (mSI h9 12 ((mI h9 12) - 1)) (fun h10 => k95 h10 x1 s0 1))))
set_option maxHeartbeats 4000000 in
theorem wfX12_expression_187 {args : Array Value} (b : Bd p s m c cX12_expression 4 RX12 D aC) (hlk : meth.locks = false) (hr : meth.sig.returnType = none) {Z : State → Prop} (zs : Z s) (zk : ZOK Z (Rg ad)) {hz : MS} {k14 : MS → Int32 → Int32 → Option (MS)} (H14 : ∀ (h : MS) (x1 : Int32) (x2 : Int32), ∀ (H : Heap) (locs : List Loc) (ls : Array Slot), k14 h x1 x2 = some hz → CE (EM D aC ad h) (Rg ad) s H locs → lv_has ls 4 [(0, .ref (ad 116)), (1, .int x1), (2, .int x2)] → W p l e (RM 5 107 0 0) s m args below meth c H locs 0 0 (MQ below (PQ (EM D aC ad hz) (Rg ad) none) args s 0 0 (Rg ad)) (F0 m 14 ls [])) {k95 : MS → Int32 → Int32 → Int32 → Option (MS)} (H95 : ∀ (h : MS) (x1 : Int32) (x2 : Int32) (x3 : Int32), ∀ (H : Heap) (locs : List Loc) (ls : Array Slot), k95 h x1 x2 x3 = some hz → CE (EM D aC ad h) (Rg ad) s H locs → lv_has ls 4 [(0, .ref (ad 116)), (1, .int x1), (2, .int x2), (3, .int x3)] → W p l e (RM 5 107 0 0) s m args below meth c H locs 0 0 (MQ below (PQ (EM D aC ad hz) (Rg ad) none) args s 0 0 (Rg ad)) (F0 m 95 ls [])) {h : MS} {x1 : Int32} {s0 : Int32}  {H : Heap} {locs : List Loc} {ls : Array Slot} (hf : fX12_expression_187 k14 k95 h x1 s0 = some hz) (hE : CE (EM D aC ad h) (Rg ad) s H locs) (hl : lv_has ls 4 [(0, .ref (ad 116)), (1, .int x1)]) : W p l e (RM 5 107 0 0) s m args below meth c H locs 0 0 (MQ below (PQ (EM D aC ad hz) (Rg ad) none) args s 0 0 (Rg ad)) (F0 m 187 ls [.int s0]) := by
  unfold fX12_expression_187 at hf
  refine lv_istore_n (lv' := [(2, .int s0), (0, .ref (ad 116)), (1, .int x1)]) b.1 b.2.1 dX12_expression_187 rfl hl (by decide) rfl (fun ls hl => ?_)
  refine lv_iload_n b.1 b.2.1 dX12_expression_188 rfl (lv_at hl 0 rfl) ?_
  refine lv_if_ne (tgt := 195) b.1 b.2.1 dX12_expression_189 (by decide) (fun c6 => ?_) (fun c6 => ?_)
  · have hf := oI_f c6 hf
    refine lv_aload_n b.1 b.2.1 dX12_expression_195 rfl (lv_at hl 1 rfl) ?_
    refine lv_bipush (v := 10) b.1 b.2.1 dX12_expression_196 (by decide) ?_
    obtain ⟨h8, hc7, hf⟩ := oB_s hf
    refine k_callV0 (C := RX12) b zs zk hE (CX12_must l D aC ad zk hc7) mc_X12_must (in7 129 rfl rfl) mi_X12_must ms_X12_must ini_RX12 ok_X12_must (m_recv b hE) ⟨Nat.le_of_ble_eq_true rfl, Nat.le_of_ble_eq_true rfl⟩ rfl hl.1 rfl (k_room _ (by exact Nat.le_of_ble_eq_true rfl)) ⟨Nat.le_refl _, Nat.le_refl _⟩ dX12_expression_198 (fun H locs hE => ?_)
    refine lv_aload_n b.1 b.2.1 dX12_expression_201 rfl (lv_at hl 1 rfl) ?_
    refine lv_dup b.1 b.2.1 dX12_expression_202 rfl ?_
    refine gM_416 b hE dX12_expression_203 ?_
    refine lv_iconst (v := 1) b.1 b.2.1 dX12_expression_206 (by decide) ?_
    refine lv_isub b.1 b.2.1 dX12_expression_207 ?_
    obtain ⟨h9, eh9, hf⟩ := oL_s hf
    refine pM_416 b hE eh9 dX12_expression_208 (fun H locs hE => ?_)
    refine lv_aload_n b.1 b.2.1 dX12_expression_211 rfl (lv_at hl 1 rfl) ?_
    refine lv_dup b.1 b.2.1 dX12_expression_212 rfl ?_
    refine gM_332 b hE dX12_expression_213 ?_
    refine lv_iconst (v := 1) b.1 b.2.1 dX12_expression_216 (by decide) ?_
    refine lv_isub b.1 b.2.1 dX12_expression_217 ?_
    obtain ⟨h10, eh10, hf⟩ := oL_s hf
    refine pM_332 b hE eh10 dX12_expression_218 (fun H locs hE => ?_)
    refine lv_iconst (v := 1) b.1 b.2.1 dX12_expression_221 (by decide) ?_
    refine lv_istore_n (lv' := [(3, .int 1), (2, .int s0), (0, .ref (ad 116)), (1, .int x1)]) b.1 b.2.1 dX12_expression_222 rfl hl (by decide) rfl (fun ls hl => ?_)
    refine lv_goto (tgt := 95) b.1 b.2.1 dX12_expression_223 (by decide) ?_
    exact H95 h10 x1 s0 1 _ _ _ hf hE (lv_sub hl [2, 3, 1, 0] rfl)
  · have hf := oI_t c6 hf
    refine lv_goto (tgt := 226) b.1 b.2.1 dX12_expression_192 (by decide) ?_
    refine lv_goto (tgt := 14) b.1 b.2.1 dX12_expression_226 (by decide) ?_
    exact H14 h x1 s0 _ _ _ hf hE (lv_sub hl [1, 2, 0] rfl)
def fX12_expression_95F (k14 : MS → Int32 → Int32 → Option (MS)) (k95 : MS → Int32 → Int32 → Int32 → Option (MS)) (h : MS) (x1 : Int32) (x2 : Int32) (x3 : Int32) : Option (MS) :=
  if x3 = 0 then (k14 h x1 x2) else (if (mI h 13) = 0 then (oB (fX12_is h 13) (fun r14 => if r14 = 0 then (oB (fX12_is h 11) (fun r17 => if r17 = 0 then (oB (fX12_is h 12) (fun r20 => if r20 = 0 then (oB (fX12_settles h 1) (fun h23 => if (mI h23 70) ≤ 0 then (fX12_expression_187 k14 k95 h23 x1 0) else (fX12_expression_187 k14 k95 h23 x1 1))) else (fX12_expression_149 k14 k95 h x1 x2 0))) else (fX12_expression_149 k14 k95 h x1 x2 0))) else (oB (fX12_settles h 2) (fun h26 => oB (fX12_stacks h26 13) (fun h28 => k95 h28 x1 x2 0))))) else (k14 h x1 x2))
set_option maxHeartbeats 4000000 in
theorem wfX12_expression_95F {args : Array Value} (b : Bd p s m c cX12_expression 4 RX12 D aC) (hlk : meth.locks = false) (hr : meth.sig.returnType = none) {Z : State → Prop} (zs : Z s) (zk : ZOK Z (Rg ad)) {hz : MS} {k14 : MS → Int32 → Int32 → Option (MS)} (H14 : ∀ (h : MS) (x1 : Int32) (x2 : Int32), ∀ (H : Heap) (locs : List Loc) (ls : Array Slot), k14 h x1 x2 = some hz → CE (EM D aC ad h) (Rg ad) s H locs → lv_has ls 4 [(0, .ref (ad 116)), (1, .int x1), (2, .int x2)] → W p l e (RM 5 107 0 0) s m args below meth c H locs 0 0 (MQ below (PQ (EM D aC ad hz) (Rg ad) none) args s 0 0 (Rg ad)) (F0 m 14 ls [])) {k95 : MS → Int32 → Int32 → Int32 → Option (MS)} (H95 : ∀ (h : MS) (x1 : Int32) (x2 : Int32) (x3 : Int32), ∀ (H : Heap) (locs : List Loc) (ls : Array Slot), k95 h x1 x2 x3 = some hz → CE (EM D aC ad h) (Rg ad) s H locs → lv_has ls 4 [(0, .ref (ad 116)), (1, .int x1), (2, .int x2), (3, .int x3)] → W p l e (RM 5 107 0 0) s m args below meth c H locs 0 0 (MQ below (PQ (EM D aC ad hz) (Rg ad) none) args s 0 0 (Rg ad)) (F0 m 95 ls [])) {h : MS} {x1 : Int32} {x2 : Int32} {x3 : Int32}  {H : Heap} {locs : List Loc} {ls : Array Slot} (hf : fX12_expression_95F k14 k95 h x1 x2 x3 = some hz) (hE : CE (EM D aC ad h) (Rg ad) s H locs) (hl : lv_has ls 4 [(0, .ref (ad 116)), (1, .int x1), (2, .int x2), (3, .int x3)]) : W p l e (RM 5 107 0 0) s m args below meth c H locs 0 0 (MQ below (PQ (EM D aC ad hz) (Rg ad) none) args s 0 0 (Rg ad)) (F0 m 95 ls []) := by
  unfold fX12_expression_95F at hf
  refine lv_iload_n b.1 b.2.1 dX12_expression_95 rfl (lv_at hl 3 rfl) ?_
  refine lv_if_eq (tgt := 226) b.1 b.2.1 dX12_expression_96 (by decide) (fun c11 => ?_) (fun c11 => ?_)
  · have hf := oI_t c11 hf
    refine lv_goto (tgt := 14) b.1 b.2.1 dX12_expression_226 (by decide) ?_
    exact H14 h x1 x2 _ _ _ hf hE (lv_sub hl [0, 1, 2] rfl)
  · have hf := oI_f c11 hf
    refine lv_aload_n b.1 b.2.1 dX12_expression_99 rfl (lv_at hl 0 rfl) ?_
    refine gM_294 b hE dX12_expression_100 ?_
    refine lv_if_ne (tgt := 226) b.1 b.2.1 dX12_expression_103 (by decide) (fun c12 => ?_) (fun c12 => ?_)
    · have hf := oI_f c12 hf
      refine lv_goto (tgt := 14) b.1 b.2.1 dX12_expression_226 (by decide) ?_
      exact H14 h x1 x2 _ _ _ hf hE (lv_sub hl [0, 1, 2] rfl)
    · have hf := oI_t c12 hf
      refine lv_iconst (v := 0) b.1 b.2.1 dX12_expression_106 (by decide) ?_
      refine lv_istore_n (lv' := [(3, .int 0), (0, .ref (ad 116)), (1, .int x1), (2, .int x2)]) b.1 b.2.1 dX12_expression_107 rfl hl (by decide) rfl (fun ls hl => ?_)
      refine lv_aload_n b.1 b.2.1 dX12_expression_108 rfl (lv_at hl 1 rfl) ?_
      refine lv_bipush (v := 13) b.1 b.2.1 dX12_expression_109 (by decide) ?_
      obtain ⟨r14, hc13, hf⟩ := oB_s hf
      refine k_callV0 (C := RX12) b zs zk hE (CX12_is l D aC ad zk hc13) mc_X12_is (in7 109 rfl rfl) mi_X12_is ms_X12_is ini_RX12 ok_X12_is (m_recv b hE) ⟨Nat.le_of_ble_eq_true rfl, Nat.le_of_ble_eq_true rfl⟩ rfl hl.1 rfl (k_room _ (by exact Nat.le_of_ble_eq_true rfl)) ⟨Nat.le_refl _, Nat.le_refl _⟩ dX12_expression_111 (fun H locs hE => ?_)
      refine lv_if_eq (tgt := 131) b.1 b.2.1 dX12_expression_114 (by decide) (fun c15 => ?_) (fun c15 => ?_)
      · have hf := oI_t c15 hf
        refine lv_aload_n b.1 b.2.1 dX12_expression_131 rfl (lv_at hl 1 rfl) ?_
        refine lv_bipush (v := 11) b.1 b.2.1 dX12_expression_132 (by decide) ?_
        obtain ⟨r17, hc16, hf⟩ := oB_s hf
        refine k_callV0 (C := RX12) b zs zk hE (CX12_is l D aC ad zk hc16) mc_X12_is (in7 109 rfl rfl) mi_X12_is ms_X12_is ini_RX12 ok_X12_is (m_recv b hE) ⟨Nat.le_of_ble_eq_true rfl, Nat.le_of_ble_eq_true rfl⟩ rfl hl.1 rfl (k_room _ (by exact Nat.le_of_ble_eq_true rfl)) ⟨Nat.le_refl _, Nat.le_refl _⟩ dX12_expression_134 (fun H locs hE => ?_)
        refine lv_if_ne (tgt := 149) b.1 b.2.1 dX12_expression_137 (by decide) (fun c18 => ?_) (fun c18 => ?_)
        · have hf := oI_f c18 hf
          exact wfX12_expression_149 b hlk hr zs zk H14 H95 hf hE (lv_sub hl [1, 2, 3, 0] rfl)
        · have hf := oI_t c18 hf
          refine lv_aload_n b.1 b.2.1 dX12_expression_140 rfl (lv_at hl 1 rfl) ?_
          refine lv_bipush (v := 12) b.1 b.2.1 dX12_expression_141 (by decide) ?_
          obtain ⟨r20, hc19, hf⟩ := oB_s hf
          refine k_callV0 (C := RX12) b zs zk hE (CX12_is l D aC ad zk hc19) mc_X12_is (in7 109 rfl rfl) mi_X12_is ms_X12_is ini_RX12 ok_X12_is (m_recv b hE) ⟨Nat.le_of_ble_eq_true rfl, Nat.le_of_ble_eq_true rfl⟩ rfl hl.1 rfl (k_room _ (by exact Nat.le_of_ble_eq_true rfl)) ⟨Nat.le_refl _, Nat.le_refl _⟩ dX12_expression_143 (fun H locs hE => ?_)
          refine lv_if_eq (tgt := 170) b.1 b.2.1 dX12_expression_146 (by decide) (fun c21 => ?_) (fun c21 => ?_)
          · have hf := oI_t c21 hf
            refine lv_aload_n b.1 b.2.1 dX12_expression_170 rfl (lv_at hl 1 rfl) ?_
            refine lv_iconst (v := 1) b.1 b.2.1 dX12_expression_171 (by decide) ?_
            obtain ⟨h23, hc22, hf⟩ := oB_s hf
            refine k_callV0 (C := RX12) b zs zk hE (CX12_settles l D aC ad zk hc22) mc_X12_settles (in7 185 rfl rfl) mi_X12_settles ms_X12_settles ini_RX12 ok_X12_settles (m_recv b hE) ⟨Nat.le_of_ble_eq_true rfl, Nat.le_of_ble_eq_true rfl⟩ rfl hl.1 rfl (k_room _ (by exact Nat.le_of_ble_eq_true rfl)) ⟨Nat.le_refl _, Nat.le_refl _⟩ dX12_expression_172 (fun H locs hE => ?_)
            refine lv_aload_n b.1 b.2.1 dX12_expression_175 rfl (lv_at hl 1 rfl) ?_
            refine gM_416 b hE dX12_expression_176 ?_
            refine lv_if_le (tgt := 186) b.1 b.2.1 dX12_expression_179 (by decide) (fun c24 => ?_) (fun c24 => ?_)
            · have hf := oI_t c24 hf
              refine lv_iconst (v := 0) b.1 b.2.1 dX12_expression_186 (by decide) ?_
              exact wfX12_expression_187 b hlk hr zs zk H14 H95 hf hE (lv_sub hl [1, 2] rfl)
            · have hf := oI_f c24 hf
              refine lv_iconst (v := 1) b.1 b.2.1 dX12_expression_182 (by decide) ?_
              refine lv_goto (tgt := 187) b.1 b.2.1 dX12_expression_183 (by decide) ?_
              exact wfX12_expression_187 b hlk hr zs zk H14 H95 hf hE (lv_sub hl [1, 2] rfl)
          · have hf := oI_f c21 hf
            exact wfX12_expression_149 b hlk hr zs zk H14 H95 hf hE (lv_sub hl [1, 2, 3, 0] rfl)
      · have hf := oI_f c15 hf
        refine lv_aload_n b.1 b.2.1 dX12_expression_117 rfl (lv_at hl 1 rfl) ?_
        refine lv_iconst (v := 2) b.1 b.2.1 dX12_expression_118 (by decide) ?_
        obtain ⟨h26, hc25, hf⟩ := oB_s hf
        refine k_callV0 (C := RX12) b zs zk hE (CX12_settles l D aC ad zk hc25) mc_X12_settles (in7 185 rfl rfl) mi_X12_settles ms_X12_settles ini_RX12 ok_X12_settles (m_recv b hE) ⟨Nat.le_of_ble_eq_true rfl, Nat.le_of_ble_eq_true rfl⟩ rfl hl.1 rfl (k_room _ (by exact Nat.le_of_ble_eq_true rfl)) ⟨Nat.le_refl _, Nat.le_refl _⟩ dX12_expression_119 (fun H locs hE => ?_)
        refine lv_aload_n b.1 b.2.1 dX12_expression_122 rfl (lv_at hl 1 rfl) ?_
        refine lv_bipush (v := 13) b.1 b.2.1 dX12_expression_123 (by decide) ?_
        obtain ⟨h28, hc27, hf⟩ := oB_s hf
        refine k_callV0 (C := RX12) b zs zk hE (CX12_stacks l D aC ad zk hc27) mc_X12_stacks (in7 173 rfl rfl) mi_X12_stacks ms_X12_stacks ini_RX12 ok_X12_stacks (m_recv b hE) ⟨Nat.le_of_ble_eq_true rfl, Nat.le_of_ble_eq_true rfl⟩ rfl hl.1 rfl (k_room _ (by exact Nat.le_of_ble_eq_true rfl)) ⟨Nat.le_refl _, Nat.le_refl _⟩ dX12_expression_125 (fun H locs hE => ?_)
        refine lv_goto (tgt := 95) b.1 b.2.1 dX12_expression_128 (by decide) ?_
        exact H95 h28 x1 x2 0 _ _ _ hf hE (lv_sub hl [1, 2, 3, 0] rfl)
def fX12_expression_95 (k14 : MS → Int32 → Int32 → Option (MS)) : Nat → MS → Int32 → Int32 → Int32 → Option (MS)
  | 0 => fun _ _ _ _ => none
  | n + 1 => fX12_expression_95F k14 (fX12_expression_95 k14 n)
set_option maxHeartbeats 4000000 in
theorem wfX12_expression_95 {args : Array Value} (b : Bd p s m c cX12_expression 4 RX12 D aC) (hlk : meth.locks = false) (hr : meth.sig.returnType = none) {Z : State → Prop} (zs : Z s) (zk : ZOK Z (Rg ad)) {hz : MS} {k14 : MS → Int32 → Int32 → Option (MS)} (H14 : ∀ (h : MS) (x1 : Int32) (x2 : Int32), ∀ (H : Heap) (locs : List Loc) (ls : Array Slot), k14 h x1 x2 = some hz → CE (EM D aC ad h) (Rg ad) s H locs → lv_has ls 4 [(0, .ref (ad 116)), (1, .int x1), (2, .int x2)] → W p l e (RM 5 107 0 0) s m args below meth c H locs 0 0 (MQ below (PQ (EM D aC ad hz) (Rg ad) none) args s 0 0 (Rg ad)) (F0 m 14 ls [])) : ∀ n : Nat, ∀ (h : MS) (x1 : Int32) (x2 : Int32) (x3 : Int32), ∀ (H : Heap) (locs : List Loc) (ls : Array Slot), fX12_expression_95 k14 n h x1 x2 x3 = some hz → CE (EM D aC ad h) (Rg ad) s H locs → lv_has ls 4 [(0, .ref (ad 116)), (1, .int x1), (2, .int x2), (3, .int x3)] → W p l e (RM 5 107 0 0) s m args below meth c H locs 0 0 (MQ below (PQ (EM D aC ad hz) (Rg ad) none) args s 0 0 (Rg ad)) (F0 m 95 ls []) := by
  intro n
  induction n with
  | zero =>
    intro h x1 x2 x3 H locs ls hf
    have hf : (none : Option (MS)) = some _ := hf
    cases hf
  | succ n ih =>
    intro h x1 x2 x3 H locs ls hf hE hl
    exact wfX12_expression_95F b hlk hr zs zk H14 ih hf hE hl
def fX12_expression_68 (k14 : MS → Int32 → Int32 → Option (MS)) (h : MS) (x2 : Int32) : Option (MS) :=
  oL (mSI h 12 ((mI h 12) + 1)) (fun h29 => oB (fX12_stacks h29 9) (fun h31 => k14 h31 1 x2))
set_option maxHeartbeats 4000000 in
theorem wfX12_expression_68 {args : Array Value} (b : Bd p s m c cX12_expression 4 RX12 D aC) (hlk : meth.locks = false) (hr : meth.sig.returnType = none) {Z : State → Prop} (zs : Z s) (zk : ZOK Z (Rg ad)) {hz : MS} {k14 : MS → Int32 → Int32 → Option (MS)} (H14 : ∀ (h : MS) (x1 : Int32) (x2 : Int32), ∀ (H : Heap) (locs : List Loc) (ls : Array Slot), k14 h x1 x2 = some hz → CE (EM D aC ad h) (Rg ad) s H locs → lv_has ls 4 [(0, .ref (ad 116)), (1, .int x1), (2, .int x2)] → W p l e (RM 5 107 0 0) s m args below meth c H locs 0 0 (MQ below (PQ (EM D aC ad hz) (Rg ad) none) args s 0 0 (Rg ad)) (F0 m 14 ls [])) {h : MS} {x2 : Int32}  {H : Heap} {locs : List Loc} {ls : Array Slot} (hf : fX12_expression_68 k14 h x2 = some hz) (hE : CE (EM D aC ad h) (Rg ad) s H locs) (hl : lv_has ls 4 [(0, .ref (ad 116)), (2, .int x2)]) : W p l e (RM 5 107 0 0) s m args below meth c H locs 0 0 (MQ below (PQ (EM D aC ad hz) (Rg ad) none) args s 0 0 (Rg ad)) (F0 m 68 ls []) := by
  unfold fX12_expression_68 at hf
  refine lv_aload_n b.1 b.2.1 dX12_expression_68 rfl (lv_at hl 0 rfl) ?_
  refine lv_dup b.1 b.2.1 dX12_expression_69 rfl ?_
  refine gM_332 b hE dX12_expression_70 ?_
  refine lv_iconst (v := 1) b.1 b.2.1 dX12_expression_73 (by decide) ?_
  refine lv_iadd b.1 b.2.1 dX12_expression_74 ?_
  obtain ⟨h29, eh29, hf⟩ := oL_s hf
  refine pM_332 b hE eh29 dX12_expression_75 (fun H locs hE => ?_)
  refine lv_aload_n b.1 b.2.1 dX12_expression_78 rfl (lv_at hl 0 rfl) ?_
  refine lv_bipush (v := 9) b.1 b.2.1 dX12_expression_79 (by decide) ?_
  obtain ⟨h31, hc30, hf⟩ := oB_s hf
  refine k_callV0 (C := RX12) b zs zk hE (CX12_stacks l D aC ad zk hc30) mc_X12_stacks (in7 173 rfl rfl) mi_X12_stacks ms_X12_stacks ini_RX12 ok_X12_stacks (m_recv b hE) ⟨Nat.le_of_ble_eq_true rfl, Nat.le_of_ble_eq_true rfl⟩ rfl hl.1 rfl (k_room _ (by exact Nat.le_of_ble_eq_true rfl)) ⟨Nat.le_refl _, Nat.le_refl _⟩ dX12_expression_81 (fun H locs hE => ?_)
  refine lv_iconst (v := 1) b.1 b.2.1 dX12_expression_84 (by decide) ?_
  refine lv_istore_n (lv' := [(1, .int 1), (0, .ref (ad 116)), (2, .int x2)]) b.1 b.2.1 dX12_expression_85 rfl hl (by decide) rfl (fun ls hl => ?_)
  refine lv_goto (tgt := 14) b.1 b.2.1 dX12_expression_86 (by decide) ?_
  exact H14 h31 1 x2 _ _ _ hf hE (lv_sub hl [1, 0, 2] rfl)
def fX12_expression_43 (k14 : MS → Int32 → Int32 → Option (MS)) (h : MS) (x2 : Int32) : Option (MS) :=
  oB (fX12_is h 9) (fun r33 => if r33 = 0 then (oB (fX12_unit h ) (fun h36 => fX12_expression_95 k14 FU h36 0 x2 1)) else (if (mI h 12) = 8 then (oB (fX12_fail h 2) (fun h39 => fX12_expression_68 k14 h39 x2)) else (fX12_expression_68 k14 h x2)))
set_option maxHeartbeats 4000000 in
theorem wfX12_expression_43 {args : Array Value} (b : Bd p s m c cX12_expression 4 RX12 D aC) (hlk : meth.locks = false) (hr : meth.sig.returnType = none) {Z : State → Prop} (zs : Z s) (zk : ZOK Z (Rg ad)) {hz : MS} {k14 : MS → Int32 → Int32 → Option (MS)} (H14 : ∀ (h : MS) (x1 : Int32) (x2 : Int32), ∀ (H : Heap) (locs : List Loc) (ls : Array Slot), k14 h x1 x2 = some hz → CE (EM D aC ad h) (Rg ad) s H locs → lv_has ls 4 [(0, .ref (ad 116)), (1, .int x1), (2, .int x2)] → W p l e (RM 5 107 0 0) s m args below meth c H locs 0 0 (MQ below (PQ (EM D aC ad hz) (Rg ad) none) args s 0 0 (Rg ad)) (F0 m 14 ls [])) {h : MS} {x2 : Int32}  {H : Heap} {locs : List Loc} {ls : Array Slot} (hf : fX12_expression_43 k14 h x2 = some hz) (hE : CE (EM D aC ad h) (Rg ad) s H locs) (hl : lv_has ls 4 [(0, .ref (ad 116)), (2, .int x2)]) : W p l e (RM 5 107 0 0) s m args below meth c H locs 0 0 (MQ below (PQ (EM D aC ad hz) (Rg ad) none) args s 0 0 (Rg ad)) (F0 m 43 ls []) := by
  unfold fX12_expression_43 at hf
  refine lv_iconst (v := 0) b.1 b.2.1 dX12_expression_43 (by decide) ?_
  refine lv_istore_n (lv' := [(1, .int 0), (0, .ref (ad 116)), (2, .int x2)]) b.1 b.2.1 dX12_expression_44 rfl hl (by decide) rfl (fun ls hl => ?_)
  refine lv_aload_n b.1 b.2.1 dX12_expression_45 rfl (lv_at hl 1 rfl) ?_
  refine lv_bipush (v := 9) b.1 b.2.1 dX12_expression_46 (by decide) ?_
  obtain ⟨r33, hc32, hf⟩ := oB_s hf
  refine k_callV0 (C := RX12) b zs zk hE (CX12_is l D aC ad zk hc32) mc_X12_is (in7 109 rfl rfl) mi_X12_is ms_X12_is ini_RX12 ok_X12_is (m_recv b hE) ⟨Nat.le_of_ble_eq_true rfl, Nat.le_of_ble_eq_true rfl⟩ rfl hl.1 rfl (k_room _ (by exact Nat.le_of_ble_eq_true rfl)) ⟨Nat.le_refl _, Nat.le_refl _⟩ dX12_expression_48 (fun H locs hE => ?_)
  refine lv_if_eq (tgt := 89) b.1 b.2.1 dX12_expression_51 (by decide) (fun c34 => ?_) (fun c34 => ?_)
  · have hf := oI_t c34 hf
    refine lv_aload_n b.1 b.2.1 dX12_expression_89 rfl (lv_at hl 1 rfl) ?_
    obtain ⟨h36, hc35, hf⟩ := oB_s hf
    refine k_callV0 (C := RX12) b zs zk hE (CX12_unit l D aC ad zk hc35) mc_X12_unit (in7 177 rfl rfl) mi_X12_unit ms_X12_unit ini_RX12 ok_X12_unit (m_recv b hE) ⟨Nat.le_of_ble_eq_true rfl, Nat.le_of_ble_eq_true rfl⟩ rfl hl.1 rfl (k_room _ (by exact Nat.le_of_ble_eq_true rfl)) ⟨Nat.le_refl _, Nat.le_refl _⟩ dX12_expression_90 (fun H locs hE => ?_)
    refine lv_iconst (v := 1) b.1 b.2.1 dX12_expression_93 (by decide) ?_
    refine lv_istore_n (lv' := [(3, .int 1), (1, .int 0), (0, .ref (ad 116)), (2, .int x2)]) b.1 b.2.1 dX12_expression_94 rfl hl (by decide) rfl (fun ls hl => ?_)
    exact wfX12_expression_95 b hlk hr zs zk H14 FU h36 0 x2 1 _ _ _ hf hE (lv_sub hl [2, 1, 3, 0] rfl)
  · have hf := oI_f c34 hf
    refine lv_aload_n b.1 b.2.1 dX12_expression_54 rfl (lv_at hl 1 rfl) ?_
    refine gM_332 b hE dX12_expression_55 ?_
    refine lv_bipush (v := 8) b.1 b.2.1 dX12_expression_58 (by decide) ?_
    refine lv_icmp_ne (tgt := 68) b.1 b.2.1 dX12_expression_60 (by decide) (fun c37 => ?_) (fun c37 => ?_)
    · have hf := oI_f c37 hf
      exact wfX12_expression_68 b hlk hr zs zk H14 hf hE (lv_sub hl [1, 2] rfl)
    · have hf := oI_t c37 hf
      refine lv_aload_n b.1 b.2.1 dX12_expression_63 rfl (lv_at hl 1 rfl) ?_
      refine lv_iconst (v := 2) b.1 b.2.1 dX12_expression_64 (by decide) ?_
      obtain ⟨h39, hc38, hf⟩ := oB_s hf
      refine k_callV0 (C := RX12) b zs zk hE (CX12_fail l D aC ad zk hc38) mc_X12_fail (in7 121 rfl rfl) mi_X12_fail ms_X12_fail ini_RX12 ok_X12_fail (m_recv b hE) ⟨Nat.le_of_ble_eq_true rfl, Nat.le_of_ble_eq_true rfl⟩ rfl hl.1 rfl (k_room _ (by exact Nat.le_of_ble_eq_true rfl)) ⟨Nat.le_refl _, Nat.le_refl _⟩ dX12_expression_65 (fun H locs hE => ?_)
      exact wfX12_expression_68 b hlk hr zs zk H14 hf hE (lv_sub hl [1, 2] rfl)
def fX12_expression_14F (k14 : MS → Int32 → Int32 → Option (MS)) (h : MS) (x1 : Int32) (x2 : Int32) : Option (MS) :=
  if x2 = 0 then (some (h)) else (if (mI h 13) = 0 then (if x1 = 0 then (fX12_expression_43 k14 h x2) else (oB (fX12_is h 12) (fun r44 => if r44 = 0 then (fX12_expression_43 k14 h x2) else (oB (fX12_stacks h 4) (fun h47 => fX12_expression_43 k14 h47 x2))))) else (some (h)))
set_option maxHeartbeats 4000000 in
theorem wfX12_expression_14F {args : Array Value} (b : Bd p s m c cX12_expression 4 RX12 D aC) (hlk : meth.locks = false) (hr : meth.sig.returnType = none) {Z : State → Prop} (zs : Z s) (zk : ZOK Z (Rg ad)) {hz : MS} {k14 : MS → Int32 → Int32 → Option (MS)} (H14 : ∀ (h : MS) (x1 : Int32) (x2 : Int32), ∀ (H : Heap) (locs : List Loc) (ls : Array Slot), k14 h x1 x2 = some hz → CE (EM D aC ad h) (Rg ad) s H locs → lv_has ls 4 [(0, .ref (ad 116)), (1, .int x1), (2, .int x2)] → W p l e (RM 5 107 0 0) s m args below meth c H locs 0 0 (MQ below (PQ (EM D aC ad hz) (Rg ad) none) args s 0 0 (Rg ad)) (F0 m 14 ls [])) {h : MS} {x1 : Int32} {x2 : Int32}  {H : Heap} {locs : List Loc} {ls : Array Slot} (hf : fX12_expression_14F k14 h x1 x2 = some hz) (hE : CE (EM D aC ad h) (Rg ad) s H locs) (hl : lv_has ls 4 [(0, .ref (ad 116)), (1, .int x1), (2, .int x2)]) : W p l e (RM 5 107 0 0) s m args below meth c H locs 0 0 (MQ below (PQ (EM D aC ad hz) (Rg ad) none) args s 0 0 (Rg ad)) (F0 m 14 ls []) := by
  unfold fX12_expression_14F at hf
  refine lv_iload_n b.1 b.2.1 dX12_expression_14 rfl (lv_at hl 2 rfl) ?_
  refine lv_if_eq (tgt := 229) b.1 b.2.1 dX12_expression_15 (by decide) (fun c40 => ?_) (fun c40 => ?_)
  · have hf := oI_t c40 hf
    cases hf
    exact k_vret b hlk hr hE (Nat.le_refl _) (Nat.le_refl _) dX12_expression_229
  · have hf := oI_f c40 hf
    refine lv_aload_n b.1 b.2.1 dX12_expression_18 rfl (lv_at hl 0 rfl) ?_
    refine gM_294 b hE dX12_expression_19 ?_
    refine lv_if_ne (tgt := 229) b.1 b.2.1 dX12_expression_22 (by decide) (fun c41 => ?_) (fun c41 => ?_)
    · have hf := oI_f c41 hf
      cases hf
      exact k_vret b hlk hr hE (Nat.le_refl _) (Nat.le_refl _) dX12_expression_229
    · have hf := oI_t c41 hf
      refine lv_iload_n b.1 b.2.1 dX12_expression_25 rfl (lv_at hl 1 rfl) ?_
      refine lv_if_eq (tgt := 43) b.1 b.2.1 dX12_expression_26 (by decide) (fun c42 => ?_) (fun c42 => ?_)
      · have hf := oI_t c42 hf
        exact wfX12_expression_43 b hlk hr zs zk H14 hf hE (lv_sub hl [0, 2] rfl)
      · have hf := oI_f c42 hf
        refine lv_aload_n b.1 b.2.1 dX12_expression_29 rfl (lv_at hl 0 rfl) ?_
        refine lv_bipush (v := 12) b.1 b.2.1 dX12_expression_30 (by decide) ?_
        obtain ⟨r44, hc43, hf⟩ := oB_s hf
        refine k_callV0 (C := RX12) b zs zk hE (CX12_is l D aC ad zk hc43) mc_X12_is (in7 109 rfl rfl) mi_X12_is ms_X12_is ini_RX12 ok_X12_is (m_recv b hE) ⟨Nat.le_of_ble_eq_true rfl, Nat.le_of_ble_eq_true rfl⟩ rfl hl.1 rfl (k_room _ (by exact Nat.le_of_ble_eq_true rfl)) ⟨Nat.le_refl _, Nat.le_refl _⟩ dX12_expression_32 (fun H locs hE => ?_)
        refine lv_if_eq (tgt := 43) b.1 b.2.1 dX12_expression_35 (by decide) (fun c45 => ?_) (fun c45 => ?_)
        · have hf := oI_t c45 hf
          exact wfX12_expression_43 b hlk hr zs zk H14 hf hE (lv_sub hl [0, 2] rfl)
        · have hf := oI_f c45 hf
          refine lv_aload_n b.1 b.2.1 dX12_expression_38 rfl (lv_at hl 0 rfl) ?_
          refine lv_iconst (v := 4) b.1 b.2.1 dX12_expression_39 (by decide) ?_
          obtain ⟨h47, hc46, hf⟩ := oB_s hf
          refine k_callV0 (C := RX12) b zs zk hE (CX12_stacks l D aC ad zk hc46) mc_X12_stacks (in7 173 rfl rfl) mi_X12_stacks ms_X12_stacks ini_RX12 ok_X12_stacks (m_recv b hE) ⟨Nat.le_of_ble_eq_true rfl, Nat.le_of_ble_eq_true rfl⟩ rfl hl.1 rfl (k_room _ (by exact Nat.le_of_ble_eq_true rfl)) ⟨Nat.le_refl _, Nat.le_refl _⟩ dX12_expression_40 (fun H locs hE => ?_)
          exact wfX12_expression_43 b hlk hr zs zk H14 hf hE (lv_sub hl [0, 2] rfl)
def fX12_expression_14  : Nat → MS → Int32 → Int32 → Option (MS)
  | 0 => fun _ _ _ => none
  | n + 1 => fX12_expression_14F  (fX12_expression_14  n)
set_option maxHeartbeats 4000000 in
theorem wfX12_expression_14 {args : Array Value} (b : Bd p s m c cX12_expression 4 RX12 D aC) (hlk : meth.locks = false) (hr : meth.sig.returnType = none) {Z : State → Prop} (zs : Z s) (zk : ZOK Z (Rg ad)) {hz : MS} : ∀ n : Nat, ∀ (h : MS) (x1 : Int32) (x2 : Int32), ∀ (H : Heap) (locs : List Loc) (ls : Array Slot), fX12_expression_14  n h x1 x2 = some hz → CE (EM D aC ad h) (Rg ad) s H locs → lv_has ls 4 [(0, .ref (ad 116)), (1, .int x1), (2, .int x2)] → W p l e (RM 5 107 0 0) s m args below meth c H locs 0 0 (MQ below (PQ (EM D aC ad hz) (Rg ad) none) args s 0 0 (Rg ad)) (F0 m 14 ls []) := by
  intro n
  induction n with
  | zero =>
    intro h x1 x2 H locs ls hf
    have hf : (none : Option (MS)) = some _ := hf
    cases hf
  | succ n ih =>
    intro h x1 x2 H locs ls hf hE hl
    exact wfX12_expression_14F b hlk hr zs zk  ih hf hE hl
def fX12_expression_0  (h : MS) : Option (MS) :=
  oL (mSI h 70 0) (fun h48 => oL (mSI h48 12 0) (fun h49 => fX12_expression_14  FU h49 1 1))
set_option maxHeartbeats 4000000 in
theorem wfX12_expression_0 {args : Array Value} (b : Bd p s m c cX12_expression 4 RX12 D aC) (hlk : meth.locks = false) (hr : meth.sig.returnType = none) {Z : State → Prop} (zs : Z s) (zk : ZOK Z (Rg ad)) {hz : MS} {h : MS}  {H : Heap} {locs : List Loc} {ls : Array Slot} (hf : fX12_expression_0 h = some hz) (hE : CE (EM D aC ad h) (Rg ad) s H locs) (hl : lv_has ls 4 [(0, .ref (ad 116))]) : W p l e (RM 5 107 0 0) s m args below meth c H locs 0 0 (MQ below (PQ (EM D aC ad hz) (Rg ad) none) args s 0 0 (Rg ad)) (F0 m 0 ls []) := by
  unfold fX12_expression_0 at hf
  refine lv_aload_n b.1 b.2.1 dX12_expression_0 rfl (lv_at hl 0 rfl) ?_
  refine lv_iconst (v := 0) b.1 b.2.1 dX12_expression_1 (by decide) ?_
  obtain ⟨h48, eh48, hf⟩ := oL_s hf
  refine pM_416 b hE eh48 dX12_expression_2 (fun H locs hE => ?_)
  refine lv_aload_n b.1 b.2.1 dX12_expression_5 rfl (lv_at hl 0 rfl) ?_
  refine lv_iconst (v := 0) b.1 b.2.1 dX12_expression_6 (by decide) ?_
  obtain ⟨h49, eh49, hf⟩ := oL_s hf
  refine pM_332 b hE eh49 dX12_expression_7 (fun H locs hE => ?_)
  refine lv_iconst (v := 1) b.1 b.2.1 dX12_expression_10 (by decide) ?_
  refine lv_istore_n (lv' := [(1, .int 1), (0, .ref (ad 116))]) b.1 b.2.1 dX12_expression_11 rfl hl (by decide) rfl (fun ls hl => ?_)
  refine lv_iconst (v := 1) b.1 b.2.1 dX12_expression_12 (by decide) ?_
  refine lv_istore_n (lv' := [(2, .int 1), (1, .int 1), (0, .ref (ad 116))]) b.1 b.2.1 dX12_expression_13 rfl hl (by decide) rfl (fun ls hl => ?_)
  exact wfX12_expression_14 b hlk hr zs zk  FU h49 1 1 _ _ _ hf hE (lv_sub hl [2, 1, 0] rfl)
def fX12_expression (h : MS) : Option (MS) := fX12_expression_0 h 
set_option maxHeartbeats 4000000 in
theorem CX12_expression (l : Launch) (D : va_G) (aC : Nat → ClassId) (ad : Nat → Nat) {Z : State → Prop} (zk : ZOK Z (Rg ad)) {h : MS} {hz : MS} (hf : fX12_expression h = some hz) : CM l D aC Z yX12_expression cX12_expression 4 (none) 5 107 0 0 (EM D aC ad h) [.ref (ad 116)] (EM D aC ad hz) none (Rg ad) := by
  refine CM.of rfl ?_
  intro p e s m below meth c b hr hlk hin2 zs hE
  refine k_ent (Nat.le_of_ble_eq_true rfl) (fun ls hl => ?_)
  exact wfX12_expression_0 b hlk hr zs zk hf hE (lv_sub hl [0] rfl)
theorem dX12_literal_0 : decode cX12_literal 0 = .ok (.aload_n 0, 1) := by decide +kernel
theorem dX12_literal_1 : decode cX12_literal 1 = .ok (.aload_n 0, 1) := by decide +kernel
theorem dX12_literal_2 : decode cX12_literal 2 = .ok (.bipush 35, 2) := by decide +kernel
theorem dX12_literal_4 : decode cX12_literal 4 = .ok (.invokevirtual 312, 3) := by decide +kernel
theorem dX12_literal_7 : decode cX12_literal 7 = .ok (.ifCond .ne 7, 3) := by decide +kernel
theorem dX12_literal_10 : decode cX12_literal 10 = .ok (.iconst 1, 1) := by decide +kernel
theorem dX12_literal_11 : decode cX12_literal 11 = .ok (.goto 4, 3) := by decide +kernel
theorem dX12_literal_14 : decode cX12_literal 14 = .ok (.iconst 0, 1) := by decide +kernel
theorem dX12_literal_15 : decode cX12_literal 15 = .ok (.putfield 403, 3) := by decide +kernel
theorem dX12_literal_18 : decode cX12_literal 18 = .ok (.aload_n 0, 1) := by decide +kernel
theorem dX12_literal_19 : decode cX12_literal 19 = .ok (.getfield 403, 3) := by decide +kernel
theorem dX12_literal_22 : decode cX12_literal 22 = .ok (.ifCond .ne 7, 3) := by decide +kernel
theorem dX12_literal_25 : decode cX12_literal 25 = .ok (.aload_n 0, 1) := by decide +kernel
theorem dX12_literal_26 : decode cX12_literal 26 = .ok (.invokevirtual 315, 3) := by decide +kernel
theorem dX12_literal_29 : decode cX12_literal 29 = .ok (.aload_n 0, 1) := by decide +kernel
theorem dX12_literal_30 : decode cX12_literal 30 = .ok (.getfield 297, 3) := by decide +kernel
theorem dX12_literal_33 : decode cX12_literal 33 = .ok (.istore_n 1, 1) := by decide +kernel
theorem dX12_literal_34 : decode cX12_literal 34 = .ok (.aload_n 0, 1) := by decide +kernel
theorem dX12_literal_35 : decode cX12_literal 35 = .ok (.iconst 1, 1) := by decide +kernel
theorem dX12_literal_36 : decode cX12_literal 36 = .ok (.invokevirtual 318, 3) := by decide +kernel
theorem dX12_literal_39 : decode cX12_literal 39 = .ok (.aload_n 0, 1) := by decide +kernel
theorem dX12_literal_40 : decode cX12_literal 40 = .ok (.getfield 294, 3) := by decide +kernel
theorem dX12_literal_43 : decode cX12_literal 43 = .ok (.ifCond .le 4, 3) := by decide +kernel
theorem dX12_literal_46 : decode cX12_literal 46 = .ok (.return_, 1) := by decide +kernel
theorem dX12_literal_47 : decode cX12_literal 47 = .ok (.aload_n 0, 1) := by decide +kernel
theorem dX12_literal_48 : decode cX12_literal 48 = .ok (.aload_n 0, 1) := by decide +kernel
theorem dX12_literal_49 : decode cX12_literal 49 = .ok (.aload_n 0, 1) := by decide +kernel
theorem dX12_literal_50 : decode cX12_literal 50 = .ok (.getfield 46, 3) := by decide +kernel
theorem dX12_literal_53 : decode cX12_literal 53 = .ok (.aload_n 0, 1) := by decide +kernel
theorem dX12_literal_54 : decode cX12_literal 54 = .ok (.getfield 341, 3) := by decide +kernel
theorem dX12_literal_57 : decode cX12_literal 57 = .ok (.iload_n 1, 1) := by decide +kernel
theorem dX12_literal_58 : decode cX12_literal 58 = .ok (.invokevirtual 374, 3) := by decide +kernel
theorem dX12_literal_61 : decode cX12_literal 61 = .ok (.putfield 400, 3) := by decide +kernel
theorem dX12_literal_64 : decode cX12_literal 64 = .ok (.aload_n 0, 1) := by decide +kernel
theorem dX12_literal_65 : decode cX12_literal 65 = .ok (.iconst (-1), 1) := by decide +kernel
theorem dX12_literal_66 : decode cX12_literal 66 = .ok (.putfield 407, 3) := by decide +kernel
theorem dX12_literal_69 : decode cX12_literal 69 = .ok (.aload_n 0, 1) := by decide +kernel
theorem dX12_literal_70 : decode cX12_literal 70 = .ok (.iconst (-1), 1) := by decide +kernel
theorem dX12_literal_71 : decode cX12_literal 71 = .ok (.putfield 410, 3) := by decide +kernel
theorem dX12_literal_74 : decode cX12_literal 74 = .ok (.iconst 0, 1) := by decide +kernel
theorem dX12_literal_75 : decode cX12_literal 75 = .ok (.istore_n 2, 1) := by decide +kernel
theorem dX12_literal_76 : decode cX12_literal 76 = .ok (.aload_n 0, 1) := by decide +kernel
theorem dX12_literal_77 : decode cX12_literal 77 = .ok (.bipush 9, 2) := by decide +kernel
theorem dX12_literal_79 : decode cX12_literal 79 = .ok (.invokevirtual 312, 3) := by decide +kernel
theorem dX12_literal_82 : decode cX12_literal 82 = .ok (.ifCond .eq 46, 3) := by decide +kernel
theorem dX12_literal_85 : decode cX12_literal 85 = .ok (.aload_n 0, 1) := by decide +kernel
theorem dX12_literal_86 : decode cX12_literal 86 = .ok (.invokevirtual 315, 3) := by decide +kernel
theorem dX12_literal_89 : decode cX12_literal 89 = .ok (.aload_n 0, 1) := by decide +kernel
theorem dX12_literal_90 : decode cX12_literal 90 = .ok (.aload_n 0, 1) := by decide +kernel
theorem dX12_literal_91 : decode cX12_literal 91 = .ok (.invokevirtual 390, 3) := by decide +kernel
theorem dX12_literal_94 : decode cX12_literal 94 = .ok (.putfield 407, 3) := by decide +kernel
theorem dX12_literal_97 : decode cX12_literal 97 = .ok (.iconst 1, 1) := by decide +kernel
theorem dX12_literal_98 : decode cX12_literal 98 = .ok (.istore_n 2, 1) := by decide +kernel
theorem dX12_literal_99 : decode cX12_literal 99 = .ok (.aload_n 0, 1) := by decide +kernel
theorem dX12_literal_100 : decode cX12_literal 100 = .ok (.bipush 7, 2) := by decide +kernel
theorem dX12_literal_102 : decode cX12_literal 102 = .ok (.invokevirtual 312, 3) := by decide +kernel
theorem dX12_literal_105 : decode cX12_literal 105 = .ok (.ifCond .eq 17, 3) := by decide +kernel
theorem dX12_literal_108 : decode cX12_literal 108 = .ok (.aload_n 0, 1) := by decide +kernel
theorem dX12_literal_109 : decode cX12_literal 109 = .ok (.invokevirtual 315, 3) := by decide +kernel
theorem dX12_literal_112 : decode cX12_literal 112 = .ok (.aload_n 0, 1) := by decide +kernel
theorem dX12_literal_113 : decode cX12_literal 113 = .ok (.aload_n 0, 1) := by decide +kernel
theorem dX12_literal_114 : decode cX12_literal 114 = .ok (.invokevirtual 390, 3) := by decide +kernel
theorem dX12_literal_117 : decode cX12_literal 117 = .ok (.putfield 410, 3) := by decide +kernel
theorem dX12_literal_120 : decode cX12_literal 120 = .ok (.iconst 2, 1) := by decide +kernel
theorem dX12_literal_121 : decode cX12_literal 121 = .ok (.istore_n 2, 1) := by decide +kernel
theorem dX12_literal_122 : decode cX12_literal 122 = .ok (.aload_n 0, 1) := by decide +kernel
theorem dX12_literal_123 : decode cX12_literal 123 = .ok (.bipush 10, 2) := by decide +kernel
theorem dX12_literal_125 : decode cX12_literal 125 = .ok (.invokevirtual 318, 3) := by decide +kernel
theorem dX12_literal_128 : decode cX12_literal 128 = .ok (.aload_n 0, 1) := by decide +kernel
theorem dX12_literal_129 : decode cX12_literal 129 = .ok (.getfield 294, 3) := by decide +kernel
theorem dX12_literal_132 : decode cX12_literal 132 = .ok (.ifCond .ne 30, 3) := by decide +kernel
theorem dX12_literal_135 : decode cX12_literal 135 = .ok (.aload_n 0, 1) := by decide +kernel
theorem dX12_literal_136 : decode cX12_literal 136 = .ok (.getfield 400, 3) := by decide +kernel
theorem dX12_literal_139 : decode cX12_literal 139 = .ok (.iconst (-1), 1) := by decide +kernel
theorem dX12_literal_140 : decode cX12_literal 140 = .ok (.if_icmp .eq 22, 3) := by decide +kernel
theorem dX12_literal_143 : decode cX12_literal 143 = .ok (.aload_n 0, 1) := by decide +kernel
theorem dX12_literal_144 : decode cX12_literal 144 = .ok (.getfield 49, 3) := by decide +kernel
theorem dX12_literal_147 : decode cX12_literal 147 = .ok (.aload_n 0, 1) := by decide +kernel
theorem dX12_literal_148 : decode cX12_literal 148 = .ok (.getfield 400, 3) := by decide +kernel
theorem dX12_literal_151 : decode cX12_literal 151 = .ok (.iaload, 1) := by decide +kernel
theorem dX12_literal_152 : decode cX12_literal 152 = .ok (.iload_n 2, 1) := by decide +kernel
theorem dX12_literal_153 : decode cX12_literal 153 = .ok (.if_icmp .eq 9, 3) := by decide +kernel
theorem dX12_literal_156 : decode cX12_literal 156 = .ok (.aload_n 0, 1) := by decide +kernel
theorem dX12_literal_157 : decode cX12_literal 157 = .ok (.iconst 5, 1) := by decide +kernel
theorem dX12_literal_158 : decode cX12_literal 158 = .ok (.iload_n 1, 1) := by decide +kernel
theorem dX12_literal_159 : decode cX12_literal 159 = .ok (.invokevirtual 325, 3) := by decide +kernel
theorem dX12_literal_162 : decode cX12_literal 162 = .ok (.return_, 1) := by decide +kernel
def fX12_literal_128  (h : MS) (x1 : Int32) (x2 : Int32) : Option (MS) :=
  if (mI h 13) = 0 then (if (mI h 66) = (-1) then (some (h)) else (oC (ix (mI h 66) (mlen 28)) (if (mA h 28 (Int32.toNatClampNeg (mI h 66))) = x2 then (some (h)) else (oB (fX12_wrong h 5 x1) (fun h6 => some (h6)))))) else (some (h))
set_option maxHeartbeats 4000000 in
theorem wfX12_literal_128 {args : Array Value} (b : Bd p s m c cX12_literal 3 RX12 D aC) (hlk : meth.locks = false) (hr : meth.sig.returnType = none) {Z : State → Prop} (zs : Z s) (zk : ZOK Z (Rg ad)) {hz : MS} {h : MS} {x1 : Int32} {x2 : Int32}  {H : Heap} {locs : List Loc} {ls : Array Slot} (hf : fX12_literal_128 h x1 x2 = some hz) (hE : CE (EM D aC ad h) (Rg ad) s H locs) (hl : lv_has ls 3 [(0, .ref (ad 116)), (1, .int x1), (2, .int x2)]) : W p l e (RM 4 84 0 0) s m args below meth c H locs 0 0 (MQ below (PQ (EM D aC ad hz) (Rg ad) none) args s 0 0 (Rg ad)) (F0 m 128 ls []) := by
  unfold fX12_literal_128 at hf
  refine lv_aload_n b.1 b.2.1 dX12_literal_128 rfl (lv_at hl 0 rfl) ?_
  refine gM_294 b hE dX12_literal_129 ?_
  refine lv_if_ne (tgt := 162) b.1 b.2.1 dX12_literal_132 (by decide) (fun c1 => ?_) (fun c1 => ?_)
  · have hf := oI_f c1 hf
    cases hf
    exact k_vret b hlk hr hE (Nat.le_refl _) (Nat.le_refl _) dX12_literal_162
  · have hf := oI_t c1 hf
    refine lv_aload_n b.1 b.2.1 dX12_literal_135 rfl (lv_at hl 0 rfl) ?_
    refine gM_400 b hE dX12_literal_136 ?_
    refine lv_iconst (v := (-1)) b.1 b.2.1 dX12_literal_139 (by decide) ?_
    refine lv_icmp_eq (tgt := 162) b.1 b.2.1 dX12_literal_140 (by decide) (fun c2 => ?_) (fun c2 => ?_)
    · have hf := oI_t c2 hf
      cases hf
      exact k_vret b hlk hr hE (Nat.le_refl _) (Nat.le_refl _) dX12_literal_162
    · have hf := oI_f c2 hf
      refine lv_aload_n b.1 b.2.1 dX12_literal_143 rfl (lv_at hl 0 rfl) ?_
      refine gM_49 b hE dX12_literal_144 ?_
      refine lv_aload_n b.1 b.2.1 dX12_literal_147 rfl (lv_at hl 0 rfl) ?_
      refine gM_400 b hE dX12_literal_148 ?_
      obtain ⟨g3, hf⟩ := oC_s hf
      refine m_iald b hE rfl rfl g3 dX12_literal_151 ?_
      refine lv_iload_n b.1 b.2.1 dX12_literal_152 rfl (lv_at hl 2 rfl) ?_
      refine lv_icmp_eq (tgt := 162) b.1 b.2.1 dX12_literal_153 (by decide) (fun c4 => ?_) (fun c4 => ?_)
      · have hf := oI_t c4 hf
        cases hf
        exact k_vret b hlk hr hE (Nat.le_refl _) (Nat.le_refl _) dX12_literal_162
      · have hf := oI_f c4 hf
        refine lv_aload_n b.1 b.2.1 dX12_literal_156 rfl (lv_at hl 0 rfl) ?_
        refine lv_iconst (v := 5) b.1 b.2.1 dX12_literal_157 (by decide) ?_
        refine lv_iload_n b.1 b.2.1 dX12_literal_158 rfl (lv_at hl 1 rfl) ?_
        obtain ⟨h6, hc5, hf⟩ := oB_s hf
        refine k_callV0 (C := RX12) b zs zk hE (CX12_wrong l D aC ad zk hc5) mc_X12_wrong (in7 136 rfl rfl) mi_X12_wrong ms_X12_wrong ini_RX12 ok_X12_wrong (m_recv b hE) ⟨Nat.le_of_ble_eq_true rfl, Nat.le_of_ble_eq_true rfl⟩ rfl hl.1 rfl (k_room _ (by exact Nat.le_of_ble_eq_true rfl)) ⟨Nat.le_refl _, Nat.le_refl _⟩ dX12_literal_159 (fun H locs hE => ?_)
        cases hf
        exact k_vret b hlk hr hE (Nat.le_refl _) (Nat.le_refl _) dX12_literal_162
def fX12_literal_122  (h : MS) (x1 : Int32) (x2 : Int32) : Option (MS) :=
  oB (fX12_must h 10) (fun h8 => fX12_literal_128  h8 x1 x2)
set_option maxHeartbeats 4000000 in
theorem wfX12_literal_122 {args : Array Value} (b : Bd p s m c cX12_literal 3 RX12 D aC) (hlk : meth.locks = false) (hr : meth.sig.returnType = none) {Z : State → Prop} (zs : Z s) (zk : ZOK Z (Rg ad)) {hz : MS} {h : MS} {x1 : Int32} {x2 : Int32}  {H : Heap} {locs : List Loc} {ls : Array Slot} (hf : fX12_literal_122 h x1 x2 = some hz) (hE : CE (EM D aC ad h) (Rg ad) s H locs) (hl : lv_has ls 3 [(0, .ref (ad 116)), (1, .int x1), (2, .int x2)]) : W p l e (RM 4 84 0 0) s m args below meth c H locs 0 0 (MQ below (PQ (EM D aC ad hz) (Rg ad) none) args s 0 0 (Rg ad)) (F0 m 122 ls []) := by
  unfold fX12_literal_122 at hf
  refine lv_aload_n b.1 b.2.1 dX12_literal_122 rfl (lv_at hl 0 rfl) ?_
  refine lv_bipush (v := 10) b.1 b.2.1 dX12_literal_123 (by decide) ?_
  obtain ⟨h8, hc7, hf⟩ := oB_s hf
  refine k_callV0 (C := RX12) b zs zk hE (CX12_must l D aC ad zk hc7) mc_X12_must (in7 129 rfl rfl) mi_X12_must ms_X12_must ini_RX12 ok_X12_must (m_recv b hE) ⟨Nat.le_of_ble_eq_true rfl, Nat.le_of_ble_eq_true rfl⟩ rfl hl.1 rfl (k_room _ (by exact Nat.le_of_ble_eq_true rfl)) ⟨Nat.le_refl _, Nat.le_refl _⟩ dX12_literal_125 (fun H locs hE => ?_)
  exact wfX12_literal_128 b hlk hr zs zk  hf hE (lv_sub hl [0, 1, 2] rfl)
def fX12_literal_29  (h : MS) : Option (MS) :=
  oL (mI h 11) (fun y9 => oB (fX12_must h 1) (fun h11 => if (mI h11 13) ≤ 0 then (oB2 (fX12_known h11 27 (mI h11 19) y9) (fun h15 r14 => oL (mSI h15 66 r14) (fun h16 => oL (mSI h16 68 (-1)) (fun h17 => oL (mSI h17 69 (-1)) (fun h18 => oB (fX12_is h18 9) (fun r20 => if r20 = 0 then (fX12_literal_128  h18 y9 0) else (oB (fX12_next h18 ) (fun h23 => oB2 (fX12_term h23 ) (fun h26 r25 => oL (mSI h26 68 r25) (fun h27 => oB (fX12_is h27 7) (fun r29 => if r29 = 0 then (fX12_literal_122  h27 y9 1) else (oB (fX12_next h27 ) (fun h32 => oB2 (fX12_term h32 ) (fun h35 r34 => oL (mSI h35 69 r34) (fun h36 => fX12_literal_122  h36 y9 2))))))))))))))) else (some (h11))))
set_option maxHeartbeats 4000000 in
theorem wfX12_literal_29 {args : Array Value} (b : Bd p s m c cX12_literal 3 RX12 D aC) (hlk : meth.locks = false) (hr : meth.sig.returnType = none) {Z : State → Prop} (zs : Z s) (zk : ZOK Z (Rg ad)) {hz : MS} {h : MS}  {H : Heap} {locs : List Loc} {ls : Array Slot} (hf : fX12_literal_29 h = some hz) (hE : CE (EM D aC ad h) (Rg ad) s H locs) (hl : lv_has ls 3 [(0, .ref (ad 116))]) : W p l e (RM 4 84 0 0) s m args below meth c H locs 0 0 (MQ below (PQ (EM D aC ad hz) (Rg ad) none) args s 0 0 (Rg ad)) (F0 m 29 ls []) := by
  unfold fX12_literal_29 at hf
  refine lv_aload_n b.1 b.2.1 dX12_literal_29 rfl (lv_at hl 0 rfl) ?_
  refine gM_297 b hE dX12_literal_30 ?_
  obtain ⟨y9, ey9, hf⟩ := oL_s hf
  refine k_nmI ey9 ?_
  refine lv_istore_n (lv' := [(1, .int y9), (0, .ref (ad 116))]) b.1 b.2.1 dX12_literal_33 rfl hl (by decide) rfl (fun ls hl => ?_)
  refine lv_aload_n b.1 b.2.1 dX12_literal_34 rfl (lv_at hl 1 rfl) ?_
  refine lv_iconst (v := 1) b.1 b.2.1 dX12_literal_35 (by decide) ?_
  obtain ⟨h11, hc10, hf⟩ := oB_s hf
  refine k_callV0 (C := RX12) b zs zk hE (CX12_must l D aC ad zk hc10) mc_X12_must (in7 129 rfl rfl) mi_X12_must ms_X12_must ini_RX12 ok_X12_must (m_recv b hE) ⟨Nat.le_of_ble_eq_true rfl, Nat.le_of_ble_eq_true rfl⟩ rfl hl.1 rfl (k_room _ (by exact Nat.le_of_ble_eq_true rfl)) ⟨Nat.le_refl _, Nat.le_refl _⟩ dX12_literal_36 (fun H locs hE => ?_)
  refine lv_aload_n b.1 b.2.1 dX12_literal_39 rfl (lv_at hl 1 rfl) ?_
  refine gM_294 b hE dX12_literal_40 ?_
  refine lv_if_le (tgt := 47) b.1 b.2.1 dX12_literal_43 (by decide) (fun c12 => ?_) (fun c12 => ?_)
  · have hf := oI_t c12 hf
    refine lv_aload_n b.1 b.2.1 dX12_literal_47 rfl (lv_at hl 1 rfl) ?_
    refine lv_aload_n b.1 b.2.1 dX12_literal_48 rfl (lv_at hl 1 rfl) ?_
    refine lv_aload_n b.1 b.2.1 dX12_literal_49 rfl (lv_at hl 1 rfl) ?_
    refine gM_46 b hE dX12_literal_50 ?_
    refine lv_aload_n b.1 b.2.1 dX12_literal_53 rfl (lv_at hl 1 rfl) ?_
    refine gM_341 b hE dX12_literal_54 ?_
    refine lv_iload_n b.1 b.2.1 dX12_literal_57 rfl (lv_at hl 0 rfl) ?_
    obtain ⟨h15, r14, hc13, hf⟩ := oB2_s hf
    refine k_callV0 (C := RX12) b zs zk hE (CX12_known l D aC ad zk hc13) mc_X12_known (in7 165 rfl rfl) mi_X12_known ms_X12_known ini_RX12 ok_X12_known (m_recv b hE) ⟨Nat.le_of_ble_eq_true rfl, Nat.le_of_ble_eq_true rfl⟩ rfl hl.1 rfl (k_room _ (by exact Nat.le_of_ble_eq_true rfl)) ⟨Nat.le_refl _, Nat.le_refl _⟩ dX12_literal_58 (fun H locs hE => ?_)
    obtain ⟨h16, eh16, hf⟩ := oL_s hf
    refine pM_400 b hE eh16 dX12_literal_61 (fun H locs hE => ?_)
    refine lv_aload_n b.1 b.2.1 dX12_literal_64 rfl (lv_at hl 1 rfl) ?_
    refine lv_iconst (v := (-1)) b.1 b.2.1 dX12_literal_65 (by decide) ?_
    obtain ⟨h17, eh17, hf⟩ := oL_s hf
    refine pM_407 b hE eh17 dX12_literal_66 (fun H locs hE => ?_)
    refine lv_aload_n b.1 b.2.1 dX12_literal_69 rfl (lv_at hl 1 rfl) ?_
    refine lv_iconst (v := (-1)) b.1 b.2.1 dX12_literal_70 (by decide) ?_
    obtain ⟨h18, eh18, hf⟩ := oL_s hf
    refine pM_410 b hE eh18 dX12_literal_71 (fun H locs hE => ?_)
    refine lv_iconst (v := 0) b.1 b.2.1 dX12_literal_74 (by decide) ?_
    refine lv_istore_n (lv' := [(2, .int 0), (1, .int y9), (0, .ref (ad 116))]) b.1 b.2.1 dX12_literal_75 rfl hl (by decide) rfl (fun ls hl => ?_)
    refine lv_aload_n b.1 b.2.1 dX12_literal_76 rfl (lv_at hl 2 rfl) ?_
    refine lv_bipush (v := 9) b.1 b.2.1 dX12_literal_77 (by decide) ?_
    obtain ⟨r20, hc19, hf⟩ := oB_s hf
    refine k_callV0 (C := RX12) b zs zk hE (CX12_is l D aC ad zk hc19) mc_X12_is (in7 109 rfl rfl) mi_X12_is ms_X12_is ini_RX12 ok_X12_is (m_recv b hE) ⟨Nat.le_of_ble_eq_true rfl, Nat.le_of_ble_eq_true rfl⟩ rfl hl.1 rfl (k_room _ (by exact Nat.le_of_ble_eq_true rfl)) ⟨Nat.le_refl _, Nat.le_refl _⟩ dX12_literal_79 (fun H locs hE => ?_)
    refine lv_if_eq (tgt := 128) b.1 b.2.1 dX12_literal_82 (by decide) (fun c21 => ?_) (fun c21 => ?_)
    · have hf := oI_t c21 hf
      exact wfX12_literal_128 b hlk hr zs zk  hf hE (lv_sub hl [2, 1, 0] rfl)
    · have hf := oI_f c21 hf
      refine lv_aload_n b.1 b.2.1 dX12_literal_85 rfl (lv_at hl 2 rfl) ?_
      obtain ⟨h23, hc22, hf⟩ := oB_s hf
      refine k_callV0 (C := RX12) b zs zk hE (CX12_next l D aC ad zk hc22) mc_X12_next (in7 117 rfl rfl) mi_X12_next ms_X12_next ini_RX12 ok_X12_next (m_recv b hE) ⟨Nat.le_of_ble_eq_true rfl, Nat.le_of_ble_eq_true rfl⟩ rfl hl.1 rfl (k_room _ (by exact Nat.le_of_ble_eq_true rfl)) ⟨Nat.le_refl _, Nat.le_refl _⟩ dX12_literal_86 (fun H locs hE => ?_)
      refine lv_aload_n b.1 b.2.1 dX12_literal_89 rfl (lv_at hl 2 rfl) ?_
      refine lv_aload_n b.1 b.2.1 dX12_literal_90 rfl (lv_at hl 2 rfl) ?_
      obtain ⟨h26, r25, hc24, hf⟩ := oB2_s hf
      refine k_callV0 (C := RX12) b zs zk hE (CX12_term l D aC ad zk hc24) mc_X12_term (in7 157 rfl rfl) mi_X12_term ms_X12_term ini_RX12 ok_X12_term (m_recv b hE) ⟨Nat.le_of_ble_eq_true rfl, Nat.le_of_ble_eq_true rfl⟩ rfl hl.1 rfl (k_room _ (by exact Nat.le_of_ble_eq_true rfl)) ⟨Nat.le_refl _, Nat.le_refl _⟩ dX12_literal_91 (fun H locs hE => ?_)
      obtain ⟨h27, eh27, hf⟩ := oL_s hf
      refine pM_407 b hE eh27 dX12_literal_94 (fun H locs hE => ?_)
      refine lv_iconst (v := 1) b.1 b.2.1 dX12_literal_97 (by decide) ?_
      refine lv_istore_n (lv' := [(2, .int 1), (1, .int y9), (0, .ref (ad 116))]) b.1 b.2.1 dX12_literal_98 rfl hl (by decide) rfl (fun ls hl => ?_)
      refine lv_aload_n b.1 b.2.1 dX12_literal_99 rfl (lv_at hl 2 rfl) ?_
      refine lv_bipush (v := 7) b.1 b.2.1 dX12_literal_100 (by decide) ?_
      obtain ⟨r29, hc28, hf⟩ := oB_s hf
      refine k_callV0 (C := RX12) b zs zk hE (CX12_is l D aC ad zk hc28) mc_X12_is (in7 109 rfl rfl) mi_X12_is ms_X12_is ini_RX12 ok_X12_is (m_recv b hE) ⟨Nat.le_of_ble_eq_true rfl, Nat.le_of_ble_eq_true rfl⟩ rfl hl.1 rfl (k_room _ (by exact Nat.le_of_ble_eq_true rfl)) ⟨Nat.le_refl _, Nat.le_refl _⟩ dX12_literal_102 (fun H locs hE => ?_)
      refine lv_if_eq (tgt := 122) b.1 b.2.1 dX12_literal_105 (by decide) (fun c30 => ?_) (fun c30 => ?_)
      · have hf := oI_t c30 hf
        exact wfX12_literal_122 b hlk hr zs zk  hf hE (lv_sub hl [2, 1, 0] rfl)
      · have hf := oI_f c30 hf
        refine lv_aload_n b.1 b.2.1 dX12_literal_108 rfl (lv_at hl 2 rfl) ?_
        obtain ⟨h32, hc31, hf⟩ := oB_s hf
        refine k_callV0 (C := RX12) b zs zk hE (CX12_next l D aC ad zk hc31) mc_X12_next (in7 117 rfl rfl) mi_X12_next ms_X12_next ini_RX12 ok_X12_next (m_recv b hE) ⟨Nat.le_of_ble_eq_true rfl, Nat.le_of_ble_eq_true rfl⟩ rfl hl.1 rfl (k_room _ (by exact Nat.le_of_ble_eq_true rfl)) ⟨Nat.le_refl _, Nat.le_refl _⟩ dX12_literal_109 (fun H locs hE => ?_)
        refine lv_aload_n b.1 b.2.1 dX12_literal_112 rfl (lv_at hl 2 rfl) ?_
        refine lv_aload_n b.1 b.2.1 dX12_literal_113 rfl (lv_at hl 2 rfl) ?_
        obtain ⟨h35, r34, hc33, hf⟩ := oB2_s hf
        refine k_callV0 (C := RX12) b zs zk hE (CX12_term l D aC ad zk hc33) mc_X12_term (in7 157 rfl rfl) mi_X12_term ms_X12_term ini_RX12 ok_X12_term (m_recv b hE) ⟨Nat.le_of_ble_eq_true rfl, Nat.le_of_ble_eq_true rfl⟩ rfl hl.1 rfl (k_room _ (by exact Nat.le_of_ble_eq_true rfl)) ⟨Nat.le_refl _, Nat.le_refl _⟩ dX12_literal_114 (fun H locs hE => ?_)
        obtain ⟨h36, eh36, hf⟩ := oL_s hf
        refine pM_410 b hE eh36 dX12_literal_117 (fun H locs hE => ?_)
        refine lv_iconst (v := 2) b.1 b.2.1 dX12_literal_120 (by decide) ?_
        refine lv_istore_n (lv' := [(2, .int 2), (1, .int y9), (0, .ref (ad 116))]) b.1 b.2.1 dX12_literal_121 rfl hl (by decide) rfl (fun ls hl => ?_)
        exact wfX12_literal_122 b hlk hr zs zk  hf hE (lv_sub hl [2, 1, 0] rfl)
  · have hf := oI_f c12 hf
    cases hf
    exact k_vret b hlk hr hE (Nat.le_refl _) (Nat.le_refl _) dX12_literal_46
def fX12_literal_15  (h : MS) (s0 : Int32) : Option (MS) :=
  oC (isB s0) (oL (mSI h 67 s0) (fun h38 => if (mI h38 67) = 0 then (oB (fX12_next h38 ) (fun h41 => fX12_literal_29  h41)) else (fX12_literal_29  h38)))
set_option maxHeartbeats 4000000 in
theorem wfX12_literal_15 {args : Array Value} (b : Bd p s m c cX12_literal 3 RX12 D aC) (hlk : meth.locks = false) (hr : meth.sig.returnType = none) {Z : State → Prop} (zs : Z s) (zk : ZOK Z (Rg ad)) {hz : MS} {h : MS} {s0 : Int32}  {H : Heap} {locs : List Loc} {ls : Array Slot} (hf : fX12_literal_15 h s0 = some hz) (hE : CE (EM D aC ad h) (Rg ad) s H locs) (hl : lv_has ls 3 [(0, .ref (ad 116))]) : W p l e (RM 4 84 0 0) s m args below meth c H locs 0 0 (MQ below (PQ (EM D aC ad hz) (Rg ad) none) args s 0 0 (Rg ad)) (F0 m 15 ls [.int s0, .ref (ad 116)]) := by
  unfold fX12_literal_15 at hf
  obtain ⟨g37, hf⟩ := oC_s hf
  obtain ⟨h38, eh38, hf⟩ := oL_s hf
  refine pM_403 b hE g37 eh38 dX12_literal_15 (fun H locs hE => ?_)
  refine lv_aload_n b.1 b.2.1 dX12_literal_18 rfl (lv_at hl 0 rfl) ?_
  refine gM_403 b hE dX12_literal_19 ?_
  refine lv_if_ne (tgt := 29) b.1 b.2.1 dX12_literal_22 (by decide) (fun c39 => ?_) (fun c39 => ?_)
  · have hf := oI_f c39 hf
    exact wfX12_literal_29 b hlk hr zs zk  hf hE (lv_sub hl [0] rfl)
  · have hf := oI_t c39 hf
    refine lv_aload_n b.1 b.2.1 dX12_literal_25 rfl (lv_at hl 0 rfl) ?_
    obtain ⟨h41, hc40, hf⟩ := oB_s hf
    refine k_callV0 (C := RX12) b zs zk hE (CX12_next l D aC ad zk hc40) mc_X12_next (in7 117 rfl rfl) mi_X12_next ms_X12_next ini_RX12 ok_X12_next (m_recv b hE) ⟨Nat.le_of_ble_eq_true rfl, Nat.le_of_ble_eq_true rfl⟩ rfl hl.1 rfl (k_room _ (by exact Nat.le_of_ble_eq_true rfl)) ⟨Nat.le_refl _, Nat.le_refl _⟩ dX12_literal_26 (fun H locs hE => ?_)
    exact wfX12_literal_29 b hlk hr zs zk  hf hE (lv_sub hl [0] rfl)
def fX12_literal_0  (h : MS) : Option (MS) :=
  oB (fX12_is h 35) (fun r43 => if r43 = 0 then (fX12_literal_15  h 1) else (fX12_literal_15  h 0))
set_option maxHeartbeats 4000000 in
theorem wfX12_literal_0 {args : Array Value} (b : Bd p s m c cX12_literal 3 RX12 D aC) (hlk : meth.locks = false) (hr : meth.sig.returnType = none) {Z : State → Prop} (zs : Z s) (zk : ZOK Z (Rg ad)) {hz : MS} {h : MS}  {H : Heap} {locs : List Loc} {ls : Array Slot} (hf : fX12_literal_0 h = some hz) (hE : CE (EM D aC ad h) (Rg ad) s H locs) (hl : lv_has ls 3 [(0, .ref (ad 116))]) : W p l e (RM 4 84 0 0) s m args below meth c H locs 0 0 (MQ below (PQ (EM D aC ad hz) (Rg ad) none) args s 0 0 (Rg ad)) (F0 m 0 ls []) := by
  unfold fX12_literal_0 at hf
  refine lv_aload_n b.1 b.2.1 dX12_literal_0 rfl (lv_at hl 0 rfl) ?_
  refine lv_aload_n b.1 b.2.1 dX12_literal_1 rfl (lv_at hl 0 rfl) ?_
  refine lv_bipush (v := 35) b.1 b.2.1 dX12_literal_2 (by decide) ?_
  obtain ⟨r43, hc42, hf⟩ := oB_s hf
  refine k_callV0 (C := RX12) b zs zk hE (CX12_is l D aC ad zk hc42) mc_X12_is (in7 109 rfl rfl) mi_X12_is ms_X12_is ini_RX12 ok_X12_is (m_recv b hE) ⟨Nat.le_of_ble_eq_true rfl, Nat.le_of_ble_eq_true rfl⟩ rfl hl.1 rfl (k_room _ (by exact Nat.le_of_ble_eq_true rfl)) ⟨Nat.le_refl _, Nat.le_refl _⟩ dX12_literal_4 (fun H locs hE => ?_)
  refine lv_if_ne (tgt := 14) b.1 b.2.1 dX12_literal_7 (by decide) (fun c44 => ?_) (fun c44 => ?_)
  · have hf := oI_f c44 hf
    refine lv_iconst (v := 0) b.1 b.2.1 dX12_literal_14 (by decide) ?_
    exact wfX12_literal_15 b hlk hr zs zk  hf hE (lv_sub hl [0] rfl)
  · have hf := oI_t c44 hf
    refine lv_iconst (v := 1) b.1 b.2.1 dX12_literal_10 (by decide) ?_
    refine lv_goto (tgt := 15) b.1 b.2.1 dX12_literal_11 (by decide) ?_
    exact wfX12_literal_15 b hlk hr zs zk  hf hE (lv_sub hl [0] rfl)
def fX12_literal (h : MS) : Option (MS) := fX12_literal_0 h 
set_option maxHeartbeats 4000000 in
theorem CX12_literal (l : Launch) (D : va_G) (aC : Nat → ClassId) (ad : Nat → Nat) {Z : State → Prop} (zk : ZOK Z (Rg ad)) {h : MS} {hz : MS} (hf : fX12_literal h = some hz) : CM l D aC Z yX12_literal cX12_literal 3 (none) 4 84 0 0 (EM D aC ad h) [.ref (ad 116)] (EM D aC ad hz) none (Rg ad) := by
  refine CM.of rfl ?_
  intro p e s m below meth c b hr hlk hin2 zs hE
  refine k_ent (Nat.le_of_ble_eq_true rfl) (fun ls hl => ?_)
  exact wfX12_literal_0 b hlk hr zs zk hf hE (lv_sub hl [0] rfl)
end
