section
variable {p : Program} {l : Launch} {e : Env} {s : State} {m : MethodId} {below : List Frame} {meth : Method} {c : Code} {D : va_G} {aC : Nat → ClassId} {ad : Nat → Nat}
theorem dX4_expect_0 : decode cX4_expect 0 = .ok (.aload_n 0, 1) := by decide +kernel
theorem dX4_expect_1 : decode cX4_expect 1 = .ok (.getfield 60, 3) := by decide +kernel
theorem dX4_expect_4 : decode cX4_expect 4 = .ok (.iload_n 1, 1) := by decide +kernel
theorem dX4_expect_5 : decode cX4_expect 5 = .ok (.if_icmp .eq 10, 3) := by decide +kernel
theorem dX4_expect_8 : decode cX4_expect 8 = .ok (.aload_n 0, 1) := by decide +kernel
theorem dX4_expect_9 : decode cX4_expect 9 = .ok (.iconst 1, 1) := by decide +kernel
theorem dX4_expect_10 : decode cX4_expect 10 = .ok (.invokevirtual 89, 3) := by decide +kernel
theorem dX4_expect_13 : decode cX4_expect 13 = .ok (.iconst 0, 1) := by decide +kernel
theorem dX4_expect_14 : decode cX4_expect 14 = .ok (.ireturn, 1) := by decide +kernel
theorem dX4_expect_15 : decode cX4_expect 15 = .ok (.aload_n 0, 1) := by decide +kernel
theorem dX4_expect_16 : decode cX4_expect 16 = .ok (.getfield 146, 3) := by decide +kernel
theorem dX4_expect_19 : decode cX4_expect 19 = .ok (.sipush 1200, 3) := by decide +kernel
theorem dX4_expect_22 : decode cX4_expect 22 = .ok (.if_icmp .lt 10, 3) := by decide +kernel
theorem dX4_expect_25 : decode cX4_expect 25 = .ok (.aload_n 0, 1) := by decide +kernel
theorem dX4_expect_26 : decode cX4_expect 26 = .ok (.iconst 2, 1) := by decide +kernel
theorem dX4_expect_27 : decode cX4_expect 27 = .ok (.invokevirtual 89, 3) := by decide +kernel
theorem dX4_expect_30 : decode cX4_expect 30 = .ok (.iconst 0, 1) := by decide +kernel
theorem dX4_expect_31 : decode cX4_expect 31 = .ok (.ireturn, 1) := by decide +kernel
theorem dX4_expect_32 : decode cX4_expect 32 = .ok (.aload_n 0, 1) := by decide +kernel
theorem dX4_expect_33 : decode cX4_expect 33 = .ok (.aload_n 0, 1) := by decide +kernel
theorem dX4_expect_34 : decode cX4_expect 34 = .ok (.getfield 146, 3) := by decide +kernel
theorem dX4_expect_37 : decode cX4_expect 37 = .ok (.iconst 1, 1) := by decide +kernel
theorem dX4_expect_38 : decode cX4_expect 38 = .ok (.iadd, 1) := by decide +kernel
theorem dX4_expect_39 : decode cX4_expect 39 = .ok (.invokevirtual 56, 3) := by decide +kernel
theorem dX4_expect_42 : decode cX4_expect 42 = .ok (.iconst 1, 1) := by decide +kernel
theorem dX4_expect_43 : decode cX4_expect 43 = .ok (.ireturn, 1) := by decide +kernel
def fX4_expect_0  (h : PH) (x0 : Nat) (x1 : Int32) : Option (PH × Int32) :=
  oC (decide (hT h x0 = 5)) (if (hI h 521 x0) = x1 then (if (hI h 520 x0) < 1200 then (oB (fX4_lookAt h x0 ((hI h 520 x0) + 1)) (fun h5 => some (h5, 1))) else (oB (fX4_stopAt h x0 2) (fun h7 => some (h7, 0)))) else (oB (fX4_stopAt h x0 1) (fun h9 => some (h9, 0))))
set_option maxHeartbeats 4000000 in
theorem wfX4_expect_0 {args : Array Value} (b : Bd p s m c cX4_expect 2 RX4 D aC) (hlk : meth.locks = false) (hr : meth.sig.returnType = some .boolean) {Z : State → Prop} (zs : Z s) (zk : ZOK Z (Rg ad)) {hz : PH} {rz : Int32} {h : PH} {x0 : Nat} {x1 : Int32}  {H : Heap} {locs : List Loc} {ls : Array Slot} (hf : fX4_expect_0 h x0 x1 = some (hz, rz)) (hE : CE (EX D aC ad h) (Rg ad) s H locs) (hl : lv_has ls 2 [(0, .ref (ad x0)), (1, .int x1)]) : W p l e (RM 1 22 0 0) s m args below meth c H locs 0 0 (MQ below (PQ (EX D aC ad hz) (Rg ad) (some (.int rz))) args s 0 0 (Rg ad)) (F0 m 0 ls []) := by
  unfold fX4_expect_0 at hf
  refine lv_aload_n b.1 b.2.1 dX4_expect_0 rfl (lv_at hl 0 rfl) ?_
  obtain ⟨t1, hf⟩ := oC_s hf
  have t1 := of_decide_eq_true t1
  refine gX4_60 (x := (some x0)) b hE rfl t1 dX4_expect_1 ?_
  refine lv_iload_n b.1 b.2.1 dX4_expect_4 rfl (lv_at hl 1 rfl) ?_
  refine lv_icmp_eq (tgt := 15) b.1 b.2.1 dX4_expect_5 (by decide) (fun c2 => ?_) (fun c2 => ?_)
  · have hf := oI_t c2 hf
    refine lv_aload_n b.1 b.2.1 dX4_expect_15 rfl (lv_at hl 0 rfl) ?_
    refine gX4_146 (x := (some x0)) b hE rfl t1 dX4_expect_16 ?_
    refine lv_sipush (v := 1200) b.1 b.2.1 dX4_expect_19 (by decide) ?_
    refine lv_icmp_lt (tgt := 32) b.1 b.2.1 dX4_expect_22 (by decide) (fun c3 => ?_) (fun c3 => ?_)
    · have hf := oI_t c3 hf
      refine lv_aload_n b.1 b.2.1 dX4_expect_32 rfl (lv_at hl 0 rfl) ?_
      refine lv_aload_n b.1 b.2.1 dX4_expect_33 rfl (lv_at hl 0 rfl) ?_
      refine gX4_146 (x := (some x0)) b hE rfl t1 dX4_expect_34 ?_
      refine lv_iconst (v := 1) b.1 b.2.1 dX4_expect_37 (by decide) ?_
      refine lv_iadd b.1 b.2.1 dX4_expect_38 ?_
      obtain ⟨h5, hc4, hf⟩ := oB_s hf
      refine k_callV0 (C := RX4) b zs zk hE (CX4_lookAt l D aC ad zk hc4) mc_X4_lookAt (in2 163 rfl rfl) mi_X4_lookAt ms_X4_lookAt ini_RX4 ok_X4_lookAt (x_recv b hE (ci := 4) rfl (by decide) t1) ⟨Nat.le_of_ble_eq_true rfl, Nat.le_of_ble_eq_true rfl⟩ rfl hl.1 rfl (k_room _ (by exact Nat.le_of_ble_eq_true rfl)) ⟨Nat.le_refl _, Nat.le_refl _⟩ dX4_expect_39 (fun H locs hE => ?_)
      refine lv_iconst (v := 1) b.1 b.2.1 dX4_expect_42 (by decide) ?_
      cases hf
      exact k_zret b hlk hr (by decide) hE (Nat.le_refl _) (Nat.le_refl _) dX4_expect_43
    · have hf := oI_f c3 hf
      refine lv_aload_n b.1 b.2.1 dX4_expect_25 rfl (lv_at hl 0 rfl) ?_
      refine lv_iconst (v := 2) b.1 b.2.1 dX4_expect_26 (by decide) ?_
      obtain ⟨h7, hc6, hf⟩ := oB_s hf
      refine k_callV0 (C := RX4) b zs zk hE (CX4_stopAt l D aC ad zk hc6) mc_X4_stopAt (in2 183 rfl rfl) mi_X4_stopAt ms_X4_stopAt ini_RX4 ok_X4_stopAt (x_recv b hE (ci := 4) rfl (by decide) t1) ⟨Nat.le_of_ble_eq_true rfl, Nat.le_of_ble_eq_true rfl⟩ rfl hl.1 rfl (k_room _ (by exact Nat.le_of_ble_eq_true rfl)) ⟨Nat.le_refl _, Nat.le_refl _⟩ dX4_expect_27 (fun H locs hE => ?_)
      refine lv_iconst (v := 0) b.1 b.2.1 dX4_expect_30 (by decide) ?_
      cases hf
      exact k_zret b hlk hr (by decide) hE (Nat.le_refl _) (Nat.le_refl _) dX4_expect_31
  · have hf := oI_f c2 hf
    refine lv_aload_n b.1 b.2.1 dX4_expect_8 rfl (lv_at hl 0 rfl) ?_
    refine lv_iconst (v := 1) b.1 b.2.1 dX4_expect_9 (by decide) ?_
    obtain ⟨h9, hc8, hf⟩ := oB_s hf
    refine k_callV0 (C := RX4) b zs zk hE (CX4_stopAt l D aC ad zk hc8) mc_X4_stopAt (in2 183 rfl rfl) mi_X4_stopAt ms_X4_stopAt ini_RX4 ok_X4_stopAt (x_recv b hE (ci := 4) rfl (by decide) t1) ⟨Nat.le_of_ble_eq_true rfl, Nat.le_of_ble_eq_true rfl⟩ rfl hl.1 rfl (k_room _ (by exact Nat.le_of_ble_eq_true rfl)) ⟨Nat.le_refl _, Nat.le_refl _⟩ dX4_expect_10 (fun H locs hE => ?_)
    refine lv_iconst (v := 0) b.1 b.2.1 dX4_expect_13 (by decide) ?_
    cases hf
    exact k_zret b hlk hr (by decide) hE (Nat.le_refl _) (Nat.le_refl _) dX4_expect_14
def fX4_expect (h : PH) (x0 : Nat) (x1 : Int32) : Option (PH × Int32) := fX4_expect_0 h x0 x1
set_option maxHeartbeats 4000000 in
theorem CX4_expect (l : Launch) (D : va_G) (aC : Nat → ClassId) (ad : Nat → Nat) {Z : State → Prop} (zk : ZOK Z (Rg ad)) {h : PH} {x0 : Nat} {x1 : Int32} {hz : PH} {rz : Int32} (hf : fX4_expect h x0 x1 = some (hz, rz)) : CM l D aC Z yX4_expect cX4_expect 2 (some .boolean) 1 22 0 0 (EX D aC ad h) [.ref (ad x0), .int x1] (EX D aC ad hz) (some (.int rz)) (Rg ad) := by
  refine CM.of rfl ?_
  intro p e s m below meth c b hr hlk hin2 zs hE
  refine k_ent (Nat.le_of_ble_eq_true rfl) (fun ls hl => ?_)
  exact wfX4_expect_0 b hlk hr zs zk hf hE (lv_sub hl [0, 1] rfl)
theorem dX7_isFull_0 : decode cX7_isFull 0 = .ok (.aload_n 0, 1) := by decide +kernel
theorem dX7_isFull_1 : decode cX7_isFull 1 = .ok (.getfield 21, 3) := by decide +kernel
theorem dX7_isFull_4 : decode cX7_isFull 4 = .ok (.aload_n 0, 1) := by decide +kernel
theorem dX7_isFull_5 : decode cX7_isFull 5 = .ok (.getfield 15, 3) := by decide +kernel
theorem dX7_isFull_8 : decode cX7_isFull 8 = .ok (.arraylength, 1) := by decide +kernel
theorem dX7_isFull_9 : decode cX7_isFull 9 = .ok (.if_icmp .lt 7, 3) := by decide +kernel
theorem dX7_isFull_12 : decode cX7_isFull 12 = .ok (.iconst 1, 1) := by decide +kernel
theorem dX7_isFull_13 : decode cX7_isFull 13 = .ok (.goto 4, 3) := by decide +kernel
theorem dX7_isFull_16 : decode cX7_isFull 16 = .ok (.iconst 0, 1) := by decide +kernel
theorem dX7_isFull_17 : decode cX7_isFull 17 = .ok (.ireturn, 1) := by decide +kernel
def fX7_isFull_0  (h : PH) (x0 : Nat) : Option (Int32) :=
  oC (decide (hT h x0 = 8)) (oN (hR h 896 x0) (fun a2 => oC (decide (hT h a2 = 102)) (if (hI h 897 x0) < (nI (hN h a2)) then (some (0)) else (some (1)))))
set_option maxHeartbeats 4000000 in
theorem wfX7_isFull_0 {args : Array Value} (b : Bd p s m c cX7_isFull 1 RX7 D aC) (hlk : meth.locks = false) (hr : meth.sig.returnType = some .boolean) {Z : State → Prop} (zs : Z s) (zk : ZOK Z (Rg ad)) {rz : Int32} {h : PH} {x0 : Nat}  {H : Heap} {locs : List Loc} {ls : Array Slot} (hf : fX7_isFull_0 h x0 = some rz) (hE : CE (EX D aC ad h) (Rg ad) s H locs) (hl : lv_has ls 1 [(0, .ref (ad x0))]) : W p l e (RM 0 0 0 0) s m args below meth c H locs 0 0 (MQ below (PQ (EX D aC ad h) (Rg ad) (some (.int rz))) args s 0 0 (Rg ad)) (F0 m 0 ls []) := by
  unfold fX7_isFull_0 at hf
  refine lv_aload_n b.1 b.2.1 dX7_isFull_0 rfl (lv_at hl 0 rfl) ?_
  obtain ⟨t1, hf⟩ := oC_s hf
  have t1 := of_decide_eq_true t1
  refine gX7_21 (x := (some x0)) b hE rfl t1 dX7_isFull_1 ?_
  refine lv_aload_n b.1 b.2.1 dX7_isFull_4 rfl (lv_at hl 0 rfl) ?_
  refine gX7_15 (x := (some x0)) b hE rfl t1 dX7_isFull_5 ?_
  obtain ⟨a2, ea2, hf⟩ := oN_s hf
  obtain ⟨t3, hf⟩ := oC_s hf
  have t3 := of_decide_eq_true t3
  refine q_alen (x := (hR h 896 x0)) (k := 2) b hE ea2 (by decide) t3 dX7_isFull_8 ?_
  refine lv_icmp_lt (tgt := 16) b.1 b.2.1 dX7_isFull_9 (by decide) (fun c4 => ?_) (fun c4 => ?_)
  · have hf := oI_t c4 hf
    refine lv_iconst (v := 0) b.1 b.2.1 dX7_isFull_16 (by decide) ?_
    cases hf
    exact k_zret b hlk hr (by decide) hE (Nat.le_refl _) (Nat.le_refl _) dX7_isFull_17
  · have hf := oI_f c4 hf
    refine lv_iconst (v := 1) b.1 b.2.1 dX7_isFull_12 (by decide) ?_
    refine lv_goto (tgt := 17) b.1 b.2.1 dX7_isFull_13 (by decide) ?_
    cases hf
    exact k_zret b hlk hr (by decide) hE (Nat.le_refl _) (Nat.le_refl _) dX7_isFull_17
def fX7_isFull (h : PH) (x0 : Nat) : Option (Int32) := fX7_isFull_0 h x0
set_option maxHeartbeats 4000000 in
theorem CX7_isFull (l : Launch) (D : va_G) (aC : Nat → ClassId) (ad : Nat → Nat) {Z : State → Prop} (zk : ZOK Z (Rg ad)) {h : PH} {x0 : Nat} {rz : Int32} (hf : fX7_isFull h x0 = some rz) : CM l D aC Z yX7_isFull cX7_isFull 1 (some .boolean) 0 0 0 0 (EX D aC ad h) [.ref (ad x0)] (EX D aC ad h) (some (.int rz)) (Rg ad) := by
  refine CM.of rfl ?_
  intro p e s m below meth c b hr hlk hin2 zs hE
  refine k_ent (Nat.le_of_ble_eq_true rfl) (fun ls hl => ?_)
  exact wfX7_isFull_0 b hlk hr zs zk hf hE (lv_sub hl [0] rfl)
theorem dX7_find_0 : decode cX7_find 0 = .ok (.iconst 0, 1) := by decide +kernel
theorem dX7_find_1 : decode cX7_find 1 = .ok (.istore_n 3, 1) := by decide +kernel
theorem dX7_find_2 : decode cX7_find 2 = .ok (.iload_n 3, 1) := by decide +kernel
theorem dX7_find_3 : decode cX7_find 3 = .ok (.aload_n 0, 1) := by decide +kernel
theorem dX7_find_4 : decode cX7_find 4 = .ok (.getfield 21, 3) := by decide +kernel
theorem dX7_find_7 : decode cX7_find 7 = .ok (.if_icmp .ge 22, 3) := by decide +kernel
theorem dX7_find_10 : decode cX7_find 10 = .ok (.aload_n 0, 1) := by decide +kernel
theorem dX7_find_11 : decode cX7_find 11 = .ok (.getfield 15, 3) := by decide +kernel
theorem dX7_find_14 : decode cX7_find 14 = .ok (.iload_n 3, 1) := by decide +kernel
theorem dX7_find_15 : decode cX7_find 15 = .ok (.laload, 1) := by decide +kernel
theorem dX7_find_16 : decode cX7_find 16 = .ok (.lload_n 1, 1) := by decide +kernel
theorem dX7_find_17 : decode cX7_find 17 = .ok (.lcmp, 1) := by decide +kernel
theorem dX7_find_18 : decode cX7_find 18 = .ok (.ifCond .ne 5, 3) := by decide +kernel
theorem dX7_find_21 : decode cX7_find 21 = .ok (.iload_n 3, 1) := by decide +kernel
theorem dX7_find_22 : decode cX7_find 22 = .ok (.ireturn, 1) := by decide +kernel
theorem dX7_find_23 : decode cX7_find 23 = .ok (.iinc 3 1, 3) := by decide +kernel
theorem dX7_find_26 : decode cX7_find 26 = .ok (.goto (-24), 3) := by decide +kernel
theorem dX7_find_29 : decode cX7_find 29 = .ok (.iconst (-1), 1) := by decide +kernel
theorem dX7_find_30 : decode cX7_find 30 = .ok (.ireturn, 1) := by decide +kernel
def fX7_find_2F (k2 : PH → Nat → Int64 → Int32 → Option (Int32)) (h : PH) (x0 : Nat) (x1 : Int64) (x3 : Int32) : Option (Int32) :=
  oC (decide (hT h x0 = 8)) (if (hI h 897 x0) ≤ x3 then (some ((-1))) else (oN (hR h 896 x0) (fun a3 => oC (decide (hT h a3 = 102)) (oC (ix x3 (hN h a3)) (if (lg_cmp (hB h a3 (Int32.toNatClampNeg x3)) x1) = 0 then (some (x3)) else (oL (x3 + 1) (fun y7 => k2 h x0 x1 y7)))))))
set_option maxHeartbeats 4000000 in
theorem wfX7_find_2F {args : Array Value} (b : Bd p s m c cX7_find 4 RX7 D aC) (hlk : meth.locks = false) (hr : meth.sig.returnType = some .int) {Z : State → Prop} (zs : Z s) (zk : ZOK Z (Rg ad)) {rz : Int32} {k2 : PH → Nat → Int64 → Int32 → Option (Int32)} (H2 : ∀ (h : PH) (x0 : Nat) (x1 : Int64) (x3 : Int32), ∀ (H : Heap) (locs : List Loc) (ls : Array Slot), k2 h x0 x1 x3 = some rz → CE (EX D aC ad h) (Rg ad) s H locs → lv_has ls 4 [(0, .ref (ad x0)), (1, .long x1), (3, .int x3)] → W p l e (RM 0 0 0 0) s m args below meth c H locs 0 0 (MQ below (PQ (EX D aC ad h) (Rg ad) (some (.int rz))) args s 0 0 (Rg ad)) (F0 m 2 ls [])) {h : PH} {x0 : Nat} {x1 : Int64} {x3 : Int32}  {H : Heap} {locs : List Loc} {ls : Array Slot} (hf : fX7_find_2F k2 h x0 x1 x3 = some rz) (hE : CE (EX D aC ad h) (Rg ad) s H locs) (hl : lv_has ls 4 [(0, .ref (ad x0)), (1, .long x1), (3, .int x3)]) : W p l e (RM 0 0 0 0) s m args below meth c H locs 0 0 (MQ below (PQ (EX D aC ad h) (Rg ad) (some (.int rz))) args s 0 0 (Rg ad)) (F0 m 2 ls []) := by
  unfold fX7_find_2F at hf
  refine lv_iload_n b.1 b.2.1 dX7_find_2 rfl (lv_at hl 2 rfl) ?_
  refine lv_aload_n b.1 b.2.1 dX7_find_3 rfl (lv_at hl 0 rfl) ?_
  obtain ⟨t1, hf⟩ := oC_s hf
  have t1 := of_decide_eq_true t1
  refine gX7_21 (x := (some x0)) b hE rfl t1 dX7_find_4 ?_
  refine lv_icmp_ge (tgt := 29) b.1 b.2.1 dX7_find_7 (by decide) (fun c2 => ?_) (fun c2 => ?_)
  · have hf := oI_t c2 hf
    refine lv_iconst (v := (-1)) b.1 b.2.1 dX7_find_29 (by decide) ?_
    cases hf
    exact k_iret b hlk hr hE (Nat.le_refl _) (Nat.le_refl _) dX7_find_30
  · have hf := oI_f c2 hf
    refine lv_aload_n b.1 b.2.1 dX7_find_10 rfl (lv_at hl 0 rfl) ?_
    refine gX7_15 (x := (some x0)) b hE rfl t1 dX7_find_11 ?_
    refine lv_iload_n b.1 b.2.1 dX7_find_14 rfl (lv_at hl 2 rfl) ?_
    obtain ⟨a3, ea3, hf⟩ := oN_s hf
    obtain ⟨t4, hf⟩ := oC_s hf
    have t4 := of_decide_eq_true t4
    obtain ⟨g5, hf⟩ := oC_s hf
    refine q_lald (x := (hR h 896 x0)) b hE ea3 t4 g5 dX7_find_15 ?_
    refine lv_lload_n b.1 b.2.1 dX7_find_16 rfl (lv_at hl 1 rfl) ?_
    refine W.lcmp b.1 b.2.1 dX7_find_17 ?_
    refine lv_if_ne (tgt := 23) b.1 b.2.1 dX7_find_18 (by decide) (fun c6 => ?_) (fun c6 => ?_)
    · have hf := oI_f c6 hf
      obtain ⟨y7, ey7, hf⟩ := oL_s hf
      refine lv_iinc (v := y7) (lv' := [(3, .int y7), (0, .ref (ad x0)), (1, .long x1)]) b.1 b.2.1 dX7_find_23 hl (k := 2) rfl (by rw [ey7]; rfl) (by decide) rfl (fun ls hl => ?_)
      refine lv_goto (tgt := 2) b.1 b.2.1 dX7_find_26 (by decide) ?_
      exact H2 h x0 x1 y7 _ _ _ hf hE (lv_sub hl [1, 2, 0] rfl)
    · have hf := oI_t c6 hf
      refine lv_iload_n b.1 b.2.1 dX7_find_21 rfl (lv_at hl 2 rfl) ?_
      cases hf
      exact k_iret b hlk hr hE (Nat.le_refl _) (Nat.le_refl _) dX7_find_22
def fX7_find_2  : Nat → PH → Nat → Int64 → Int32 → Option (Int32)
  | 0 => fun _ _ _ _ => none
  | n + 1 => fX7_find_2F  (fX7_find_2  n)
set_option maxHeartbeats 4000000 in
theorem wfX7_find_2 {args : Array Value} (b : Bd p s m c cX7_find 4 RX7 D aC) (hlk : meth.locks = false) (hr : meth.sig.returnType = some .int) {Z : State → Prop} (zs : Z s) (zk : ZOK Z (Rg ad)) {rz : Int32} : ∀ n : Nat, ∀ (h : PH) (x0 : Nat) (x1 : Int64) (x3 : Int32), ∀ (H : Heap) (locs : List Loc) (ls : Array Slot), fX7_find_2  n h x0 x1 x3 = some rz → CE (EX D aC ad h) (Rg ad) s H locs → lv_has ls 4 [(0, .ref (ad x0)), (1, .long x1), (3, .int x3)] → W p l e (RM 0 0 0 0) s m args below meth c H locs 0 0 (MQ below (PQ (EX D aC ad h) (Rg ad) (some (.int rz))) args s 0 0 (Rg ad)) (F0 m 2 ls []) := by
  intro n
  induction n with
  | zero =>
    intro h x0 x1 x3 H locs ls hf
    have hf : (none : Option (Int32)) = some _ := hf
    cases hf
  | succ n ih =>
    intro h x0 x1 x3 H locs ls hf hE hl
    exact wfX7_find_2F b hlk hr zs zk  ih hf hE hl
def fX7_find_0  (h : PH) (x0 : Nat) (x1 : Int64) : Option (Int32) :=
  fX7_find_2  FU h x0 x1 0
set_option maxHeartbeats 4000000 in
theorem wfX7_find_0 {args : Array Value} (b : Bd p s m c cX7_find 4 RX7 D aC) (hlk : meth.locks = false) (hr : meth.sig.returnType = some .int) {Z : State → Prop} (zs : Z s) (zk : ZOK Z (Rg ad)) {rz : Int32} {h : PH} {x0 : Nat} {x1 : Int64}  {H : Heap} {locs : List Loc} {ls : Array Slot} (hf : fX7_find_0 h x0 x1 = some rz) (hE : CE (EX D aC ad h) (Rg ad) s H locs) (hl : lv_has ls 4 [(0, .ref (ad x0)), (1, .long x1)]) : W p l e (RM 0 0 0 0) s m args below meth c H locs 0 0 (MQ below (PQ (EX D aC ad h) (Rg ad) (some (.int rz))) args s 0 0 (Rg ad)) (F0 m 0 ls []) := by
  unfold fX7_find_0 at hf
  refine lv_iconst (v := 0) b.1 b.2.1 dX7_find_0 (by decide) ?_
  refine lv_istore_n (lv' := [(3, .int 0), (0, .ref (ad x0)), (1, .long x1)]) b.1 b.2.1 dX7_find_1 rfl hl (by decide) rfl (fun ls hl => ?_)
  exact wfX7_find_2 b hlk hr zs zk  FU h x0 x1 0 _ _ _ hf hE (lv_sub hl [1, 2, 0] rfl)
def fX7_find (h : PH) (x0 : Nat) (x1 : Int64) : Option (Int32) := fX7_find_0 h x0 x1
set_option maxHeartbeats 4000000 in
theorem CX7_find (l : Launch) (D : va_G) (aC : Nat → ClassId) (ad : Nat → Nat) {Z : State → Prop} (zk : ZOK Z (Rg ad)) {h : PH} {x0 : Nat} {x1 : Int64} {rz : Int32} (hf : fX7_find h x0 x1 = some rz) : CM l D aC Z yX7_find cX7_find 4 (some .int) 0 0 0 0 (EX D aC ad h) [.ref (ad x0), .long x1] (EX D aC ad h) (some (.int rz)) (Rg ad) := by
  refine CM.of rfl ?_
  intro p e s m below meth c b hr hlk hin2 zs hE
  refine k_ent (Nat.le_of_ble_eq_true rfl) (fun ls hl => ?_)
  exact wfX7_find_0 b hlk hr zs zk hf hE (lv_sub hl [0, 1] rfl)
theorem dX4_note_0 : decode cX4_note 0 = .ok (.aload_n 0, 1) := by decide +kernel
theorem dX4_note_1 : decode cX4_note 1 = .ok (.getfield 50, 3) := by decide +kernel
theorem dX4_note_4 : decode cX4_note 4 = .ok (.ifCond .eq 27, 3) := by decide +kernel
theorem dX4_note_7 : decode cX4_note 7 = .ok (.iload_n 2, 1) := by decide +kernel
theorem dX4_note_8 : decode cX4_note 8 = .ok (.aload_n 0, 1) := by decide +kernel
theorem dX4_note_9 : decode cX4_note 9 = .ok (.getfield 53, 3) := by decide +kernel
theorem dX4_note_12 : decode cX4_note 12 = .ok (.if_icmp .lt 19, 3) := by decide +kernel
theorem dX4_note_15 : decode cX4_note 15 = .ok (.iload_n 2, 1) := by decide +kernel
theorem dX4_note_16 : decode cX4_note 16 = .ok (.aload_n 0, 1) := by decide +kernel
theorem dX4_note_17 : decode cX4_note 17 = .ok (.getfield 53, 3) := by decide +kernel
theorem dX4_note_20 : decode cX4_note 20 = .ok (.if_icmp .ne 21, 3) := by decide +kernel
theorem dX4_note_23 : decode cX4_note 23 = .ok (.iload_n 1, 1) := by decide +kernel
theorem dX4_note_24 : decode cX4_note 24 = .ok (.aload_n 0, 1) := by decide +kernel
theorem dX4_note_25 : decode cX4_note 25 = .ok (.getfield 50, 3) := by decide +kernel
theorem dX4_note_28 : decode cX4_note 28 = .ok (.if_icmp .ge 13, 3) := by decide +kernel
theorem dX4_note_31 : decode cX4_note 31 = .ok (.aload_n 0, 1) := by decide +kernel
theorem dX4_note_32 : decode cX4_note 32 = .ok (.iload_n 1, 1) := by decide +kernel
theorem dX4_note_33 : decode cX4_note 33 = .ok (.putfield 50, 3) := by decide +kernel
theorem dX4_note_36 : decode cX4_note 36 = .ok (.aload_n 0, 1) := by decide +kernel
theorem dX4_note_37 : decode cX4_note 37 = .ok (.iload_n 2, 1) := by decide +kernel
theorem dX4_note_38 : decode cX4_note 38 = .ok (.putfield 53, 3) := by decide +kernel
theorem dX4_note_41 : decode cX4_note 41 = .ok (.return_, 1) := by decide +kernel
def fX4_note_31  (h : PH) (x0 : Nat) (x1 : Int32) (x2 : Int32) : Option (PH) :=
  oC (decide (hT h x0 = 5)) (oL (sI h 526 x0 x1) (fun h2 => oL (sI h2 527 x0 x2) (fun h4 => some (h4))))
set_option maxHeartbeats 4000000 in
theorem wfX4_note_31 {args : Array Value} (b : Bd p s m c cX4_note 3 RX4 D aC) (hlk : meth.locks = false) (hr : meth.sig.returnType = none) {Z : State → Prop} (zs : Z s) (zk : ZOK Z (Rg ad)) {hz : PH} {h : PH} {x0 : Nat} {x1 : Int32} {x2 : Int32}  {H : Heap} {locs : List Loc} {ls : Array Slot} (hf : fX4_note_31 h x0 x1 x2 = some hz) (hE : CE (EX D aC ad h) (Rg ad) s H locs) (hl : lv_has ls 3 [(0, .ref (ad x0)), (1, .int x1), (2, .int x2)]) : W p l e (RM 0 0 0 0) s m args below meth c H locs 0 0 (MQ below (PQ (EX D aC ad hz) (Rg ad) none) args s 0 0 (Rg ad)) (F0 m 31 ls []) := by
  unfold fX4_note_31 at hf
  refine lv_aload_n b.1 b.2.1 dX4_note_31 rfl (lv_at hl 0 rfl) ?_
  refine lv_iload_n b.1 b.2.1 dX4_note_32 rfl (lv_at hl 1 rfl) ?_
  obtain ⟨t1, hf⟩ := oC_s hf
  have t1 := of_decide_eq_true t1
  obtain ⟨h2, eh2, hf⟩ := oL_s hf
  refine pX4_50 (x := (some x0)) b hE rfl t1 eh2 dX4_note_33 (fun H locs hE => ?_)
  refine lv_aload_n b.1 b.2.1 dX4_note_36 rfl (lv_at hl 0 rfl) ?_
  refine lv_iload_n b.1 b.2.1 dX4_note_37 rfl (lv_at hl 2 rfl) ?_
  have t3 := tg_sI eh2 t1
  obtain ⟨h4, eh4, hf⟩ := oL_s hf
  refine pX4_53 (x := (some x0)) b hE rfl t3 eh4 dX4_note_38 (fun H locs hE => ?_)
  cases hf
  exact k_vret b hlk hr hE (Nat.le_refl _) (Nat.le_refl _) dX4_note_41
def fX4_note_0  (h : PH) (x0 : Nat) (x1 : Int32) (x2 : Int32) : Option (PH) :=
  oC (decide (hT h x0 = 5)) (if (hI h 526 x0) = 0 then (fX4_note_31  h x0 x1 x2) else (if x2 < (hI h 527 x0) then (fX4_note_31  h x0 x1 x2) else (if x2 = (hI h 527 x0) then (if (hI h 526 x0) ≤ x1 then (some (h)) else (fX4_note_31  h x0 x1 x2)) else (some (h)))))
set_option maxHeartbeats 4000000 in
theorem wfX4_note_0 {args : Array Value} (b : Bd p s m c cX4_note 3 RX4 D aC) (hlk : meth.locks = false) (hr : meth.sig.returnType = none) {Z : State → Prop} (zs : Z s) (zk : ZOK Z (Rg ad)) {hz : PH} {h : PH} {x0 : Nat} {x1 : Int32} {x2 : Int32}  {H : Heap} {locs : List Loc} {ls : Array Slot} (hf : fX4_note_0 h x0 x1 x2 = some hz) (hE : CE (EX D aC ad h) (Rg ad) s H locs) (hl : lv_has ls 3 [(0, .ref (ad x0)), (1, .int x1), (2, .int x2)]) : W p l e (RM 0 0 0 0) s m args below meth c H locs 0 0 (MQ below (PQ (EX D aC ad hz) (Rg ad) none) args s 0 0 (Rg ad)) (F0 m 0 ls []) := by
  unfold fX4_note_0 at hf
  refine lv_aload_n b.1 b.2.1 dX4_note_0 rfl (lv_at hl 0 rfl) ?_
  obtain ⟨t5, hf⟩ := oC_s hf
  have t5 := of_decide_eq_true t5
  refine gX4_50 (x := (some x0)) b hE rfl t5 dX4_note_1 ?_
  refine lv_if_eq (tgt := 31) b.1 b.2.1 dX4_note_4 (by decide) (fun c6 => ?_) (fun c6 => ?_)
  · have hf := oI_t c6 hf
    exact wfX4_note_31 b hlk hr zs zk  hf hE (lv_sub hl [0, 1, 2] rfl)
  · have hf := oI_f c6 hf
    refine lv_iload_n b.1 b.2.1 dX4_note_7 rfl (lv_at hl 2 rfl) ?_
    refine lv_aload_n b.1 b.2.1 dX4_note_8 rfl (lv_at hl 0 rfl) ?_
    refine gX4_53 (x := (some x0)) b hE rfl t5 dX4_note_9 ?_
    refine lv_icmp_lt (tgt := 31) b.1 b.2.1 dX4_note_12 (by decide) (fun c7 => ?_) (fun c7 => ?_)
    · have hf := oI_t c7 hf
      exact wfX4_note_31 b hlk hr zs zk  hf hE (lv_sub hl [0, 1, 2] rfl)
    · have hf := oI_f c7 hf
      refine lv_iload_n b.1 b.2.1 dX4_note_15 rfl (lv_at hl 2 rfl) ?_
      refine lv_aload_n b.1 b.2.1 dX4_note_16 rfl (lv_at hl 0 rfl) ?_
      refine gX4_53 (x := (some x0)) b hE rfl t5 dX4_note_17 ?_
      refine lv_icmp_ne (tgt := 41) b.1 b.2.1 dX4_note_20 (by decide) (fun c8 => ?_) (fun c8 => ?_)
      · have hf := oI_f c8 hf
        cases hf
        exact k_vret b hlk hr hE (Nat.le_refl _) (Nat.le_refl _) dX4_note_41
      · have hf := oI_t c8 hf
        refine lv_iload_n b.1 b.2.1 dX4_note_23 rfl (lv_at hl 1 rfl) ?_
        refine lv_aload_n b.1 b.2.1 dX4_note_24 rfl (lv_at hl 0 rfl) ?_
        refine gX4_50 (x := (some x0)) b hE rfl t5 dX4_note_25 ?_
        refine lv_icmp_ge (tgt := 41) b.1 b.2.1 dX4_note_28 (by decide) (fun c9 => ?_) (fun c9 => ?_)
        · have hf := oI_t c9 hf
          cases hf
          exact k_vret b hlk hr hE (Nat.le_refl _) (Nat.le_refl _) dX4_note_41
        · have hf := oI_f c9 hf
          exact wfX4_note_31 b hlk hr zs zk  hf hE (lv_sub hl [0, 1, 2] rfl)
def fX4_note (h : PH) (x0 : Nat) (x1 : Int32) (x2 : Int32) : Option (PH) := fX4_note_0 h x0 x1 x2
set_option maxHeartbeats 4000000 in
theorem CX4_note (l : Launch) (D : va_G) (aC : Nat → ClassId) (ad : Nat → Nat) {Z : State → Prop} (zk : ZOK Z (Rg ad)) {h : PH} {x0 : Nat} {x1 : Int32} {x2 : Int32} {hz : PH} (hf : fX4_note h x0 x1 x2 = some hz) : CM l D aC Z yX4_note cX4_note 3 (none) 0 0 0 0 (EX D aC ad h) [.ref (ad x0), .int x1, .int x2] (EX D aC ad hz) none (Rg ad) := by
  refine CM.of rfl ?_
  intro p e s m below meth c b hr hlk hin2 zs hE
  refine k_ent (Nat.le_of_ble_eq_true rfl) (fun ls hl => ?_)
  exact wfX4_note_0 b hlk hr zs zk hf hE (lv_sub hl [0, 1, 2] rfl)
theorem dX7_add_0 : decode cX7_add 0 = .ok (.aload_n 0, 1) := by decide +kernel
theorem dX7_add_1 : decode cX7_add 1 = .ok (.invokevirtual 25, 3) := by decide +kernel
theorem dX7_add_4 : decode cX7_add 4 = .ok (.ifCond .eq 5, 3) := by decide +kernel
theorem dX7_add_7 : decode cX7_add 7 = .ok (.iconst (-1), 1) := by decide +kernel
theorem dX7_add_8 : decode cX7_add 8 = .ok (.ireturn, 1) := by decide +kernel
theorem dX7_add_9 : decode cX7_add 9 = .ok (.aload_n 0, 1) := by decide +kernel
theorem dX7_add_10 : decode cX7_add 10 = .ok (.getfield 15, 3) := by decide +kernel
theorem dX7_add_13 : decode cX7_add 13 = .ok (.aload_n 0, 1) := by decide +kernel
theorem dX7_add_14 : decode cX7_add 14 = .ok (.getfield 21, 3) := by decide +kernel
theorem dX7_add_17 : decode cX7_add 17 = .ok (.lload_n 1, 1) := by decide +kernel
theorem dX7_add_18 : decode cX7_add 18 = .ok (.lastore, 1) := by decide +kernel
theorem dX7_add_19 : decode cX7_add 19 = .ok (.aload_n 0, 1) := by decide +kernel
theorem dX7_add_20 : decode cX7_add 20 = .ok (.dup, 1) := by decide +kernel
theorem dX7_add_21 : decode cX7_add 21 = .ok (.getfield 21, 3) := by decide +kernel
theorem dX7_add_24 : decode cX7_add 24 = .ok (.iconst 1, 1) := by decide +kernel
theorem dX7_add_25 : decode cX7_add 25 = .ok (.iadd, 1) := by decide +kernel
theorem dX7_add_26 : decode cX7_add 26 = .ok (.putfield 21, 3) := by decide +kernel
theorem dX7_add_29 : decode cX7_add 29 = .ok (.aload_n 0, 1) := by decide +kernel
theorem dX7_add_30 : decode cX7_add 30 = .ok (.getfield 21, 3) := by decide +kernel
theorem dX7_add_33 : decode cX7_add 33 = .ok (.iconst 1, 1) := by decide +kernel
theorem dX7_add_34 : decode cX7_add 34 = .ok (.isub, 1) := by decide +kernel
theorem dX7_add_35 : decode cX7_add 35 = .ok (.ireturn, 1) := by decide +kernel
def fX7_add_0  (h : PH) (x0 : Nat) (x1 : Int64) : Option (PH × Int32) :=
  oC (decide (hT h x0 = 8)) (oB (fX7_isFull h x0) (fun r3 => if r3 = 0 then (oN (hR h 896 x0) (fun a5 => oC (decide (hT h a5 = 102)) (oC (ix (hI h 897 x0) (hN h a5)) (oL (sB h a5 (Int32.toNatClampNeg (hI h 897 x0)) x1) (fun h8 => oL (sI h8 897 x0 ((hI h8 897 x0) + 1)) (fun h10 => some (h10, ((hI h10 897 x0) - 1)))))))) else (some (h, (-1)))))
set_option maxHeartbeats 4000000 in
theorem wfX7_add_0 {args : Array Value} (b : Bd p s m c cX7_add 3 RX7 D aC) (hlk : meth.locks = false) (hr : meth.sig.returnType = some .int) {Z : State → Prop} (zs : Z s) (zk : ZOK Z (Rg ad)) {hz : PH} {rz : Int32} {h : PH} {x0 : Nat} {x1 : Int64}  {H : Heap} {locs : List Loc} {ls : Array Slot} (hf : fX7_add_0 h x0 x1 = some (hz, rz)) (hE : CE (EX D aC ad h) (Rg ad) s H locs) (hl : lv_has ls 3 [(0, .ref (ad x0)), (1, .long x1)]) : W p l e (RM 1 20 0 0) s m args below meth c H locs 0 0 (MQ below (PQ (EX D aC ad hz) (Rg ad) (some (.int rz))) args s 0 0 (Rg ad)) (F0 m 0 ls []) := by
  unfold fX7_add_0 at hf
  refine lv_aload_n b.1 b.2.1 dX7_add_0 rfl (lv_at hl 0 rfl) ?_
  obtain ⟨t1, hf⟩ := oC_s hf
  have t1 := of_decide_eq_true t1
  obtain ⟨r3, hc2, hf⟩ := oB_s hf
  refine k_callV0 (C := RX7) b zs zk hE (CX7_isFull l D aC ad zk hc2) mc_X7_isFull (in2 207 rfl rfl) mi_X7_isFull ms_X7_isFull ini_RX7 ok_X7_isFull (x_recv b hE (ci := 7) rfl (by decide) t1) ⟨Nat.le_of_ble_eq_true rfl, Nat.le_of_ble_eq_true rfl⟩ rfl hl.1 rfl (k_room _ (by exact Nat.le_of_ble_eq_true rfl)) ⟨Nat.le_refl _, Nat.le_refl _⟩ dX7_add_1 (fun H locs hE => ?_)
  refine lv_if_eq (tgt := 9) b.1 b.2.1 dX7_add_4 (by decide) (fun c4 => ?_) (fun c4 => ?_)
  · have hf := oI_t c4 hf
    refine lv_aload_n b.1 b.2.1 dX7_add_9 rfl (lv_at hl 0 rfl) ?_
    refine gX7_15 (x := (some x0)) b hE rfl t1 dX7_add_10 ?_
    refine lv_aload_n b.1 b.2.1 dX7_add_13 rfl (lv_at hl 0 rfl) ?_
    refine gX7_21 (x := (some x0)) b hE rfl t1 dX7_add_14 ?_
    refine lv_lload_n b.1 b.2.1 dX7_add_17 rfl (lv_at hl 1 rfl) ?_
    obtain ⟨a5, ea5, hf⟩ := oN_s hf
    obtain ⟨t6, hf⟩ := oC_s hf
    have t6 := of_decide_eq_true t6
    obtain ⟨g7, hf⟩ := oC_s hf
    obtain ⟨h8, eh8, hf⟩ := oL_s hf
    refine q_last (x := (hR h 896 x0)) b hE ea5 t6 g7 eh8 dX7_add_18 (fun H locs hE => ?_)
    refine lv_aload_n b.1 b.2.1 dX7_add_19 rfl (lv_at hl 0 rfl) ?_
    refine lv_dup b.1 b.2.1 dX7_add_20 rfl ?_
    have t9 := tg_sB eh8 t1
    refine gX7_21 (x := (some x0)) b hE rfl t9 dX7_add_21 ?_
    refine lv_iconst (v := 1) b.1 b.2.1 dX7_add_24 (by decide) ?_
    refine lv_iadd b.1 b.2.1 dX7_add_25 ?_
    obtain ⟨h10, eh10, hf⟩ := oL_s hf
    refine pX7_21 (x := (some x0)) b hE rfl t9 eh10 dX7_add_26 (fun H locs hE => ?_)
    refine lv_aload_n b.1 b.2.1 dX7_add_29 rfl (lv_at hl 0 rfl) ?_
    have t11 := tg_sI eh10 t9
    refine gX7_21 (x := (some x0)) b hE rfl t11 dX7_add_30 ?_
    refine lv_iconst (v := 1) b.1 b.2.1 dX7_add_33 (by decide) ?_
    refine lv_isub b.1 b.2.1 dX7_add_34 ?_
    cases hf
    exact k_iret b hlk hr hE (Nat.le_refl _) (Nat.le_refl _) dX7_add_35
  · have hf := oI_f c4 hf
    refine lv_iconst (v := (-1)) b.1 b.2.1 dX7_add_7 (by decide) ?_
    cases hf
    exact k_iret b hlk hr hE (Nat.le_refl _) (Nat.le_refl _) dX7_add_8
def fX7_add (h : PH) (x0 : Nat) (x1 : Int64) : Option (PH × Int32) := fX7_add_0 h x0 x1
set_option maxHeartbeats 4000000 in
theorem CX7_add (l : Launch) (D : va_G) (aC : Nat → ClassId) (ad : Nat → Nat) {Z : State → Prop} (zk : ZOK Z (Rg ad)) {h : PH} {x0 : Nat} {x1 : Int64} {hz : PH} {rz : Int32} (hf : fX7_add h x0 x1 = some (hz, rz)) : CM l D aC Z yX7_add cX7_add 3 (some .int) 1 20 0 0 (EX D aC ad h) [.ref (ad x0), .long x1] (EX D aC ad hz) (some (.int rz)) (Rg ad) := by
  refine CM.of rfl ?_
  intro p e s m below meth c b hr hlk hin2 zs hE
  refine k_ent (Nat.le_of_ble_eq_true rfl) (fun ls hl => ?_)
  exact wfX7_add_0 b hlk hr zs zk hf hE (lv_sub hl [0, 1] rfl)
theorem dX4_tellName_0 : decode cX4_tellName 0 = .ok (.aload_n 0, 1) := by decide +kernel
theorem dX4_tellName_1 : decode cX4_tellName 1 = .ok (.getfield 60, 3) := by decide +kernel
theorem dX4_tellName_4 : decode cX4_tellName 4 = .ok (.sipush 260, 3) := by decide +kernel
theorem dX4_tellName_7 : decode cX4_tellName 7 = .ok (.if_icmp .ne 15, 3) := by decide +kernel
theorem dX4_tellName_10 : decode cX4_tellName 10 = .ok (.aload_n 1, 1) := by decide +kernel
theorem dX4_tellName_11 : decode cX4_tellName 11 = .ok (.invokevirtual 170, 3) := by decide +kernel
theorem dX4_tellName_14 : decode cX4_tellName 14 = .ok (.ifCond .eq 8, 3) := by decide +kernel
theorem dX4_tellName_17 : decode cX4_tellName 17 = .ok (.aload_n 0, 1) := by decide +kernel
theorem dX4_tellName_18 : decode cX4_tellName 18 = .ok (.iconst 2, 1) := by decide +kernel
theorem dX4_tellName_19 : decode cX4_tellName 19 = .ok (.invokevirtual 89, 3) := by decide +kernel
theorem dX4_tellName_22 : decode cX4_tellName 22 = .ok (.aload_n 0, 1) := by decide +kernel
theorem dX4_tellName_23 : decode cX4_tellName 23 = .ok (.getfield 155, 3) := by decide +kernel
theorem dX4_tellName_26 : decode cX4_tellName 26 = .ok (.istore_n 2, 1) := by decide +kernel
theorem dX4_tellName_27 : decode cX4_tellName 27 = .ok (.aload_n 0, 1) := by decide +kernel
theorem dX4_tellName_28 : decode cX4_tellName 28 = .ok (.getfield 162, 3) := by decide +kernel
theorem dX4_tellName_31 : decode cX4_tellName 31 = .ok (.lstore_n 3, 1) := by decide +kernel
theorem dX4_tellName_32 : decode cX4_tellName 32 = .ok (.aload_n 0, 1) := by decide +kernel
theorem dX4_tellName_33 : decode cX4_tellName 33 = .ok (.sipush 260, 3) := by decide +kernel
theorem dX4_tellName_36 : decode cX4_tellName 36 = .ok (.invokevirtual 63, 3) := by decide +kernel
theorem dX4_tellName_39 : decode cX4_tellName 39 = .ok (.ifCond .ne 5, 3) := by decide +kernel
theorem dX4_tellName_42 : decode cX4_tellName 42 = .ok (.iconst (-1), 1) := by decide +kernel
theorem dX4_tellName_43 : decode cX4_tellName 43 = .ok (.ireturn, 1) := by decide +kernel
theorem dX4_tellName_44 : decode cX4_tellName 44 = .ok (.aload_n 1, 1) := by decide +kernel
theorem dX4_tellName_45 : decode cX4_tellName 45 = .ok (.lload_n 3, 1) := by decide +kernel
theorem dX4_tellName_46 : decode cX4_tellName 46 = .ok (.invokevirtual 176, 3) := by decide +kernel
theorem dX4_tellName_49 : decode cX4_tellName 49 = .ok (.iconst (-1), 1) := by decide +kernel
theorem dX4_tellName_50 : decode cX4_tellName 50 = .ok (.if_icmp .eq 9, 3) := by decide +kernel
theorem dX4_tellName_53 : decode cX4_tellName 53 = .ok (.aload_n 0, 1) := by decide +kernel
theorem dX4_tellName_54 : decode cX4_tellName 54 = .ok (.iconst 3, 1) := by decide +kernel
theorem dX4_tellName_55 : decode cX4_tellName 55 = .ok (.iload_n 2, 1) := by decide +kernel
theorem dX4_tellName_56 : decode cX4_tellName 56 = .ok (.invokevirtual 166, 3) := by decide +kernel
theorem dX4_tellName_59 : decode cX4_tellName 59 = .ok (.aload_n 1, 1) := by decide +kernel
theorem dX4_tellName_60 : decode cX4_tellName 60 = .ok (.lload_n 3, 1) := by decide +kernel
theorem dX4_tellName_61 : decode cX4_tellName 61 = .ok (.invokevirtual 180, 3) := by decide +kernel
theorem dX4_tellName_64 : decode cX4_tellName 64 = .ok (.ireturn, 1) := by decide +kernel
def fX4_tellName_59  (h : PH) (x1 : Option Nat) (x3 : Int64) : Option (PH × Int32) :=
  oN x1 (fun a1 => oC (decide (hT h a1 = 8)) (oB2 (fX7_add h a1 x3) (fun h5 r4 => some (h5, r4))))
set_option maxHeartbeats 4000000 in
theorem wfX4_tellName_59 {args : Array Value} (b : Bd p s m c cX4_tellName 5 RX4 D aC) (hlk : meth.locks = false) (hr : meth.sig.returnType = some .int) {Z : State → Prop} (zs : Z s) (zk : ZOK Z (Rg ad)) {hz : PH} {rz : Int32} {h : PH} {x1 : Option Nat} {x3 : Int64}  {H : Heap} {locs : List Loc} {ls : Array Slot} (hf : fX4_tellName_59 h x1 x3 = some (hz, rz)) (hE : CE (EX D aC ad h) (Rg ad) s H locs) (hl : lv_has ls 5 [(1, va_rf (Option.map ad x1)), (3, .long x3)]) : W p l e (RM 2 43 0 0) s m args below meth c H locs 0 0 (MQ below (PQ (EX D aC ad hz) (Rg ad) (some (.int rz))) args s 0 0 (Rg ad)) (F0 m 59 ls []) := by
  unfold fX4_tellName_59 at hf
  refine k_aload_n (x := Option.map ad x1) b dX4_tellName_59 rfl (lv_at hl 0 rfl) ?_
  refine lv_lload_n b.1 b.2.1 dX4_tellName_60 rfl (lv_at hl 1 rfl) ?_
  obtain ⟨a1, ea1, hf⟩ := oN_s hf
  obtain ⟨t2, hf⟩ := oC_s hf
  have t2 := of_decide_eq_true t2
  obtain ⟨h5, r4, hc3, hf⟩ := oB2_s hf
  refine k_stk [.long x3] ea1 ?_
  refine k_callV0 (C := RX7) b zs zk hE (CX7_add l D aC ad zk hc3) mc_X7_add (in2 203 rfl rfl) mi_X7_add ms_X7_add ini_RX7 ok_X7_add (x_recv b hE (ci := 7) rfl (by decide) t2) ⟨Nat.le_of_ble_eq_true rfl, Nat.le_of_ble_eq_true rfl⟩ rfl hl.1 rfl (k_room _ (by exact Nat.le_of_ble_eq_true rfl)) ⟨Nat.le_refl _, Nat.le_refl _⟩ dX4_tellName_61 (fun H locs hE => ?_)
  cases hf
  exact k_iret b hlk hr hE (Nat.le_refl _) (Nat.le_refl _) dX4_tellName_64
def fX4_tellName_22  (h : PH) (x0 : Nat) (x1 : Option Nat) : Option (PH × Int32) :=
  oC (decide (hT h x0 = 5)) (oL (hI h 522 x0) (fun y7 => oL (hL h 523 x0) (fun y8 => oB2 (fX4_expect h x0 260) (fun h11 r10 => if r10 = 0 then (some (h11, (-1))) else (oN x1 (fun a13 => oC (decide (hT h11 a13 = 8)) (oB (fX7_find h11 a13 y8) (fun r16 => if r16 = (-1) then (fX4_tellName_59  h11 x1 y8) else (oC (decide (hT h11 x0 = 5)) (oB (fX4_note h11 x0 3 y7) (fun h20 => fX4_tellName_59  h20 x1 y8)))))))))))
set_option maxHeartbeats 4000000 in
theorem wfX4_tellName_22 {args : Array Value} (b : Bd p s m c cX4_tellName 5 RX4 D aC) (hlk : meth.locks = false) (hr : meth.sig.returnType = some .int) {Z : State → Prop} (zs : Z s) (zk : ZOK Z (Rg ad)) {hz : PH} {rz : Int32} {h : PH} {x0 : Nat} {x1 : Option Nat}  {H : Heap} {locs : List Loc} {ls : Array Slot} (hf : fX4_tellName_22 h x0 x1 = some (hz, rz)) (hE : CE (EX D aC ad h) (Rg ad) s H locs) (hl : lv_has ls 5 [(0, .ref (ad x0)), (1, va_rf (Option.map ad x1))]) : W p l e (RM 2 43 0 0) s m args below meth c H locs 0 0 (MQ below (PQ (EX D aC ad hz) (Rg ad) (some (.int rz))) args s 0 0 (Rg ad)) (F0 m 22 ls []) := by
  unfold fX4_tellName_22 at hf
  refine lv_aload_n b.1 b.2.1 dX4_tellName_22 rfl (lv_at hl 0 rfl) ?_
  obtain ⟨t6, hf⟩ := oC_s hf
  have t6 := of_decide_eq_true t6
  refine gX4_155 (x := (some x0)) b hE rfl t6 dX4_tellName_23 ?_
  obtain ⟨y7, ey7, hf⟩ := oL_s hf
  refine k_nmI ey7 ?_
  refine lv_istore_n (lv' := [(2, .int y7), (0, .ref (ad x0)), (1, va_rf (Option.map ad x1))]) b.1 b.2.1 dX4_tellName_26 rfl hl (by decide) (by cases x1 <;> rfl) (fun ls hl => ?_)
  refine lv_aload_n b.1 b.2.1 dX4_tellName_27 rfl (lv_at hl 1 rfl) ?_
  refine gX4_162 (x := (some x0)) b hE rfl t6 dX4_tellName_28 ?_
  obtain ⟨y8, ey8, hf⟩ := oL_s hf
  refine k_nmL ey8 ?_
  refine lv_lstore_n (lv' := [(3, .long y8), (2, .int y7), (0, .ref (ad x0)), (1, va_rf (Option.map ad x1))]) b.1 b.2.1 dX4_tellName_31 rfl hl (by decide) rfl (fun ls hl => ?_)
  refine lv_aload_n b.1 b.2.1 dX4_tellName_32 rfl (lv_at hl 2 rfl) ?_
  refine lv_sipush (v := 260) b.1 b.2.1 dX4_tellName_33 (by decide) ?_
  obtain ⟨h11, r10, hc9, hf⟩ := oB2_s hf
  refine k_callV0 (C := RX4) b zs zk hE (CX4_expect l D aC ad zk hc9) mc_X4_expect (in2 179 rfl rfl) mi_X4_expect ms_X4_expect ini_RX4 ok_X4_expect (x_recv b hE (ci := 4) rfl (by decide) t6) ⟨Nat.le_of_ble_eq_true rfl, Nat.le_of_ble_eq_true rfl⟩ rfl hl.1 rfl (k_room _ (by exact Nat.le_of_ble_eq_true rfl)) ⟨Nat.le_refl _, Nat.le_refl _⟩ dX4_tellName_36 (fun H locs hE => ?_)
  refine lv_if_ne (tgt := 44) b.1 b.2.1 dX4_tellName_39 (by decide) (fun c12 => ?_) (fun c12 => ?_)
  · have hf := oI_f c12 hf
    refine k_aload_n (x := Option.map ad x1) b dX4_tellName_44 rfl (lv_at hl 3 rfl) ?_
    refine lv_lload_n b.1 b.2.1 dX4_tellName_45 rfl (lv_at hl 0 rfl) ?_
    obtain ⟨a13, ea13, hf⟩ := oN_s hf
    obtain ⟨t14, hf⟩ := oC_s hf
    have t14 := of_decide_eq_true t14
    obtain ⟨r16, hc15, hf⟩ := oB_s hf
    refine k_stk [.long y8] ea13 ?_
    refine k_callV0 (C := RX7) b zs zk hE (CX7_find l D aC ad zk hc15) mc_X7_find (in2 195 rfl rfl) mi_X7_find ms_X7_find ini_RX7 ok_X7_find (x_recv b hE (ci := 7) rfl (by decide) t14) ⟨Nat.le_of_ble_eq_true rfl, Nat.le_of_ble_eq_true rfl⟩ rfl hl.1 rfl (k_room _ (by exact Nat.le_of_ble_eq_true rfl)) ⟨Nat.le_refl _, Nat.le_refl _⟩ dX4_tellName_46 (fun H locs hE => ?_)
    refine lv_iconst (v := (-1)) b.1 b.2.1 dX4_tellName_49 (by decide) ?_
    refine lv_icmp_eq (tgt := 59) b.1 b.2.1 dX4_tellName_50 (by decide) (fun c17 => ?_) (fun c17 => ?_)
    · have hf := oI_t c17 hf
      exact wfX4_tellName_59 b hlk hr zs zk  hf hE (lv_sub hl [3, 0] rfl)
    · have hf := oI_f c17 hf
      refine lv_aload_n b.1 b.2.1 dX4_tellName_53 rfl (lv_at hl 2 rfl) ?_
      refine lv_iconst (v := 3) b.1 b.2.1 dX4_tellName_54 (by decide) ?_
      refine lv_iload_n b.1 b.2.1 dX4_tellName_55 rfl (lv_at hl 1 rfl) ?_
      obtain ⟨t18, hf⟩ := oC_s hf
      have t18 := of_decide_eq_true t18
      obtain ⟨h20, hc19, hf⟩ := oB_s hf
      refine k_callV0 (C := RX4) b zs zk hE (CX4_note l D aC ad zk hc19) mc_X4_note (in2 199 rfl rfl) mi_X4_note ms_X4_note ini_RX4 ok_X4_note (x_recv b hE (ci := 4) rfl (by decide) t18) ⟨Nat.le_of_ble_eq_true rfl, Nat.le_of_ble_eq_true rfl⟩ rfl hl.1 rfl (k_room _ (by exact Nat.le_of_ble_eq_true rfl)) ⟨Nat.le_refl _, Nat.le_refl _⟩ dX4_tellName_56 (fun H locs hE => ?_)
      exact wfX4_tellName_59 b hlk hr zs zk  hf hE (lv_sub hl [3, 0] rfl)
  · have hf := oI_t c12 hf
    refine lv_iconst (v := (-1)) b.1 b.2.1 dX4_tellName_42 (by decide) ?_
    cases hf
    exact k_iret b hlk hr hE (Nat.le_refl _) (Nat.le_refl _) dX4_tellName_43
def fX4_tellName_0  (h : PH) (x0 : Nat) (x1 : Option Nat) : Option (PH × Int32) :=
  oC (decide (hT h x0 = 5)) (if (hI h 521 x0) = 260 then (oN x1 (fun a23 => oC (decide (hT h a23 = 8)) (oB (fX7_isFull h a23) (fun r26 => if r26 = 0 then (fX4_tellName_22  h x0 x1) else (oB (fX4_stopAt h x0 2) (fun h29 => fX4_tellName_22  h29 x0 x1)))))) else (fX4_tellName_22  h x0 x1))
set_option maxHeartbeats 4000000 in
theorem wfX4_tellName_0 {args : Array Value} (b : Bd p s m c cX4_tellName 5 RX4 D aC) (hlk : meth.locks = false) (hr : meth.sig.returnType = some .int) {Z : State → Prop} (zs : Z s) (zk : ZOK Z (Rg ad)) {hz : PH} {rz : Int32} {h : PH} {x0 : Nat} {x1 : Option Nat}  {H : Heap} {locs : List Loc} {ls : Array Slot} (hf : fX4_tellName_0 h x0 x1 = some (hz, rz)) (hE : CE (EX D aC ad h) (Rg ad) s H locs) (hl : lv_has ls 5 [(0, .ref (ad x0)), (1, va_rf (Option.map ad x1))]) : W p l e (RM 2 43 0 0) s m args below meth c H locs 0 0 (MQ below (PQ (EX D aC ad hz) (Rg ad) (some (.int rz))) args s 0 0 (Rg ad)) (F0 m 0 ls []) := by
  unfold fX4_tellName_0 at hf
  refine lv_aload_n b.1 b.2.1 dX4_tellName_0 rfl (lv_at hl 0 rfl) ?_
  obtain ⟨t21, hf⟩ := oC_s hf
  have t21 := of_decide_eq_true t21
  refine gX4_60 (x := (some x0)) b hE rfl t21 dX4_tellName_1 ?_
  refine lv_sipush (v := 260) b.1 b.2.1 dX4_tellName_4 (by decide) ?_
  refine lv_icmp_ne (tgt := 22) b.1 b.2.1 dX4_tellName_7 (by decide) (fun c22 => ?_) (fun c22 => ?_)
  · have hf := oI_f c22 hf
    exact wfX4_tellName_22 b hlk hr zs zk  hf hE (lv_sub hl [0, 1] rfl)
  · have hf := oI_t c22 hf
    refine k_aload_n (x := Option.map ad x1) b dX4_tellName_10 rfl (lv_at hl 1 rfl) ?_
    obtain ⟨a23, ea23, hf⟩ := oN_s hf
    obtain ⟨t24, hf⟩ := oC_s hf
    have t24 := of_decide_eq_true t24
    obtain ⟨r26, hc25, hf⟩ := oB_s hf
    refine k_stk [] ea23 ?_
    refine k_callV0 (C := RX7) b zs zk hE (CX7_isFull l D aC ad zk hc25) mc_X7_isFull (in2 191 rfl rfl) mi_X7_isFull ms_X7_isFull ini_RX7 ok_X7_isFull (x_recv b hE (ci := 7) rfl (by decide) t24) ⟨Nat.le_of_ble_eq_true rfl, Nat.le_of_ble_eq_true rfl⟩ rfl hl.1 rfl (k_room _ (by exact Nat.le_of_ble_eq_true rfl)) ⟨Nat.le_refl _, Nat.le_refl _⟩ dX4_tellName_11 (fun H locs hE => ?_)
    refine lv_if_eq (tgt := 22) b.1 b.2.1 dX4_tellName_14 (by decide) (fun c27 => ?_) (fun c27 => ?_)
    · have hf := oI_t c27 hf
      exact wfX4_tellName_22 b hlk hr zs zk  hf hE (lv_sub hl [0, 1] rfl)
    · have hf := oI_f c27 hf
      refine lv_aload_n b.1 b.2.1 dX4_tellName_17 rfl (lv_at hl 0 rfl) ?_
      refine lv_iconst (v := 2) b.1 b.2.1 dX4_tellName_18 (by decide) ?_
      obtain ⟨h29, hc28, hf⟩ := oB_s hf
      refine k_callV0 (C := RX4) b zs zk hE (CX4_stopAt l D aC ad zk hc28) mc_X4_stopAt (in2 183 rfl rfl) mi_X4_stopAt ms_X4_stopAt ini_RX4 ok_X4_stopAt (x_recv b hE (ci := 4) rfl (by decide) t21) ⟨Nat.le_of_ble_eq_true rfl, Nat.le_of_ble_eq_true rfl⟩ rfl hl.1 rfl (k_room _ (by exact Nat.le_of_ble_eq_true rfl)) ⟨Nat.le_refl _, Nat.le_refl _⟩ dX4_tellName_19 (fun H locs hE => ?_)
      exact wfX4_tellName_22 b hlk hr zs zk  hf hE (lv_sub hl [0, 1] rfl)
def fX4_tellName (h : PH) (x0 : Nat) (x1 : Option Nat) : Option (PH × Int32) := fX4_tellName_0 h x0 x1
set_option maxHeartbeats 4000000 in
theorem CX4_tellName (l : Launch) (D : va_G) (aC : Nat → ClassId) (ad : Nat → Nat) {Z : State → Prop} (zk : ZOK Z (Rg ad)) {h : PH} {x0 : Nat} {x1 : Option Nat} {hz : PH} {rz : Int32} (hf : fX4_tellName h x0 x1 = some (hz, rz)) : CM l D aC Z yX4_tellName cX4_tellName 5 (some .int) 2 43 0 0 (EX D aC ad h) [.ref (ad x0), va_rf (Option.map ad x1)] (EX D aC ad hz) (some (.int rz)) (Rg ad) := by
  refine CM.of rfl ?_
  intro p e s m below meth c b hr hlk hin2 zs hE
  cases x1 <;> (
    refine k_ent (Nat.le_of_ble_eq_true rfl) (fun ls hl => ?_)
    exact wfX4_tellName_0 b hlk hr zs zk hf hE (lv_sub hl [0, 1] rfl))
theorem dX4_tellOne_0 : decode cX4_tellOne 0 = .ok (.aload_n 0, 1) := by decide +kernel
theorem dX4_tellOne_1 : decode cX4_tellOne 1 = .ok (.iload_n 1, 1) := by decide +kernel
theorem dX4_tellOne_2 : decode cX4_tellOne 2 = .ok (.invokevirtual 63, 3) := by decide +kernel
theorem dX4_tellOne_5 : decode cX4_tellOne 5 = .ok (.pop, 1) := by decide +kernel
theorem dX4_tellOne_6 : decode cX4_tellOne 6 = .ok (.aload_n 0, 1) := by decide +kernel
theorem dX4_tellOne_7 : decode cX4_tellOne 7 = .ok (.aload_n 2, 1) := by decide +kernel
theorem dX4_tellOne_8 : decode cX4_tellOne 8 = .ok (.invokevirtual 98, 3) := by decide +kernel
theorem dX4_tellOne_11 : decode cX4_tellOne 11 = .ok (.pop, 1) := by decide +kernel
theorem dX4_tellOne_12 : decode cX4_tellOne 12 = .ok (.aload_n 0, 1) := by decide +kernel
theorem dX4_tellOne_13 : decode cX4_tellOne 13 = .ok (.bipush 59, 2) := by decide +kernel
theorem dX4_tellOne_15 : decode cX4_tellOne 15 = .ok (.invokevirtual 63, 3) := by decide +kernel
theorem dX4_tellOne_18 : decode cX4_tellOne 18 = .ok (.pop, 1) := by decide +kernel
theorem dX4_tellOne_19 : decode cX4_tellOne 19 = .ok (.return_, 1) := by decide +kernel
def fX4_tellOne_0  (h : PH) (x0 : Nat) (x1 : Int32) (x2 : Option Nat) : Option (PH) :=
  oC (decide (hT h x0 = 5)) (oB2 (fX4_expect h x0 x1) (fun h4 r3 => oC (decide (hT h4 x0 = 5)) (oB2 (fX4_tellName h4 x0 x2) (fun h8 r7 => oC (decide (hT h8 x0 = 5)) (oB2 (fX4_expect h8 x0 59) (fun h12 r11 => some (h12)))))))
set_option maxHeartbeats 4000000 in
theorem wfX4_tellOne_0 {args : Array Value} (b : Bd p s m c cX4_tellOne 3 RX4 D aC) (hlk : meth.locks = false) (hr : meth.sig.returnType = none) {Z : State → Prop} (zs : Z s) (zk : ZOK Z (Rg ad)) {hz : PH} {h : PH} {x0 : Nat} {x1 : Int32} {x2 : Option Nat}  {H : Heap} {locs : List Loc} {ls : Array Slot} (hf : fX4_tellOne_0 h x0 x1 x2 = some hz) (hE : CE (EX D aC ad h) (Rg ad) s H locs) (hl : lv_has ls 3 [(0, .ref (ad x0)), (1, .int x1), (2, va_rf (Option.map ad x2))]) : W p l e (RM 3 67 0 0) s m args below meth c H locs 0 0 (MQ below (PQ (EX D aC ad hz) (Rg ad) none) args s 0 0 (Rg ad)) (F0 m 0 ls []) := by
  unfold fX4_tellOne_0 at hf
  refine lv_aload_n b.1 b.2.1 dX4_tellOne_0 rfl (lv_at hl 0 rfl) ?_
  refine lv_iload_n b.1 b.2.1 dX4_tellOne_1 rfl (lv_at hl 1 rfl) ?_
  obtain ⟨t1, hf⟩ := oC_s hf
  have t1 := of_decide_eq_true t1
  obtain ⟨h4, r3, hc2, hf⟩ := oB2_s hf
  refine k_callV0 (C := RX4) b zs zk hE (CX4_expect l D aC ad zk hc2) mc_X4_expect (in2 179 rfl rfl) mi_X4_expect ms_X4_expect ini_RX4 ok_X4_expect (x_recv b hE (ci := 4) rfl (by decide) t1) ⟨Nat.le_of_ble_eq_true rfl, Nat.le_of_ble_eq_true rfl⟩ rfl hl.1 rfl (k_room _ (by exact Nat.le_of_ble_eq_true rfl)) ⟨Nat.le_refl _, Nat.le_refl _⟩ dX4_tellOne_2 (fun H locs hE => ?_)
  refine lv_pop b.1 b.2.1 dX4_tellOne_5 rfl ?_
  refine lv_aload_n b.1 b.2.1 dX4_tellOne_6 rfl (lv_at hl 0 rfl) ?_
  refine k_aload_n (x := Option.map ad x2) b dX4_tellOne_7 rfl (lv_at hl 2 rfl) ?_
  obtain ⟨t5, hf⟩ := oC_s hf
  have t5 := of_decide_eq_true t5
  obtain ⟨h8, r7, hc6, hf⟩ := oB2_s hf
  refine k_callV0 (C := RX4) b zs zk hE (CX4_tellName l D aC ad zk hc6) mc_X4_tellName (in2 187 rfl rfl) mi_X4_tellName ms_X4_tellName ini_RX4 ok_X4_tellName (x_recv b hE (ci := 4) rfl (by decide) t5) ⟨Nat.le_of_ble_eq_true rfl, Nat.le_of_ble_eq_true rfl⟩ rfl hl.1 rfl (k_room _ (by exact Nat.le_of_ble_eq_true rfl)) ⟨Nat.le_refl _, Nat.le_refl _⟩ dX4_tellOne_8 (fun H locs hE => ?_)
  refine lv_pop b.1 b.2.1 dX4_tellOne_11 rfl ?_
  refine lv_aload_n b.1 b.2.1 dX4_tellOne_12 rfl (lv_at hl 0 rfl) ?_
  refine lv_bipush (v := 59) b.1 b.2.1 dX4_tellOne_13 (by decide) ?_
  obtain ⟨t9, hf⟩ := oC_s hf
  have t9 := of_decide_eq_true t9
  obtain ⟨h12, r11, hc10, hf⟩ := oB2_s hf
  refine k_callV0 (C := RX4) b zs zk hE (CX4_expect l D aC ad zk hc10) mc_X4_expect (in2 179 rfl rfl) mi_X4_expect ms_X4_expect ini_RX4 ok_X4_expect (x_recv b hE (ci := 4) rfl (by decide) t9) ⟨Nat.le_of_ble_eq_true rfl, Nat.le_of_ble_eq_true rfl⟩ rfl hl.1 rfl (k_room _ (by exact Nat.le_of_ble_eq_true rfl)) ⟨Nat.le_refl _, Nat.le_refl _⟩ dX4_tellOne_15 (fun H locs hE => ?_)
  refine lv_pop b.1 b.2.1 dX4_tellOne_18 rfl ?_
  cases hf
  exact k_vret b hlk hr hE (Nat.le_refl _) (Nat.le_refl _) dX4_tellOne_19
def fX4_tellOne (h : PH) (x0 : Nat) (x1 : Int32) (x2 : Option Nat) : Option (PH) := fX4_tellOne_0 h x0 x1 x2
set_option maxHeartbeats 4000000 in
theorem CX4_tellOne (l : Launch) (D : va_G) (aC : Nat → ClassId) (ad : Nat → Nat) {Z : State → Prop} (zk : ZOK Z (Rg ad)) {h : PH} {x0 : Nat} {x1 : Int32} {x2 : Option Nat} {hz : PH} (hf : fX4_tellOne h x0 x1 x2 = some hz) : CM l D aC Z yX4_tellOne cX4_tellOne 3 (none) 3 67 0 0 (EX D aC ad h) [.ref (ad x0), .int x1, va_rf (Option.map ad x2)] (EX D aC ad hz) none (Rg ad) := by
  refine CM.of rfl ?_
  intro p e s m below meth c b hr hlk hin2 zs hE
  cases x2 <;> (
    refine k_ent (Nat.le_of_ble_eq_true rfl) (fun ls hl => ?_)
    exact wfX4_tellOne_0 b hlk hr zs zk hf hE (lv_sub hl [0, 1, 2] rfl))
theorem dX4_integer_0 : decode cX4_integer 0 = .ok (.aload_n 0, 1) := by decide +kernel
theorem dX4_integer_1 : decode cX4_integer 1 = .ok (.getfield 155, 3) := by decide +kernel
theorem dX4_integer_4 : decode cX4_integer 4 = .ok (.istore_n 3, 1) := by decide +kernel
theorem dX4_integer_5 : decode cX4_integer 5 = .ok (.aload_n 0, 1) := by decide +kernel
theorem dX4_integer_6 : decode cX4_integer 6 = .ok (.getfield 162, 3) := by decide +kernel
theorem dX4_integer_9 : decode cX4_integer 9 = .ok (.l2i, 1) := by decide +kernel
theorem dX4_integer_10 : decode cX4_integer 10 = .ok (.istore 4, 2) := by decide +kernel
theorem dX4_integer_12 : decode cX4_integer 12 = .ok (.aload_n 0, 1) := by decide +kernel
theorem dX4_integer_13 : decode cX4_integer 13 = .ok (.sipush 262, 3) := by decide +kernel
theorem dX4_integer_16 : decode cX4_integer 16 = .ok (.invokevirtual 63, 3) := by decide +kernel
theorem dX4_integer_19 : decode cX4_integer 19 = .ok (.ifCond .ne 5, 3) := by decide +kernel
theorem dX4_integer_22 : decode cX4_integer 22 = .ok (.iload_n 1, 1) := by decide +kernel
theorem dX4_integer_23 : decode cX4_integer 23 = .ok (.ireturn, 1) := by decide +kernel
theorem dX4_integer_24 : decode cX4_integer 24 = .ok (.iload 4, 2) := by decide +kernel
theorem dX4_integer_26 : decode cX4_integer 26 = .ok (.iload_n 1, 1) := by decide +kernel
theorem dX4_integer_27 : decode cX4_integer 27 = .ok (.if_icmp .lt 9, 3) := by decide +kernel
theorem dX4_integer_30 : decode cX4_integer 30 = .ok (.iload 4, 2) := by decide +kernel
theorem dX4_integer_32 : decode cX4_integer 32 = .ok (.iload_n 2, 1) := by decide +kernel
theorem dX4_integer_33 : decode cX4_integer 33 = .ok (.if_icmp .le 11, 3) := by decide +kernel
theorem dX4_integer_36 : decode cX4_integer 36 = .ok (.aload_n 0, 1) := by decide +kernel
theorem dX4_integer_37 : decode cX4_integer 37 = .ok (.iconst 5, 1) := by decide +kernel
theorem dX4_integer_38 : decode cX4_integer 38 = .ok (.iload_n 3, 1) := by decide +kernel
theorem dX4_integer_39 : decode cX4_integer 39 = .ok (.invokevirtual 166, 3) := by decide +kernel
theorem dX4_integer_42 : decode cX4_integer 42 = .ok (.iload_n 1, 1) := by decide +kernel
theorem dX4_integer_43 : decode cX4_integer 43 = .ok (.ireturn, 1) := by decide +kernel
theorem dX4_integer_44 : decode cX4_integer 44 = .ok (.iload 4, 2) := by decide +kernel
theorem dX4_integer_46 : decode cX4_integer 46 = .ok (.ireturn, 1) := by decide +kernel
def fX4_integer_36  (h : PH) (x0 : Nat) (x1 : Int32) (x3 : Int32) : Option (PH × Int32) :=
  oC (decide (hT h x0 = 5)) (oB (fX4_note h x0 5 x3) (fun h3 => some (h3, x1)))
set_option maxHeartbeats 4000000 in
theorem wfX4_integer_36 {args : Array Value} (b : Bd p s m c cX4_integer 5 RX4 D aC) (hlk : meth.locks = false) (hr : meth.sig.returnType = some .int) {Z : State → Prop} (zs : Z s) (zk : ZOK Z (Rg ad)) {hz : PH} {rz : Int32} {h : PH} {x0 : Nat} {x1 : Int32} {x3 : Int32}  {H : Heap} {locs : List Loc} {ls : Array Slot} (hf : fX4_integer_36 h x0 x1 x3 = some (hz, rz)) (hE : CE (EX D aC ad h) (Rg ad) s H locs) (hl : lv_has ls 5 [(0, .ref (ad x0)), (1, .int x1), (3, .int x3)]) : W p l e (RM 2 43 0 0) s m args below meth c H locs 0 0 (MQ below (PQ (EX D aC ad hz) (Rg ad) (some (.int rz))) args s 0 0 (Rg ad)) (F0 m 36 ls []) := by
  unfold fX4_integer_36 at hf
  refine lv_aload_n b.1 b.2.1 dX4_integer_36 rfl (lv_at hl 0 rfl) ?_
  refine lv_iconst (v := 5) b.1 b.2.1 dX4_integer_37 (by decide) ?_
  refine lv_iload_n b.1 b.2.1 dX4_integer_38 rfl (lv_at hl 2 rfl) ?_
  obtain ⟨t1, hf⟩ := oC_s hf
  have t1 := of_decide_eq_true t1
  obtain ⟨h3, hc2, hf⟩ := oB_s hf
  refine k_callV0 (C := RX4) b zs zk hE (CX4_note l D aC ad zk hc2) mc_X4_note (in2 199 rfl rfl) mi_X4_note ms_X4_note ini_RX4 ok_X4_note (x_recv b hE (ci := 4) rfl (by decide) t1) ⟨Nat.le_of_ble_eq_true rfl, Nat.le_of_ble_eq_true rfl⟩ rfl hl.1 rfl (k_room _ (by exact Nat.le_of_ble_eq_true rfl)) ⟨Nat.le_refl _, Nat.le_refl _⟩ dX4_integer_39 (fun H locs hE => ?_)
  refine lv_iload_n b.1 b.2.1 dX4_integer_42 rfl (lv_at hl 1 rfl) ?_
  cases hf
  exact k_iret b hlk hr hE (Nat.le_refl _) (Nat.le_refl _) dX4_integer_43
def fX4_integer_0  (h : PH) (x0 : Nat) (x1 : Int32) (x2 : Int32) : Option (PH × Int32) :=
  oC (decide (hT h x0 = 5)) (oL (hI h 522 x0) (fun y5 => oL (Int64.toInt32 (hL h 523 x0)) (fun y6 => oB2 (fX4_expect h x0 262) (fun h9 r8 => if r8 = 0 then (some (h9, x1)) else (if y6 < x1 then (fX4_integer_36  h9 x0 x1 y5) else (if y6 ≤ x2 then (some (h9, y6)) else (fX4_integer_36  h9 x0 x1 y5)))))))
set_option maxHeartbeats 4000000 in
theorem wfX4_integer_0 {args : Array Value} (b : Bd p s m c cX4_integer 5 RX4 D aC) (hlk : meth.locks = false) (hr : meth.sig.returnType = some .int) {Z : State → Prop} (zs : Z s) (zk : ZOK Z (Rg ad)) {hz : PH} {rz : Int32} {h : PH} {x0 : Nat} {x1 : Int32} {x2 : Int32}  {H : Heap} {locs : List Loc} {ls : Array Slot} (hf : fX4_integer_0 h x0 x1 x2 = some (hz, rz)) (hE : CE (EX D aC ad h) (Rg ad) s H locs) (hl : lv_has ls 5 [(0, .ref (ad x0)), (1, .int x1), (2, .int x2)]) : W p l e (RM 2 43 0 0) s m args below meth c H locs 0 0 (MQ below (PQ (EX D aC ad hz) (Rg ad) (some (.int rz))) args s 0 0 (Rg ad)) (F0 m 0 ls []) := by
  unfold fX4_integer_0 at hf
  refine lv_aload_n b.1 b.2.1 dX4_integer_0 rfl (lv_at hl 0 rfl) ?_
  obtain ⟨t4, hf⟩ := oC_s hf
  have t4 := of_decide_eq_true t4
  refine gX4_155 (x := (some x0)) b hE rfl t4 dX4_integer_1 ?_
  obtain ⟨y5, ey5, hf⟩ := oL_s hf
  refine k_nmI ey5 ?_
  refine lv_istore_n (lv' := [(3, .int y5), (0, .ref (ad x0)), (1, .int x1), (2, .int x2)]) b.1 b.2.1 dX4_integer_4 rfl hl (by decide) rfl (fun ls hl => ?_)
  refine lv_aload_n b.1 b.2.1 dX4_integer_5 rfl (lv_at hl 1 rfl) ?_
  refine gX4_162 (x := (some x0)) b hE rfl t4 dX4_integer_6 ?_
  refine lv_l2i b.1 b.2.1 dX4_integer_9 rfl ?_
  obtain ⟨y6, ey6, hf⟩ := oL_s hf
  refine k_nmI ey6 ?_
  refine lv_istore (lv' := [(4, .int y6), (3, .int y5), (0, .ref (ad x0)), (1, .int x1), (2, .int x2)]) b.1 b.2.1 dX4_integer_10 hl (by decide) rfl (fun ls hl => ?_)
  refine lv_aload_n b.1 b.2.1 dX4_integer_12 rfl (lv_at hl 2 rfl) ?_
  refine lv_sipush (v := 262) b.1 b.2.1 dX4_integer_13 (by decide) ?_
  obtain ⟨h9, r8, hc7, hf⟩ := oB2_s hf
  refine k_callV0 (C := RX4) b zs zk hE (CX4_expect l D aC ad zk hc7) mc_X4_expect (in2 179 rfl rfl) mi_X4_expect ms_X4_expect ini_RX4 ok_X4_expect (x_recv b hE (ci := 4) rfl (by decide) t4) ⟨Nat.le_of_ble_eq_true rfl, Nat.le_of_ble_eq_true rfl⟩ rfl hl.1 rfl (k_room _ (by exact Nat.le_of_ble_eq_true rfl)) ⟨Nat.le_refl _, Nat.le_refl _⟩ dX4_integer_16 (fun H locs hE => ?_)
  refine lv_if_ne (tgt := 24) b.1 b.2.1 dX4_integer_19 (by decide) (fun c10 => ?_) (fun c10 => ?_)
  · have hf := oI_f c10 hf
    refine lv_iload b.1 b.2.1 dX4_integer_24 (lv_at hl 0 rfl) ?_
    refine lv_iload_n b.1 b.2.1 dX4_integer_26 rfl (lv_at hl 3 rfl) ?_
    refine lv_icmp_lt (tgt := 36) b.1 b.2.1 dX4_integer_27 (by decide) (fun c11 => ?_) (fun c11 => ?_)
    · have hf := oI_t c11 hf
      exact wfX4_integer_36 b hlk hr zs zk  hf hE (lv_sub hl [2, 3, 1] rfl)
    · have hf := oI_f c11 hf
      refine lv_iload b.1 b.2.1 dX4_integer_30 (lv_at hl 0 rfl) ?_
      refine lv_iload_n b.1 b.2.1 dX4_integer_32 rfl (lv_at hl 4 rfl) ?_
      refine lv_icmp_le (tgt := 44) b.1 b.2.1 dX4_integer_33 (by decide) (fun c12 => ?_) (fun c12 => ?_)
      · have hf := oI_t c12 hf
        refine lv_iload b.1 b.2.1 dX4_integer_44 (lv_at hl 0 rfl) ?_
        cases hf
        exact k_iret b hlk hr hE (Nat.le_refl _) (Nat.le_refl _) dX4_integer_46
      · have hf := oI_f c12 hf
        exact wfX4_integer_36 b hlk hr zs zk  hf hE (lv_sub hl [2, 3, 1] rfl)
  · have hf := oI_t c10 hf
    refine lv_iload_n b.1 b.2.1 dX4_integer_22 rfl (lv_at hl 3 rfl) ?_
    cases hf
    exact k_iret b hlk hr hE (Nat.le_refl _) (Nat.le_refl _) dX4_integer_23
def fX4_integer (h : PH) (x0 : Nat) (x1 : Int32) (x2 : Int32) : Option (PH × Int32) := fX4_integer_0 h x0 x1 x2
set_option maxHeartbeats 4000000 in
theorem CX4_integer (l : Launch) (D : va_G) (aC : Nat → ClassId) (ad : Nat → Nat) {Z : State → Prop} (zk : ZOK Z (Rg ad)) {h : PH} {x0 : Nat} {x1 : Int32} {x2 : Int32} {hz : PH} {rz : Int32} (hf : fX4_integer h x0 x1 x2 = some (hz, rz)) : CM l D aC Z yX4_integer cX4_integer 5 (some .int) 2 43 0 0 (EX D aC ad h) [.ref (ad x0), .int x1, .int x2] (EX D aC ad hz) (some (.int rz)) (Rg ad) := by
  refine CM.of rfl ?_
  intro p e s m below meth c b hr hlk hin2 zs hE
  refine k_ent (Nat.le_of_ble_eq_true rfl) (fun ls hl => ?_)
  exact wfX4_integer_0 b hlk hr zs zk hf hE (lv_sub hl [0, 1, 2] rfl)
theorem dX4_tellWord_0 : decode cX4_tellWord 0 = .ok (.aload_n 0, 1) := by decide +kernel
theorem dX4_tellWord_1 : decode cX4_tellWord 1 = .ok (.sipush 301, 3) := by decide +kernel
theorem dX4_tellWord_4 : decode cX4_tellWord 4 = .ok (.invokevirtual 63, 3) := by decide +kernel
theorem dX4_tellWord_7 : decode cX4_tellWord 7 = .ok (.pop, 1) := by decide +kernel
theorem dX4_tellWord_8 : decode cX4_tellWord 8 = .ok (.aload_n 0, 1) := by decide +kernel
theorem dX4_tellWord_9 : decode cX4_tellWord 9 = .ok (.aload_n 0, 1) := by decide +kernel
theorem dX4_tellWord_10 : decode cX4_tellWord 10 = .ok (.getfield 25, 3) := by decide +kernel
theorem dX4_tellWord_13 : decode cX4_tellWord 13 = .ok (.getfield 183, 3) := by decide +kernel
theorem dX4_tellWord_16 : decode cX4_tellWord 16 = .ok (.invokevirtual 98, 3) := by decide +kernel
theorem dX4_tellWord_19 : decode cX4_tellWord 19 = .ok (.istore_n 1, 1) := by decide +kernel
theorem dX4_tellWord_20 : decode cX4_tellWord 20 = .ok (.aload_n 0, 1) := by decide +kernel
theorem dX4_tellWord_21 : decode cX4_tellWord 21 = .ok (.iconst 0, 1) := by decide +kernel
theorem dX4_tellWord_22 : decode cX4_tellWord 22 = .ok (.iconst 2, 1) := by decide +kernel
theorem dX4_tellWord_23 : decode cX4_tellWord 23 = .ok (.invokevirtual 186, 3) := by decide +kernel
theorem dX4_tellWord_26 : decode cX4_tellWord 26 = .ok (.istore_n 2, 1) := by decide +kernel
theorem dX4_tellWord_27 : decode cX4_tellWord 27 = .ok (.aload_n 0, 1) := by decide +kernel
theorem dX4_tellWord_28 : decode cX4_tellWord 28 = .ok (.bipush 59, 2) := by decide +kernel
theorem dX4_tellWord_30 : decode cX4_tellWord 30 = .ok (.invokevirtual 63, 3) := by decide +kernel
theorem dX4_tellWord_33 : decode cX4_tellWord 33 = .ok (.pop, 1) := by decide +kernel
theorem dX4_tellWord_34 : decode cX4_tellWord 34 = .ok (.aload_n 0, 1) := by decide +kernel
theorem dX4_tellWord_35 : decode cX4_tellWord 35 = .ok (.getfield 25, 3) := by decide +kernel
theorem dX4_tellWord_38 : decode cX4_tellWord 38 = .ok (.iload_n 1, 1) := by decide +kernel
theorem dX4_tellWord_39 : decode cX4_tellWord 39 = .ok (.iload_n 2, 1) := by decide +kernel
theorem dX4_tellWord_40 : decode cX4_tellWord 40 = .ok (.invokevirtual 190, 3) := by decide +kernel
theorem dX4_tellWord_43 : decode cX4_tellWord 43 = .ok (.return_, 1) := by decide +kernel
def fX4_tellWord_0  (h : PH) (x0 : Nat) : Option (PH) :=
  oC (decide (hT h x0 = 5)) (oB2 (fX4_expect h x0 301) (fun h4 r3 => oC (decide (hT h4 x0 = 5)) (oN (hR h4 512 x0) (fun a6 => oC (decide (hT h4 a6 = 2)) (oB2 (fX4_tellName h4 x0 (hR h4 129 a6)) (fun h10 r9 => oC (decide (hT h10 x0 = 5)) (oB2 (fX4_integer h10 x0 0 2) (fun h14 r13 => oC (decide (hT h14 x0 = 5)) (oB2 (fX4_expect h14 x0 59) (fun h18 r17 => oC (decide (hT h18 x0 = 5)) (oN (hR h18 512 x0) (fun a20 => oC (decide (hT h18 a20 = 2)) (oB (fX1_setPlaces h18 a20 r9 r13) (fun h23 => some (h23)))))))))))))))
set_option maxHeartbeats 4000000 in
theorem wfX4_tellWord_0 {args : Array Value} (b : Bd p s m c cX4_tellWord 3 RX4 D aC) (hlk : meth.locks = false) (hr : meth.sig.returnType = none) {Z : State → Prop} (zs : Z s) (zk : ZOK Z (Rg ad)) {hz : PH} {h : PH} {x0 : Nat}  {H : Heap} {locs : List Loc} {ls : Array Slot} (hf : fX4_tellWord_0 h x0 = some hz) (hE : CE (EX D aC ad h) (Rg ad) s H locs) (hl : lv_has ls 3 [(0, .ref (ad x0))]) : W p l e (RM 3 67 0 0) s m args below meth c H locs 0 0 (MQ below (PQ (EX D aC ad hz) (Rg ad) none) args s 0 0 (Rg ad)) (F0 m 0 ls []) := by
  unfold fX4_tellWord_0 at hf
  refine lv_aload_n b.1 b.2.1 dX4_tellWord_0 rfl (lv_at hl 0 rfl) ?_
  refine lv_sipush (v := 301) b.1 b.2.1 dX4_tellWord_1 (by decide) ?_
  obtain ⟨t1, hf⟩ := oC_s hf
  have t1 := of_decide_eq_true t1
  obtain ⟨h4, r3, hc2, hf⟩ := oB2_s hf
  refine k_callV0 (C := RX4) b zs zk hE (CX4_expect l D aC ad zk hc2) mc_X4_expect (in2 179 rfl rfl) mi_X4_expect ms_X4_expect ini_RX4 ok_X4_expect (x_recv b hE (ci := 4) rfl (by decide) t1) ⟨Nat.le_of_ble_eq_true rfl, Nat.le_of_ble_eq_true rfl⟩ rfl hl.1 rfl (k_room _ (by exact Nat.le_of_ble_eq_true rfl)) ⟨Nat.le_refl _, Nat.le_refl _⟩ dX4_tellWord_4 (fun H locs hE => ?_)
  refine lv_pop b.1 b.2.1 dX4_tellWord_7 rfl ?_
  refine lv_aload_n b.1 b.2.1 dX4_tellWord_8 rfl (lv_at hl 0 rfl) ?_
  refine lv_aload_n b.1 b.2.1 dX4_tellWord_9 rfl (lv_at hl 0 rfl) ?_
  obtain ⟨t5, hf⟩ := oC_s hf
  have t5 := of_decide_eq_true t5
  refine gX4_25 (x := (some x0)) b hE rfl t5 dX4_tellWord_10 ?_
  obtain ⟨a6, ea6, hf⟩ := oN_s hf
  obtain ⟨t7, hf⟩ := oC_s hf
  have t7 := of_decide_eq_true t7
  refine gX4_183 (x := (hR h4 512 x0)) b hE ea6 t7 dX4_tellWord_13 ?_
  obtain ⟨h10, r9, hc8, hf⟩ := oB2_s hf
  refine k_callV0 (C := RX4) b zs zk hE (CX4_tellName l D aC ad zk hc8) mc_X4_tellName (in2 187 rfl rfl) mi_X4_tellName ms_X4_tellName ini_RX4 ok_X4_tellName (x_recv b hE (ci := 4) rfl (by decide) t5) ⟨Nat.le_of_ble_eq_true rfl, Nat.le_of_ble_eq_true rfl⟩ rfl hl.1 rfl (k_room _ (by exact Nat.le_of_ble_eq_true rfl)) ⟨Nat.le_refl _, Nat.le_refl _⟩ dX4_tellWord_16 (fun H locs hE => ?_)
  refine lv_istore_n (lv' := [(1, .int r9), (0, .ref (ad x0))]) b.1 b.2.1 dX4_tellWord_19 rfl hl (by decide) rfl (fun ls hl => ?_)
  refine lv_aload_n b.1 b.2.1 dX4_tellWord_20 rfl (lv_at hl 1 rfl) ?_
  refine lv_iconst (v := 0) b.1 b.2.1 dX4_tellWord_21 (by decide) ?_
  refine lv_iconst (v := 2) b.1 b.2.1 dX4_tellWord_22 (by decide) ?_
  obtain ⟨t11, hf⟩ := oC_s hf
  have t11 := of_decide_eq_true t11
  obtain ⟨h14, r13, hc12, hf⟩ := oB2_s hf
  refine k_callV0 (C := RX4) b zs zk hE (CX4_integer l D aC ad zk hc12) mc_X4_integer (in3 78 rfl rfl) mi_X4_integer ms_X4_integer ini_RX4 ok_X4_integer (x_recv b hE (ci := 4) rfl (by decide) t11) ⟨Nat.le_of_ble_eq_true rfl, Nat.le_of_ble_eq_true rfl⟩ rfl hl.1 rfl (k_room _ (by exact Nat.le_of_ble_eq_true rfl)) ⟨Nat.le_refl _, Nat.le_refl _⟩ dX4_tellWord_23 (fun H locs hE => ?_)
  refine lv_istore_n (lv' := [(2, .int r13), (1, .int r9), (0, .ref (ad x0))]) b.1 b.2.1 dX4_tellWord_26 rfl hl (by decide) rfl (fun ls hl => ?_)
  refine lv_aload_n b.1 b.2.1 dX4_tellWord_27 rfl (lv_at hl 2 rfl) ?_
  refine lv_bipush (v := 59) b.1 b.2.1 dX4_tellWord_28 (by decide) ?_
  obtain ⟨t15, hf⟩ := oC_s hf
  have t15 := of_decide_eq_true t15
  obtain ⟨h18, r17, hc16, hf⟩ := oB2_s hf
  refine k_callV0 (C := RX4) b zs zk hE (CX4_expect l D aC ad zk hc16) mc_X4_expect (in2 179 rfl rfl) mi_X4_expect ms_X4_expect ini_RX4 ok_X4_expect (x_recv b hE (ci := 4) rfl (by decide) t15) ⟨Nat.le_of_ble_eq_true rfl, Nat.le_of_ble_eq_true rfl⟩ rfl hl.1 rfl (k_room _ (by exact Nat.le_of_ble_eq_true rfl)) ⟨Nat.le_refl _, Nat.le_refl _⟩ dX4_tellWord_30 (fun H locs hE => ?_)
  refine lv_pop b.1 b.2.1 dX4_tellWord_33 rfl ?_
  refine lv_aload_n b.1 b.2.1 dX4_tellWord_34 rfl (lv_at hl 2 rfl) ?_
  obtain ⟨t19, hf⟩ := oC_s hf
  have t19 := of_decide_eq_true t19
  refine gX4_25 (x := (some x0)) b hE rfl t19 dX4_tellWord_35 ?_
  refine lv_iload_n b.1 b.2.1 dX4_tellWord_38 rfl (lv_at hl 1 rfl) ?_
  refine lv_iload_n b.1 b.2.1 dX4_tellWord_39 rfl (lv_at hl 0 rfl) ?_
  obtain ⟨a20, ea20, hf⟩ := oN_s hf
  obtain ⟨t21, hf⟩ := oC_s hf
  have t21 := of_decide_eq_true t21
  obtain ⟨h23, hc22, hf⟩ := oB_s hf
  refine k_stk [.int r13, .int r9] ea20 ?_
  refine k_callV0 (C := RX1) b zs zk hE (CX1_setPlaces l D aC ad zk hc22) mc_X1_setPlaces (in3 135 rfl rfl) mi_X1_setPlaces ms_X1_setPlaces ini_RX1 ok_X1_setPlaces (x_recv b hE (ci := 1) rfl (by decide) t21) ⟨Nat.le_of_ble_eq_true rfl, Nat.le_of_ble_eq_true rfl⟩ rfl hl.1 rfl (k_room _ (by exact Nat.le_of_ble_eq_true rfl)) ⟨Nat.le_refl _, Nat.le_refl _⟩ dX4_tellWord_40 (fun H locs hE => ?_)
  cases hf
  exact k_vret b hlk hr hE (Nat.le_refl _) (Nat.le_refl _) dX4_tellWord_43
def fX4_tellWord (h : PH) (x0 : Nat) : Option (PH) := fX4_tellWord_0 h x0
set_option maxHeartbeats 4000000 in
theorem CX4_tellWord (l : Launch) (D : va_G) (aC : Nat → ClassId) (ad : Nat → Nat) {Z : State → Prop} (zk : ZOK Z (Rg ad)) {h : PH} {x0 : Nat} {hz : PH} (hf : fX4_tellWord h x0 = some hz) : CM l D aC Z yX4_tellWord cX4_tellWord 3 (none) 3 67 0 0 (EX D aC ad h) [.ref (ad x0)] (EX D aC ad hz) none (Rg ad) := by
  refine CM.of rfl ?_
  intro p e s m below meth c b hr hlk hin2 zs hE
  refine k_ent (Nat.le_of_ble_eq_true rfl) (fun ls hl => ?_)
  exact wfX4_tellWord_0 b hlk hr zs zk hf hE (lv_sub hl [0] rfl)
theorem dX4_skip_0 : decode cX4_skip 0 = .ok (.aload_n 0, 1) := by decide +kernel
theorem dX4_skip_1 : decode cX4_skip 1 = .ok (.getfield 60, 3) := by decide +kernel
theorem dX4_skip_4 : decode cX4_skip 4 = .ok (.iload_n 1, 1) := by decide +kernel
theorem dX4_skip_5 : decode cX4_skip 5 = .ok (.if_icmp .ne 15, 3) := by decide +kernel
theorem dX4_skip_8 : decode cX4_skip 8 = .ok (.aload_n 0, 1) := by decide +kernel
theorem dX4_skip_9 : decode cX4_skip 9 = .ok (.iload_n 1, 1) := by decide +kernel
theorem dX4_skip_10 : decode cX4_skip 10 = .ok (.invokevirtual 63, 3) := by decide +kernel
theorem dX4_skip_13 : decode cX4_skip 13 = .ok (.ifCond .eq 7, 3) := by decide +kernel
theorem dX4_skip_16 : decode cX4_skip 16 = .ok (.iconst 1, 1) := by decide +kernel
theorem dX4_skip_17 : decode cX4_skip 17 = .ok (.goto 4, 3) := by decide +kernel
theorem dX4_skip_20 : decode cX4_skip 20 = .ok (.iconst 0, 1) := by decide +kernel
theorem dX4_skip_21 : decode cX4_skip 21 = .ok (.ireturn, 1) := by decide +kernel
def fX4_skip_0  (h : PH) (x0 : Nat) (x1 : Int32) : Option (PH × Int32) :=
  oC (decide (hT h x0 = 5)) (if (hI h 521 x0) = x1 then (oB2 (fX4_expect h x0 x1) (fun h5 r4 => if r4 = 0 then (some (h5, 0)) else (some (h5, 1)))) else (some (h, 0)))
set_option maxHeartbeats 4000000 in
theorem wfX4_skip_0 {args : Array Value} (b : Bd p s m c cX4_skip 2 RX4 D aC) (hlk : meth.locks = false) (hr : meth.sig.returnType = some .boolean) {Z : State → Prop} (zs : Z s) (zk : ZOK Z (Rg ad)) {hz : PH} {rz : Int32} {h : PH} {x0 : Nat} {x1 : Int32}  {H : Heap} {locs : List Loc} {ls : Array Slot} (hf : fX4_skip_0 h x0 x1 = some (hz, rz)) (hE : CE (EX D aC ad h) (Rg ad) s H locs) (hl : lv_has ls 2 [(0, .ref (ad x0)), (1, .int x1)]) : W p l e (RM 2 43 0 0) s m args below meth c H locs 0 0 (MQ below (PQ (EX D aC ad hz) (Rg ad) (some (.int rz))) args s 0 0 (Rg ad)) (F0 m 0 ls []) := by
  unfold fX4_skip_0 at hf
  refine lv_aload_n b.1 b.2.1 dX4_skip_0 rfl (lv_at hl 0 rfl) ?_
  obtain ⟨t1, hf⟩ := oC_s hf
  have t1 := of_decide_eq_true t1
  refine gX4_60 (x := (some x0)) b hE rfl t1 dX4_skip_1 ?_
  refine lv_iload_n b.1 b.2.1 dX4_skip_4 rfl (lv_at hl 1 rfl) ?_
  refine lv_icmp_ne (tgt := 20) b.1 b.2.1 dX4_skip_5 (by decide) (fun c2 => ?_) (fun c2 => ?_)
  · have hf := oI_f c2 hf
    refine lv_iconst (v := 0) b.1 b.2.1 dX4_skip_20 (by decide) ?_
    cases hf
    exact k_zret b hlk hr (by decide) hE (Nat.le_refl _) (Nat.le_refl _) dX4_skip_21
  · have hf := oI_t c2 hf
    refine lv_aload_n b.1 b.2.1 dX4_skip_8 rfl (lv_at hl 0 rfl) ?_
    refine lv_iload_n b.1 b.2.1 dX4_skip_9 rfl (lv_at hl 1 rfl) ?_
    obtain ⟨h5, r4, hc3, hf⟩ := oB2_s hf
    refine k_callV0 (C := RX4) b zs zk hE (CX4_expect l D aC ad zk hc3) mc_X4_expect (in2 179 rfl rfl) mi_X4_expect ms_X4_expect ini_RX4 ok_X4_expect (x_recv b hE (ci := 4) rfl (by decide) t1) ⟨Nat.le_of_ble_eq_true rfl, Nat.le_of_ble_eq_true rfl⟩ rfl hl.1 rfl (k_room _ (by exact Nat.le_of_ble_eq_true rfl)) ⟨Nat.le_refl _, Nat.le_refl _⟩ dX4_skip_10 (fun H locs hE => ?_)
    refine lv_if_eq (tgt := 20) b.1 b.2.1 dX4_skip_13 (by decide) (fun c6 => ?_) (fun c6 => ?_)
    · have hf := oI_t c6 hf
      refine lv_iconst (v := 0) b.1 b.2.1 dX4_skip_20 (by decide) ?_
      cases hf
      exact k_zret b hlk hr (by decide) hE (Nat.le_refl _) (Nat.le_refl _) dX4_skip_21
    · have hf := oI_f c6 hf
      refine lv_iconst (v := 1) b.1 b.2.1 dX4_skip_16 (by decide) ?_
      refine lv_goto (tgt := 21) b.1 b.2.1 dX4_skip_17 (by decide) ?_
      cases hf
      exact k_zret b hlk hr (by decide) hE (Nat.le_refl _) (Nat.le_refl _) dX4_skip_21
def fX4_skip (h : PH) (x0 : Nat) (x1 : Int32) : Option (PH × Int32) := fX4_skip_0 h x0 x1
set_option maxHeartbeats 4000000 in
theorem CX4_skip (l : Launch) (D : va_G) (aC : Nat → ClassId) (ad : Nat → Nat) {Z : State → Prop} (zk : ZOK Z (Rg ad)) {h : PH} {x0 : Nat} {x1 : Int32} {hz : PH} {rz : Int32} (hf : fX4_skip h x0 x1 = some (hz, rz)) : CM l D aC Z yX4_skip cX4_skip 2 (some .boolean) 2 43 0 0 (EX D aC ad h) [.ref (ad x0), .int x1] (EX D aC ad hz) (some (.int rz)) (Rg ad) := by
  refine CM.of rfl ?_
  intro p e s m below meth c b hr hlk hin2 zs hE
  refine k_ent (Nat.le_of_ble_eq_true rfl) (fun ls hl => ?_)
  exact wfX4_skip_0 b hlk hr zs zk hf hE (lv_sub hl [0, 1] rfl)
theorem dX4_tellLaw_0 : decode cX4_tellLaw 0 = .ok (.aload_n 0, 1) := by decide +kernel
theorem dX4_tellLaw_1 : decode cX4_tellLaw 1 = .ok (.sipush 303, 3) := by decide +kernel
theorem dX4_tellLaw_4 : decode cX4_tellLaw 4 = .ok (.invokevirtual 63, 3) := by decide +kernel
theorem dX4_tellLaw_7 : decode cX4_tellLaw 7 = .ok (.pop, 1) := by decide +kernel
theorem dX4_tellLaw_8 : decode cX4_tellLaw 8 = .ok (.aload_n 0, 1) := by decide +kernel
theorem dX4_tellLaw_9 : decode cX4_tellLaw 9 = .ok (.aload_n 0, 1) := by decide +kernel
theorem dX4_tellLaw_10 : decode cX4_tellLaw 10 = .ok (.getfield 25, 3) := by decide +kernel
theorem dX4_tellLaw_13 : decode cX4_tellLaw 13 = .ok (.getfield 193, 3) := by decide +kernel
theorem dX4_tellLaw_16 : decode cX4_tellLaw 16 = .ok (.invokevirtual 98, 3) := by decide +kernel
theorem dX4_tellLaw_19 : decode cX4_tellLaw 19 = .ok (.istore_n 1, 1) := by decide +kernel
theorem dX4_tellLaw_20 : decode cX4_tellLaw 20 = .ok (.aload_n 0, 1) := by decide +kernel
theorem dX4_tellLaw_21 : decode cX4_tellLaw 21 = .ok (.sipush 304, 3) := by decide +kernel
theorem dX4_tellLaw_24 : decode cX4_tellLaw 24 = .ok (.invokevirtual 63, 3) := by decide +kernel
theorem dX4_tellLaw_27 : decode cX4_tellLaw 27 = .ok (.pop, 1) := by decide +kernel
theorem dX4_tellLaw_28 : decode cX4_tellLaw 28 = .ok (.aload_n 0, 1) := by decide +kernel
theorem dX4_tellLaw_29 : decode cX4_tellLaw 29 = .ok (.iconst 0, 1) := by decide +kernel
theorem dX4_tellLaw_30 : decode cX4_tellLaw 30 = .ok (.bipush 9, 2) := by decide +kernel
theorem dX4_tellLaw_32 : decode cX4_tellLaw 32 = .ok (.invokevirtual 186, 3) := by decide +kernel
theorem dX4_tellLaw_35 : decode cX4_tellLaw 35 = .ok (.istore_n 2, 1) := by decide +kernel
theorem dX4_tellLaw_36 : decode cX4_tellLaw 36 = .ok (.aload_n 0, 1) := by decide +kernel
theorem dX4_tellLaw_37 : decode cX4_tellLaw 37 = .ok (.sipush 305, 3) := by decide +kernel
theorem dX4_tellLaw_40 : decode cX4_tellLaw 40 = .ok (.invokevirtual 63, 3) := by decide +kernel
theorem dX4_tellLaw_43 : decode cX4_tellLaw 43 = .ok (.pop, 1) := by decide +kernel
theorem dX4_tellLaw_44 : decode cX4_tellLaw 44 = .ok (.aload_n 0, 1) := by decide +kernel
theorem dX4_tellLaw_45 : decode cX4_tellLaw 45 = .ok (.iconst 0, 1) := by decide +kernel
theorem dX4_tellLaw_46 : decode cX4_tellLaw 46 = .ok (.ldc 196, 2) := by decide +kernel
theorem dX4_tellLaw_48 : decode cX4_tellLaw 48 = .ok (.invokevirtual 186, 3) := by decide +kernel
theorem dX4_tellLaw_51 : decode cX4_tellLaw 51 = .ok (.istore_n 3, 1) := by decide +kernel
theorem dX4_tellLaw_52 : decode cX4_tellLaw 52 = .ok (.aload_n 0, 1) := by decide +kernel
theorem dX4_tellLaw_53 : decode cX4_tellLaw 53 = .ok (.sipush 306, 3) := by decide +kernel
theorem dX4_tellLaw_56 : decode cX4_tellLaw 56 = .ok (.invokevirtual 120, 3) := by decide +kernel
theorem dX4_tellLaw_59 : decode cX4_tellLaw 59 = .ok (.ifCond .eq 15, 3) := by decide +kernel
theorem dX4_tellLaw_62 : decode cX4_tellLaw 62 = .ok (.aload_n 0, 1) := by decide +kernel
theorem dX4_tellLaw_63 : decode cX4_tellLaw 63 = .ok (.iload_n 3, 1) := by decide +kernel
theorem dX4_tellLaw_64 : decode cX4_tellLaw 64 = .ok (.iconst 1, 1) := by decide +kernel
theorem dX4_tellLaw_65 : decode cX4_tellLaw 65 = .ok (.iadd, 1) := by decide +kernel
theorem dX4_tellLaw_66 : decode cX4_tellLaw 66 = .ok (.ldc 196, 2) := by decide +kernel
theorem dX4_tellLaw_68 : decode cX4_tellLaw 68 = .ok (.invokevirtual 186, 3) := by decide +kernel
theorem dX4_tellLaw_71 : decode cX4_tellLaw 71 = .ok (.goto 4, 3) := by decide +kernel
theorem dX4_tellLaw_74 : decode cX4_tellLaw 74 = .ok (.iconst (-1), 1) := by decide +kernel
theorem dX4_tellLaw_75 : decode cX4_tellLaw 75 = .ok (.istore 4, 2) := by decide +kernel
theorem dX4_tellLaw_77 : decode cX4_tellLaw 77 = .ok (.aload_n 0, 1) := by decide +kernel
theorem dX4_tellLaw_78 : decode cX4_tellLaw 78 = .ok (.aload_n 0, 1) := by decide +kernel
theorem dX4_tellLaw_79 : decode cX4_tellLaw 79 = .ok (.bipush 59, 2) := by decide +kernel
theorem dX4_tellLaw_81 : decode cX4_tellLaw 81 = .ok (.invokevirtual 63, 3) := by decide +kernel
theorem dX4_tellLaw_84 : decode cX4_tellLaw 84 = .ok (.putfield 40, 3) := by decide +kernel
theorem dX4_tellLaw_87 : decode cX4_tellLaw 87 = .ok (.aload_n 0, 1) := by decide +kernel
theorem dX4_tellLaw_88 : decode cX4_tellLaw 88 = .ok (.getfield 25, 3) := by decide +kernel
theorem dX4_tellLaw_91 : decode cX4_tellLaw 91 = .ok (.iload_n 1, 1) := by decide +kernel
theorem dX4_tellLaw_92 : decode cX4_tellLaw 92 = .ok (.iload_n 2, 1) := by decide +kernel
theorem dX4_tellLaw_93 : decode cX4_tellLaw 93 = .ok (.aload_n 0, 1) := by decide +kernel
theorem dX4_tellLaw_94 : decode cX4_tellLaw 94 = .ok (.getfield 33, 3) := by decide +kernel
theorem dX4_tellLaw_97 : decode cX4_tellLaw 97 = .ok (.iload_n 3, 1) := by decide +kernel
theorem dX4_tellLaw_98 : decode cX4_tellLaw 98 = .ok (.iload 4, 2) := by decide +kernel
theorem dX4_tellLaw_100 : decode cX4_tellLaw 100 = .ok (.invokevirtual 197, 3) := by decide +kernel
theorem dX4_tellLaw_103 : decode cX4_tellLaw 103 = .ok (.return_, 1) := by decide +kernel
def fX4_tellLaw_75  (h : PH) (x0 : Nat) (x1 : Int32) (x2 : Int32) (x3 : Int32) (s0 : Int32) : Option (PH) :=
  oC (decide (hT h x0 = 5)) (oB2 (fX4_expect h x0 59) (fun h4 r3 => oC (isB r3) (oC (decide (hT h4 x0 = 5)) (oL (sI h4 519 x0 r3) (fun h7 => oN (hR h7 512 x0) (fun a9 => oC (decide (hT h7 a9 = 2)) (oB (fX1_setLaw h7 a9 x1 x2 (hI h7 518 x0) x3 s0) (fun h12 => some (h12)))))))))
set_option maxHeartbeats 4000000 in
theorem wfX4_tellLaw_75 {args : Array Value} (b : Bd p s m c cX4_tellLaw 5 RX4 D aC) (hlk : meth.locks = false) (hr : meth.sig.returnType = none) {Z : State → Prop} (zs : Z s) (zk : ZOK Z (Rg ad)) {hz : PH} {h : PH} {x0 : Nat} {x1 : Int32} {x2 : Int32} {x3 : Int32} {s0 : Int32}  {H : Heap} {locs : List Loc} {ls : Array Slot} (hf : fX4_tellLaw_75 h x0 x1 x2 x3 s0 = some hz) (hE : CE (EX D aC ad h) (Rg ad) s H locs) (hl : lv_has ls 5 [(0, .ref (ad x0)), (1, .int x1), (2, .int x2), (3, .int x3)]) : W p l e (RM 3 67 0 0) s m args below meth c H locs 0 0 (MQ below (PQ (EX D aC ad hz) (Rg ad) none) args s 0 0 (Rg ad)) (F0 m 75 ls [.int s0]) := by
  unfold fX4_tellLaw_75 at hf
  refine lv_istore (lv' := [(4, .int s0), (0, .ref (ad x0)), (1, .int x1), (2, .int x2), (3, .int x3)]) b.1 b.2.1 dX4_tellLaw_75 hl (by decide) rfl (fun ls hl => ?_)
  refine lv_aload_n b.1 b.2.1 dX4_tellLaw_77 rfl (lv_at hl 1 rfl) ?_
  refine lv_aload_n b.1 b.2.1 dX4_tellLaw_78 rfl (lv_at hl 1 rfl) ?_
  refine lv_bipush (v := 59) b.1 b.2.1 dX4_tellLaw_79 (by decide) ?_
  obtain ⟨t1, hf⟩ := oC_s hf
  have t1 := of_decide_eq_true t1
  obtain ⟨h4, r3, hc2, hf⟩ := oB2_s hf
  refine k_callV0 (C := RX4) b zs zk hE (CX4_expect l D aC ad zk hc2) mc_X4_expect (in2 179 rfl rfl) mi_X4_expect ms_X4_expect ini_RX4 ok_X4_expect (x_recv b hE (ci := 4) rfl (by decide) t1) ⟨Nat.le_of_ble_eq_true rfl, Nat.le_of_ble_eq_true rfl⟩ rfl hl.1 rfl (k_room _ (by exact Nat.le_of_ble_eq_true rfl)) ⟨Nat.le_refl _, Nat.le_refl _⟩ dX4_tellLaw_81 (fun H locs hE => ?_)
  obtain ⟨g5, hf⟩ := oC_s hf
  obtain ⟨t6, hf⟩ := oC_s hf
  have t6 := of_decide_eq_true t6
  obtain ⟨h7, eh7, hf⟩ := oL_s hf
  refine pX4_40 (x := (some x0)) b hE rfl t6 g5 eh7 dX4_tellLaw_84 (fun H locs hE => ?_)
  refine lv_aload_n b.1 b.2.1 dX4_tellLaw_87 rfl (lv_at hl 1 rfl) ?_
  have t8 := tg_sI eh7 t6
  refine gX4_25 (x := (some x0)) b hE rfl t8 dX4_tellLaw_88 ?_
  refine lv_iload_n b.1 b.2.1 dX4_tellLaw_91 rfl (lv_at hl 2 rfl) ?_
  refine lv_iload_n b.1 b.2.1 dX4_tellLaw_92 rfl (lv_at hl 3 rfl) ?_
  refine lv_aload_n b.1 b.2.1 dX4_tellLaw_93 rfl (lv_at hl 1 rfl) ?_
  refine gX4_33 (x := (some x0)) b hE rfl t8 dX4_tellLaw_94 ?_
  refine lv_iload_n b.1 b.2.1 dX4_tellLaw_97 rfl (lv_at hl 4 rfl) ?_
  refine lv_iload b.1 b.2.1 dX4_tellLaw_98 (lv_at hl 0 rfl) ?_
  obtain ⟨a9, ea9, hf⟩ := oN_s hf
  obtain ⟨t10, hf⟩ := oC_s hf
  have t10 := of_decide_eq_true t10
  obtain ⟨h12, hc11, hf⟩ := oB_s hf
  refine k_stk [.int s0, .int x3, .int (hI h7 518 x0), .int x2, .int x1] ea9 ?_
  refine k_callV0 (C := RX1) b zs zk hE (CX1_setLaw l D aC ad zk hc11) mc_X1_setLaw (in3 143 rfl rfl) mi_X1_setLaw ms_X1_setLaw ini_RX1 ok_X1_setLaw (x_recv b hE (ci := 1) rfl (by decide) t10) ⟨Nat.le_of_ble_eq_true rfl, Nat.le_of_ble_eq_true rfl⟩ rfl hl.1 rfl (k_room _ (by exact Nat.le_of_ble_eq_true rfl)) ⟨Nat.le_refl _, Nat.le_refl _⟩ dX4_tellLaw_100 (fun H locs hE => ?_)
  cases hf
  exact k_vret b hlk hr hE (Nat.le_refl _) (Nat.le_refl _) dX4_tellLaw_103
def fX4_tellLaw_0  (h : PH) (x0 : Nat) : Option (PH) :=
  oC (decide (hT h x0 = 5)) (oB2 (fX4_expect h x0 303) (fun h16 r15 => oC (decide (hT h16 x0 = 5)) (oN (hR h16 512 x0) (fun a18 => oC (decide (hT h16 a18 = 2)) (oB2 (fX4_tellName h16 x0 (hR h16 131 a18)) (fun h22 r21 => oC (decide (hT h22 x0 = 5)) (oB2 (fX4_expect h22 x0 304) (fun h26 r25 => oC (decide (hT h26 x0 = 5)) (oB2 (fX4_integer h26 x0 0 9) (fun h30 r29 => oC (decide (hT h30 x0 = 5)) (oB2 (fX4_expect h30 x0 305) (fun h34 r33 => oC (decide (hT h34 x0 = 5)) (oB2 (fX4_integer h34 x0 0 999999) (fun h38 r37 => oC (decide (hT h38 x0 = 5)) (oB2 (fX4_skip h38 x0 306) (fun h42 r41 => if r41 = 0 then (fX4_tellLaw_75  h42 x0 r21 r29 r37 (-1)) else (oC (decide (hT h42 x0 = 5)) (oB2 (fX4_integer h42 x0 (r37 + 1) 999999) (fun h47 r46 => fX4_tellLaw_75  h47 x0 r21 r29 r37 r46)))))))))))))))))))
set_option maxHeartbeats 4000000 in
theorem wfX4_tellLaw_0 {args : Array Value} (b : Bd p s m c cX4_tellLaw 5 RX4 D aC) (hlk : meth.locks = false) (hr : meth.sig.returnType = none) {Z : State → Prop} (zs : Z s) (zk : ZOK Z (Rg ad)) {hz : PH} {h : PH} {x0 : Nat}  {H : Heap} {locs : List Loc} {ls : Array Slot} (hf : fX4_tellLaw_0 h x0 = some hz) (hE : CE (EX D aC ad h) (Rg ad) s H locs) (hl : lv_has ls 5 [(0, .ref (ad x0))]) : W p l e (RM 3 67 0 0) s m args below meth c H locs 0 0 (MQ below (PQ (EX D aC ad hz) (Rg ad) none) args s 0 0 (Rg ad)) (F0 m 0 ls []) := by
  unfold fX4_tellLaw_0 at hf
  refine lv_aload_n b.1 b.2.1 dX4_tellLaw_0 rfl (lv_at hl 0 rfl) ?_
  refine lv_sipush (v := 303) b.1 b.2.1 dX4_tellLaw_1 (by decide) ?_
  obtain ⟨t13, hf⟩ := oC_s hf
  have t13 := of_decide_eq_true t13
  obtain ⟨h16, r15, hc14, hf⟩ := oB2_s hf
  refine k_callV0 (C := RX4) b zs zk hE (CX4_expect l D aC ad zk hc14) mc_X4_expect (in2 179 rfl rfl) mi_X4_expect ms_X4_expect ini_RX4 ok_X4_expect (x_recv b hE (ci := 4) rfl (by decide) t13) ⟨Nat.le_of_ble_eq_true rfl, Nat.le_of_ble_eq_true rfl⟩ rfl hl.1 rfl (k_room _ (by exact Nat.le_of_ble_eq_true rfl)) ⟨Nat.le_refl _, Nat.le_refl _⟩ dX4_tellLaw_4 (fun H locs hE => ?_)
  refine lv_pop b.1 b.2.1 dX4_tellLaw_7 rfl ?_
  refine lv_aload_n b.1 b.2.1 dX4_tellLaw_8 rfl (lv_at hl 0 rfl) ?_
  refine lv_aload_n b.1 b.2.1 dX4_tellLaw_9 rfl (lv_at hl 0 rfl) ?_
  obtain ⟨t17, hf⟩ := oC_s hf
  have t17 := of_decide_eq_true t17
  refine gX4_25 (x := (some x0)) b hE rfl t17 dX4_tellLaw_10 ?_
  obtain ⟨a18, ea18, hf⟩ := oN_s hf
  obtain ⟨t19, hf⟩ := oC_s hf
  have t19 := of_decide_eq_true t19
  refine gX4_193 (x := (hR h16 512 x0)) b hE ea18 t19 dX4_tellLaw_13 ?_
  obtain ⟨h22, r21, hc20, hf⟩ := oB2_s hf
  refine k_callV0 (C := RX4) b zs zk hE (CX4_tellName l D aC ad zk hc20) mc_X4_tellName (in2 187 rfl rfl) mi_X4_tellName ms_X4_tellName ini_RX4 ok_X4_tellName (x_recv b hE (ci := 4) rfl (by decide) t17) ⟨Nat.le_of_ble_eq_true rfl, Nat.le_of_ble_eq_true rfl⟩ rfl hl.1 rfl (k_room _ (by exact Nat.le_of_ble_eq_true rfl)) ⟨Nat.le_refl _, Nat.le_refl _⟩ dX4_tellLaw_16 (fun H locs hE => ?_)
  refine lv_istore_n (lv' := [(1, .int r21), (0, .ref (ad x0))]) b.1 b.2.1 dX4_tellLaw_19 rfl hl (by decide) rfl (fun ls hl => ?_)
  refine lv_aload_n b.1 b.2.1 dX4_tellLaw_20 rfl (lv_at hl 1 rfl) ?_
  refine lv_sipush (v := 304) b.1 b.2.1 dX4_tellLaw_21 (by decide) ?_
  obtain ⟨t23, hf⟩ := oC_s hf
  have t23 := of_decide_eq_true t23
  obtain ⟨h26, r25, hc24, hf⟩ := oB2_s hf
  refine k_callV0 (C := RX4) b zs zk hE (CX4_expect l D aC ad zk hc24) mc_X4_expect (in2 179 rfl rfl) mi_X4_expect ms_X4_expect ini_RX4 ok_X4_expect (x_recv b hE (ci := 4) rfl (by decide) t23) ⟨Nat.le_of_ble_eq_true rfl, Nat.le_of_ble_eq_true rfl⟩ rfl hl.1 rfl (k_room _ (by exact Nat.le_of_ble_eq_true rfl)) ⟨Nat.le_refl _, Nat.le_refl _⟩ dX4_tellLaw_24 (fun H locs hE => ?_)
  refine lv_pop b.1 b.2.1 dX4_tellLaw_27 rfl ?_
  refine lv_aload_n b.1 b.2.1 dX4_tellLaw_28 rfl (lv_at hl 1 rfl) ?_
  refine lv_iconst (v := 0) b.1 b.2.1 dX4_tellLaw_29 (by decide) ?_
  refine lv_bipush (v := 9) b.1 b.2.1 dX4_tellLaw_30 (by decide) ?_
  obtain ⟨t27, hf⟩ := oC_s hf
  have t27 := of_decide_eq_true t27
  obtain ⟨h30, r29, hc28, hf⟩ := oB2_s hf
  refine k_callV0 (C := RX4) b zs zk hE (CX4_integer l D aC ad zk hc28) mc_X4_integer (in3 78 rfl rfl) mi_X4_integer ms_X4_integer ini_RX4 ok_X4_integer (x_recv b hE (ci := 4) rfl (by decide) t27) ⟨Nat.le_of_ble_eq_true rfl, Nat.le_of_ble_eq_true rfl⟩ rfl hl.1 rfl (k_room _ (by exact Nat.le_of_ble_eq_true rfl)) ⟨Nat.le_refl _, Nat.le_refl _⟩ dX4_tellLaw_32 (fun H locs hE => ?_)
  refine lv_istore_n (lv' := [(2, .int r29), (1, .int r21), (0, .ref (ad x0))]) b.1 b.2.1 dX4_tellLaw_35 rfl hl (by decide) rfl (fun ls hl => ?_)
  refine lv_aload_n b.1 b.2.1 dX4_tellLaw_36 rfl (lv_at hl 2 rfl) ?_
  refine lv_sipush (v := 305) b.1 b.2.1 dX4_tellLaw_37 (by decide) ?_
  obtain ⟨t31, hf⟩ := oC_s hf
  have t31 := of_decide_eq_true t31
  obtain ⟨h34, r33, hc32, hf⟩ := oB2_s hf
  refine k_callV0 (C := RX4) b zs zk hE (CX4_expect l D aC ad zk hc32) mc_X4_expect (in2 179 rfl rfl) mi_X4_expect ms_X4_expect ini_RX4 ok_X4_expect (x_recv b hE (ci := 4) rfl (by decide) t31) ⟨Nat.le_of_ble_eq_true rfl, Nat.le_of_ble_eq_true rfl⟩ rfl hl.1 rfl (k_room _ (by exact Nat.le_of_ble_eq_true rfl)) ⟨Nat.le_refl _, Nat.le_refl _⟩ dX4_tellLaw_40 (fun H locs hE => ?_)
  refine lv_pop b.1 b.2.1 dX4_tellLaw_43 rfl ?_
  refine lv_aload_n b.1 b.2.1 dX4_tellLaw_44 rfl (lv_at hl 2 rfl) ?_
  refine lv_iconst (v := 0) b.1 b.2.1 dX4_tellLaw_45 (by decide) ?_
  refine k_ldc (v := 999999) b (in3 77 rfl rfl) dX4_tellLaw_46 ?_
  obtain ⟨t35, hf⟩ := oC_s hf
  have t35 := of_decide_eq_true t35
  obtain ⟨h38, r37, hc36, hf⟩ := oB2_s hf
  refine k_callV0 (C := RX4) b zs zk hE (CX4_integer l D aC ad zk hc36) mc_X4_integer (in3 78 rfl rfl) mi_X4_integer ms_X4_integer ini_RX4 ok_X4_integer (x_recv b hE (ci := 4) rfl (by decide) t35) ⟨Nat.le_of_ble_eq_true rfl, Nat.le_of_ble_eq_true rfl⟩ rfl hl.1 rfl (k_room _ (by exact Nat.le_of_ble_eq_true rfl)) ⟨Nat.le_refl _, Nat.le_refl _⟩ dX4_tellLaw_48 (fun H locs hE => ?_)
  refine lv_istore_n (lv' := [(3, .int r37), (2, .int r29), (1, .int r21), (0, .ref (ad x0))]) b.1 b.2.1 dX4_tellLaw_51 rfl hl (by decide) rfl (fun ls hl => ?_)
  refine lv_aload_n b.1 b.2.1 dX4_tellLaw_52 rfl (lv_at hl 3 rfl) ?_
  refine lv_sipush (v := 306) b.1 b.2.1 dX4_tellLaw_53 (by decide) ?_
  obtain ⟨t39, hf⟩ := oC_s hf
  have t39 := of_decide_eq_true t39
  obtain ⟨h42, r41, hc40, hf⟩ := oB2_s hf
  refine k_callV0 (C := RX4) b zs zk hE (CX4_skip l D aC ad zk hc40) mc_X4_skip (in3 69 rfl rfl) mi_X4_skip ms_X4_skip ini_RX4 ok_X4_skip (x_recv b hE (ci := 4) rfl (by decide) t39) ⟨Nat.le_of_ble_eq_true rfl, Nat.le_of_ble_eq_true rfl⟩ rfl hl.1 rfl (k_room _ (by exact Nat.le_of_ble_eq_true rfl)) ⟨Nat.le_refl _, Nat.le_refl _⟩ dX4_tellLaw_56 (fun H locs hE => ?_)
  refine lv_if_eq (tgt := 74) b.1 b.2.1 dX4_tellLaw_59 (by decide) (fun c43 => ?_) (fun c43 => ?_)
  · have hf := oI_t c43 hf
    refine lv_iconst (v := (-1)) b.1 b.2.1 dX4_tellLaw_74 (by decide) ?_
    exact wfX4_tellLaw_75 b hlk hr zs zk  hf hE (lv_sub hl [3, 2, 1, 0] rfl)
  · have hf := oI_f c43 hf
    refine lv_aload_n b.1 b.2.1 dX4_tellLaw_62 rfl (lv_at hl 3 rfl) ?_
    refine lv_iload_n b.1 b.2.1 dX4_tellLaw_63 rfl (lv_at hl 0 rfl) ?_
    refine lv_iconst (v := 1) b.1 b.2.1 dX4_tellLaw_64 (by decide) ?_
    refine lv_iadd b.1 b.2.1 dX4_tellLaw_65 ?_
    refine k_ldc (v := 999999) b (in3 77 rfl rfl) dX4_tellLaw_66 ?_
    obtain ⟨t44, hf⟩ := oC_s hf
    have t44 := of_decide_eq_true t44
    obtain ⟨h47, r46, hc45, hf⟩ := oB2_s hf
    refine k_callV0 (C := RX4) b zs zk hE (CX4_integer l D aC ad zk hc45) mc_X4_integer (in3 78 rfl rfl) mi_X4_integer ms_X4_integer ini_RX4 ok_X4_integer (x_recv b hE (ci := 4) rfl (by decide) t44) ⟨Nat.le_of_ble_eq_true rfl, Nat.le_of_ble_eq_true rfl⟩ rfl hl.1 rfl (k_room _ (by exact Nat.le_of_ble_eq_true rfl)) ⟨Nat.le_refl _, Nat.le_refl _⟩ dX4_tellLaw_68 (fun H locs hE => ?_)
    refine lv_goto (tgt := 75) b.1 b.2.1 dX4_tellLaw_71 (by decide) ?_
    exact wfX4_tellLaw_75 b hlk hr zs zk  hf hE (lv_sub hl [3, 2, 1, 0] rfl)
def fX4_tellLaw (h : PH) (x0 : Nat) : Option (PH) := fX4_tellLaw_0 h x0
set_option maxHeartbeats 4000000 in
theorem CX4_tellLaw (l : Launch) (D : va_G) (aC : Nat → ClassId) (ad : Nat → Nat) {Z : State → Prop} (zk : ZOK Z (Rg ad)) {h : PH} {x0 : Nat} {hz : PH} (hf : fX4_tellLaw h x0 = some hz) : CM l D aC Z yX4_tellLaw cX4_tellLaw 5 (none) 3 67 0 0 (EX D aC ad h) [.ref (ad x0)] (EX D aC ad hz) none (Rg ad) := by
  refine CM.of rfl ?_
  intro p e s m below meth c b hr hlk hin2 zs hE
  refine k_ent (Nat.le_of_ble_eq_true rfl) (fun ls hl => ?_)
  exact wfX4_tellLaw_0 b hlk hr zs zk hf hE (lv_sub hl [0] rfl)
end
