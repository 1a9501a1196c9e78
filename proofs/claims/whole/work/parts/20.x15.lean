section
variable {p : Program} {l : Launch} {e : Env} {s : State} {m : MethodId} {below : List Frame} {meth : Method} {c : Code} {D : va_G} {aC : Nat → ClassId} {ad : Nat → Nat}
theorem dX5_giveReason_0 : decode cX5_giveReason 0 = .ok (.iload_n 2, 1) := by decide +kernel
theorem dX5_giveReason_1 : decode cX5_giveReason 1 = .ok (.ifCond .lt 10, 3) := by decide +kernel
theorem dX5_giveReason_4 : decode cX5_giveReason 4 = .ok (.iload_n 2, 1) := by decide +kernel
theorem dX5_giveReason_5 : decode cX5_giveReason 5 = .ok (.sipush 600, 3) := by decide +kernel
theorem dX5_giveReason_8 : decode cX5_giveReason 8 = .ok (.if_icmp .lt 4, 3) := by decide +kernel
theorem dX5_giveReason_11 : decode cX5_giveReason 11 = .ok (.return_, 1) := by decide +kernel
theorem dX5_giveReason_12 : decode cX5_giveReason 12 = .ok (.iload_n 1, 1) := by decide +kernel
theorem dX5_giveReason_13 : decode cX5_giveReason 13 = .ok (.bipush 125, 2) := by decide +kernel
theorem dX5_giveReason_15 : decode cX5_giveReason 15 = .ok (.idiv, 1) := by decide +kernel
theorem dX5_giveReason_16 : decode cX5_giveReason 16 = .ok (.istore_n 3, 1) := by decide +kernel
theorem dX5_giveReason_17 : decode cX5_giveReason 17 = .ok (.iload_n 2, 1) := by decide +kernel
theorem dX5_giveReason_18 : decode cX5_giveReason 18 = .ok (.iconst 1, 1) := by decide +kernel
theorem dX5_giveReason_19 : decode cX5_giveReason 19 = .ok (.ixor, 1) := by decide +kernel
theorem dX5_giveReason_20 : decode cX5_giveReason 20 = .ok (.istore 4, 2) := by decide +kernel
theorem dX5_giveReason_22 : decode cX5_giveReason 22 = .ok (.aload_n 0, 1) := by decide +kernel
theorem dX5_giveReason_23 : decode cX5_giveReason 23 = .ok (.getfield 87, 3) := by decide +kernel
theorem dX5_giveReason_26 : decode cX5_giveReason 26 = .ok (.iload_n 3, 1) := by decide +kernel
theorem dX5_giveReason_27 : decode cX5_giveReason 27 = .ok (.ishr, 1) := by decide +kernel
theorem dX5_giveReason_28 : decode cX5_giveReason 28 = .ok (.iconst 1, 1) := by decide +kernel
theorem dX5_giveReason_29 : decode cX5_giveReason 29 = .ok (.iand, 1) := by decide +kernel
theorem dX5_giveReason_30 : decode cX5_giveReason 30 = .ok (.iconst 1, 1) := by decide +kernel
theorem dX5_giveReason_31 : decode cX5_giveReason 31 = .ok (.if_icmp .ne 7, 3) := by decide +kernel
theorem dX5_giveReason_34 : decode cX5_giveReason 34 = .ok (.iconst 1, 1) := by decide +kernel
theorem dX5_giveReason_35 : decode cX5_giveReason 35 = .ok (.goto 4, 3) := by decide +kernel
theorem dX5_giveReason_38 : decode cX5_giveReason 38 = .ok (.iconst 0, 1) := by decide +kernel
theorem dX5_giveReason_39 : decode cX5_giveReason 39 = .ok (.istore 5, 2) := by decide +kernel
theorem dX5_giveReason_41 : decode cX5_giveReason 41 = .ok (.iload 5, 2) := by decide +kernel
theorem dX5_giveReason_43 : decode cX5_giveReason 43 = .ok (.ifCond .eq 30, 3) := by decide +kernel
theorem dX5_giveReason_46 : decode cX5_giveReason 46 = .ok (.aload_n 0, 1) := by decide +kernel
theorem dX5_giveReason_47 : decode cX5_giveReason 47 = .ok (.getfield 15, 3) := by decide +kernel
theorem dX5_giveReason_50 : decode cX5_giveReason 50 = .ok (.iload_n 2, 1) := by decide +kernel
theorem dX5_giveReason_51 : decode cX5_giveReason 51 = .ok (.baload, 1) := by decide +kernel
theorem dX5_giveReason_52 : decode cX5_giveReason 52 = .ok (.iconst 1, 1) := by decide +kernel
theorem dX5_giveReason_53 : decode cX5_giveReason 53 = .ok (.if_icmp .ne 20, 3) := by decide +kernel
theorem dX5_giveReason_56 : decode cX5_giveReason 56 = .ok (.aload_n 0, 1) := by decide +kernel
theorem dX5_giveReason_57 : decode cX5_giveReason 57 = .ok (.getfield 19, 3) := by decide +kernel
theorem dX5_giveReason_60 : decode cX5_giveReason 60 = .ok (.iload_n 2, 1) := by decide +kernel
theorem dX5_giveReason_61 : decode cX5_giveReason 61 = .ok (.iaload, 1) := by decide +kernel
theorem dX5_giveReason_62 : decode cX5_giveReason 62 = .ok (.iconst (-1), 1) := by decide +kernel
theorem dX5_giveReason_63 : decode cX5_giveReason 63 = .ok (.if_icmp .ne 10, 3) := by decide +kernel
theorem dX5_giveReason_66 : decode cX5_giveReason 66 = .ok (.aload_n 0, 1) := by decide +kernel
theorem dX5_giveReason_67 : decode cX5_giveReason 67 = .ok (.getfield 19, 3) := by decide +kernel
theorem dX5_giveReason_70 : decode cX5_giveReason 70 = .ok (.iload_n 2, 1) := by decide +kernel
theorem dX5_giveReason_71 : decode cX5_giveReason 71 = .ok (.iload_n 1, 1) := by decide +kernel
theorem dX5_giveReason_72 : decode cX5_giveReason 72 = .ok (.iastore, 1) := by decide +kernel
theorem dX5_giveReason_73 : decode cX5_giveReason 73 = .ok (.aload_n 0, 1) := by decide +kernel
theorem dX5_giveReason_74 : decode cX5_giveReason 74 = .ok (.getfield 15, 3) := by decide +kernel
theorem dX5_giveReason_77 : decode cX5_giveReason 77 = .ok (.iload 4, 2) := by decide +kernel
theorem dX5_giveReason_79 : decode cX5_giveReason 79 = .ok (.baload, 1) := by decide +kernel
theorem dX5_giveReason_80 : decode cX5_giveReason 80 = .ok (.ifCond .ne 32, 3) := by decide +kernel
theorem dX5_giveReason_83 : decode cX5_giveReason 83 = .ok (.aload_n 0, 1) := by decide +kernel
theorem dX5_giveReason_84 : decode cX5_giveReason 84 = .ok (.getfield 19, 3) := by decide +kernel
theorem dX5_giveReason_87 : decode cX5_giveReason 87 = .ok (.iload 4, 2) := by decide +kernel
theorem dX5_giveReason_89 : decode cX5_giveReason 89 = .ok (.iaload, 1) := by decide +kernel
theorem dX5_giveReason_90 : decode cX5_giveReason 90 = .ok (.iconst (-1), 1) := by decide +kernel
theorem dX5_giveReason_91 : decode cX5_giveReason 91 = .ok (.if_icmp .ne 21, 3) := by decide +kernel
theorem dX5_giveReason_94 : decode cX5_giveReason 94 = .ok (.aload_n 0, 1) := by decide +kernel
theorem dX5_giveReason_95 : decode cX5_giveReason 95 = .ok (.iload_n 3, 1) := by decide +kernel
theorem dX5_giveReason_96 : decode cX5_giveReason 96 = .ok (.iload 4, 2) := by decide +kernel
theorem dX5_giveReason_98 : decode cX5_giveReason 98 = .ok (.invokevirtual 283, 3) := by decide +kernel
theorem dX5_giveReason_101 : decode cX5_giveReason 101 = .ok (.ifCond .eq 11, 3) := by decide +kernel
theorem dX5_giveReason_104 : decode cX5_giveReason 104 = .ok (.aload_n 0, 1) := by decide +kernel
theorem dX5_giveReason_105 : decode cX5_giveReason 105 = .ok (.getfield 19, 3) := by decide +kernel
theorem dX5_giveReason_108 : decode cX5_giveReason 108 = .ok (.iload 4, 2) := by decide +kernel
theorem dX5_giveReason_110 : decode cX5_giveReason 110 = .ok (.iload_n 1, 1) := by decide +kernel
theorem dX5_giveReason_111 : decode cX5_giveReason 111 = .ok (.iastore, 1) := by decide +kernel
theorem dX5_giveReason_112 : decode cX5_giveReason 112 = .ok (.return_, 1) := by decide +kernel
def fX5_giveReason_73  (h : PH) (x0 : Nat) (x1 : Int32) (x3 : Int32) (x4 : Int32) : Option (PH) :=
  oC (decide (hT h x0 = 6)) (oN (hR h 646 x0) (fun a2 => oC (decide (hT h a2 = 100)) (oC (ix x4 (hN h a2)) (if (hA h a2 (Int32.toNatClampNeg x4)) = 0 then (oN (hR h 647 x0) (fun a6 => oC (decide (hT h a6 = 101)) (oC (ix x4 (hN h a6)) (if (hA h a6 (Int32.toNatClampNeg x4)) = (-1) then (oB (fX5_prevails h x0 x3 x4) (fun r11 => if r11 = 0 then (some (h)) else (oC (ix x4 (hN h a6)) (oL (sA h a6 (Int32.toNatClampNeg x4) x1) (fun h14 => some (h14)))))) else (some (h)))))) else (some (h))))))
set_option maxHeartbeats 4000000 in
theorem wfX5_giveReason_73 {args : Array Value} (b : Bd p s m c cX5_giveReason 6 RX5 D aC) (hlk : meth.locks = false) (hr : meth.sig.returnType = none) {Z : State → Prop} (zs : Z s) (zk : ZOK Z (Rg ad)) {hz : PH} {h : PH} {x0 : Nat} {x1 : Int32} {x3 : Int32} {x4 : Int32}  {H : Heap} {locs : List Loc} {ls : Array Slot} (hf : fX5_giveReason_73 h x0 x1 x3 x4 = some hz) (hE : CE (EX D aC ad h) (Rg ad) s H locs) (hl : lv_has ls 6 [(0, .ref (ad x0)), (1, .int x1), (3, .int x3), (4, .int x4)]) : W p l e (RM 1 22 0 0) s m args below meth c H locs 0 0 (MQ below (PQ (EX D aC ad hz) (Rg ad) none) args s 0 0 (Rg ad)) (F0 m 73 ls []) := by
  unfold fX5_giveReason_73 at hf
  refine lv_aload_n b.1 b.2.1 dX5_giveReason_73 rfl (lv_at hl 0 rfl) ?_
  obtain ⟨t1, hf⟩ := oC_s hf
  have t1 := of_decide_eq_true t1
  refine gX5_15 (x := (some x0)) b hE rfl t1 dX5_giveReason_74 ?_
  refine lv_iload b.1 b.2.1 dX5_giveReason_77 (lv_at hl 3 rfl) ?_
  obtain ⟨a2, ea2, hf⟩ := oN_s hf
  obtain ⟨t3, hf⟩ := oC_s hf
  have t3 := of_decide_eq_true t3
  obtain ⟨g4, hf⟩ := oC_s hf
  refine q_bald (x := (hR h 646 x0)) b hE ea2 t3 g4 dX5_giveReason_79 ?_
  refine lv_if_ne (tgt := 112) b.1 b.2.1 dX5_giveReason_80 (by decide) (fun c5 => ?_) (fun c5 => ?_)
  · have hf := oI_f c5 hf
    cases hf
    exact k_vret b hlk hr hE (Nat.le_refl _) (Nat.le_refl _) dX5_giveReason_112
  · have hf := oI_t c5 hf
    refine lv_aload_n b.1 b.2.1 dX5_giveReason_83 rfl (lv_at hl 0 rfl) ?_
    refine gX5_19 (x := (some x0)) b hE rfl t1 dX5_giveReason_84 ?_
    refine lv_iload b.1 b.2.1 dX5_giveReason_87 (lv_at hl 3 rfl) ?_
    obtain ⟨a6, ea6, hf⟩ := oN_s hf
    obtain ⟨t7, hf⟩ := oC_s hf
    have t7 := of_decide_eq_true t7
    obtain ⟨g8, hf⟩ := oC_s hf
    refine q_iald (x := (hR h 647 x0)) b hE ea6 t7 g8 dX5_giveReason_89 ?_
    refine lv_iconst (v := (-1)) b.1 b.2.1 dX5_giveReason_90 (by decide) ?_
    refine lv_icmp_ne (tgt := 112) b.1 b.2.1 dX5_giveReason_91 (by decide) (fun c9 => ?_) (fun c9 => ?_)
    · have hf := oI_f c9 hf
      cases hf
      exact k_vret b hlk hr hE (Nat.le_refl _) (Nat.le_refl _) dX5_giveReason_112
    · have hf := oI_t c9 hf
      refine lv_aload_n b.1 b.2.1 dX5_giveReason_94 rfl (lv_at hl 0 rfl) ?_
      refine lv_iload_n b.1 b.2.1 dX5_giveReason_95 rfl (lv_at hl 2 rfl) ?_
      refine lv_iload b.1 b.2.1 dX5_giveReason_96 (lv_at hl 3 rfl) ?_
      obtain ⟨r11, hc10, hf⟩ := oB_s hf
      refine k_callV0 (C := RX5) b zs zk hE (CX5_prevails l D aC ad zk hc10) mc_X5_prevails (in5 55 rfl rfl) mi_X5_prevails ms_X5_prevails ini_RX5 ok_X5_prevails (x_recv b hE (ci := 5) rfl (by decide) t1) ⟨Nat.le_of_ble_eq_true rfl, Nat.le_of_ble_eq_true rfl⟩ rfl hl.1 rfl (k_room _ (by exact Nat.le_of_ble_eq_true rfl)) ⟨Nat.le_refl _, Nat.le_refl _⟩ dX5_giveReason_98 (fun H locs hE => ?_)
      refine lv_if_eq (tgt := 112) b.1 b.2.1 dX5_giveReason_101 (by decide) (fun c12 => ?_) (fun c12 => ?_)
      · have hf := oI_t c12 hf
        cases hf
        exact k_vret b hlk hr hE (Nat.le_refl _) (Nat.le_refl _) dX5_giveReason_112
      · have hf := oI_f c12 hf
        refine lv_aload_n b.1 b.2.1 dX5_giveReason_104 rfl (lv_at hl 0 rfl) ?_
        refine gX5_19 (x := (some x0)) b hE rfl t1 dX5_giveReason_105 ?_
        refine lv_iload b.1 b.2.1 dX5_giveReason_108 (lv_at hl 3 rfl) ?_
        refine lv_iload_n b.1 b.2.1 dX5_giveReason_110 rfl (lv_at hl 1 rfl) ?_
        obtain ⟨g13, hf⟩ := oC_s hf
        obtain ⟨h14, eh14, hf⟩ := oL_s hf
        refine q_iast (x := (hR h 647 x0)) b hE ea6 t7 g13 eh14 dX5_giveReason_111 (fun H locs hE => ?_)
        cases hf
        exact k_vret b hlk hr hE (Nat.le_refl _) (Nat.le_refl _) dX5_giveReason_112
def fX5_giveReason_39  (h : PH) (x0 : Nat) (x1 : Int32) (x2 : Int32) (x3 : Int32) (x4 : Int32) (s0 : Int32) : Option (PH) :=
  if s0 = 0 then (fX5_giveReason_73  h x0 x1 x3 x4) else (oC (decide (hT h x0 = 6)) (oN (hR h 646 x0) (fun a17 => oC (decide (hT h a17 = 100)) (oC (ix x2 (hN h a17)) (if (hA h a17 (Int32.toNatClampNeg x2)) = 1 then (oN (hR h 647 x0) (fun a21 => oC (decide (hT h a21 = 101)) (oC (ix x2 (hN h a21)) (if (hA h a21 (Int32.toNatClampNeg x2)) = (-1) then (oC (ix x2 (hN h a21)) (oL (sA h a21 (Int32.toNatClampNeg x2) x1) (fun h26 => fX5_giveReason_73  h26 x0 x1 x3 x4))) else (fX5_giveReason_73  h x0 x1 x3 x4))))) else (fX5_giveReason_73  h x0 x1 x3 x4))))))
set_option maxHeartbeats 4000000 in
theorem wfX5_giveReason_39 {args : Array Value} (b : Bd p s m c cX5_giveReason 6 RX5 D aC) (hlk : meth.locks = false) (hr : meth.sig.returnType = none) {Z : State → Prop} (zs : Z s) (zk : ZOK Z (Rg ad)) {hz : PH} {h : PH} {x0 : Nat} {x1 : Int32} {x2 : Int32} {x3 : Int32} {x4 : Int32} {s0 : Int32}  {H : Heap} {locs : List Loc} {ls : Array Slot} (hf : fX5_giveReason_39 h x0 x1 x2 x3 x4 s0 = some hz) (hE : CE (EX D aC ad h) (Rg ad) s H locs) (hl : lv_has ls 6 [(0, .ref (ad x0)), (1, .int x1), (2, .int x2), (3, .int x3), (4, .int x4)]) : W p l e (RM 1 22 0 0) s m args below meth c H locs 0 0 (MQ below (PQ (EX D aC ad hz) (Rg ad) none) args s 0 0 (Rg ad)) (F0 m 39 ls [.int s0]) := by
  unfold fX5_giveReason_39 at hf
  refine lv_istore (lv' := [(5, .int s0), (0, .ref (ad x0)), (1, .int x1), (2, .int x2), (3, .int x3), (4, .int x4)]) b.1 b.2.1 dX5_giveReason_39 hl (by decide) rfl (fun ls hl => ?_)
  refine lv_iload b.1 b.2.1 dX5_giveReason_41 (lv_at hl 0 rfl) ?_
  refine lv_if_eq (tgt := 73) b.1 b.2.1 dX5_giveReason_43 (by decide) (fun c15 => ?_) (fun c15 => ?_)
  · have hf := oI_t c15 hf
    exact wfX5_giveReason_73 b hlk hr zs zk  hf hE (lv_sub hl [1, 2, 4, 5] rfl)
  · have hf := oI_f c15 hf
    refine lv_aload_n b.1 b.2.1 dX5_giveReason_46 rfl (lv_at hl 1 rfl) ?_
    obtain ⟨t16, hf⟩ := oC_s hf
    have t16 := of_decide_eq_true t16
    refine gX5_15 (x := (some x0)) b hE rfl t16 dX5_giveReason_47 ?_
    refine lv_iload_n b.1 b.2.1 dX5_giveReason_50 rfl (lv_at hl 3 rfl) ?_
    obtain ⟨a17, ea17, hf⟩ := oN_s hf
    obtain ⟨t18, hf⟩ := oC_s hf
    have t18 := of_decide_eq_true t18
    obtain ⟨g19, hf⟩ := oC_s hf
    refine q_bald (x := (hR h 646 x0)) b hE ea17 t18 g19 dX5_giveReason_51 ?_
    refine lv_iconst (v := 1) b.1 b.2.1 dX5_giveReason_52 (by decide) ?_
    refine lv_icmp_ne (tgt := 73) b.1 b.2.1 dX5_giveReason_53 (by decide) (fun c20 => ?_) (fun c20 => ?_)
    · have hf := oI_f c20 hf
      exact wfX5_giveReason_73 b hlk hr zs zk  hf hE (lv_sub hl [1, 2, 4, 5] rfl)
    · have hf := oI_t c20 hf
      refine lv_aload_n b.1 b.2.1 dX5_giveReason_56 rfl (lv_at hl 1 rfl) ?_
      refine gX5_19 (x := (some x0)) b hE rfl t16 dX5_giveReason_57 ?_
      refine lv_iload_n b.1 b.2.1 dX5_giveReason_60 rfl (lv_at hl 3 rfl) ?_
      obtain ⟨a21, ea21, hf⟩ := oN_s hf
      obtain ⟨t22, hf⟩ := oC_s hf
      have t22 := of_decide_eq_true t22
      obtain ⟨g23, hf⟩ := oC_s hf
      refine q_iald (x := (hR h 647 x0)) b hE ea21 t22 g23 dX5_giveReason_61 ?_
      refine lv_iconst (v := (-1)) b.1 b.2.1 dX5_giveReason_62 (by decide) ?_
      refine lv_icmp_ne (tgt := 73) b.1 b.2.1 dX5_giveReason_63 (by decide) (fun c24 => ?_) (fun c24 => ?_)
      · have hf := oI_f c24 hf
        exact wfX5_giveReason_73 b hlk hr zs zk  hf hE (lv_sub hl [1, 2, 4, 5] rfl)
      · have hf := oI_t c24 hf
        refine lv_aload_n b.1 b.2.1 dX5_giveReason_66 rfl (lv_at hl 1 rfl) ?_
        refine gX5_19 (x := (some x0)) b hE rfl t16 dX5_giveReason_67 ?_
        refine lv_iload_n b.1 b.2.1 dX5_giveReason_70 rfl (lv_at hl 3 rfl) ?_
        refine lv_iload_n b.1 b.2.1 dX5_giveReason_71 rfl (lv_at hl 2 rfl) ?_
        obtain ⟨g25, hf⟩ := oC_s hf
        obtain ⟨h26, eh26, hf⟩ := oL_s hf
        refine q_iast (x := (hR h 647 x0)) b hE ea21 t22 g25 eh26 dX5_giveReason_72 (fun H locs hE => ?_)
        exact wfX5_giveReason_73 b hlk hr zs zk  hf hE (lv_sub hl [1, 2, 4, 5] rfl)
def fX5_giveReason_0  (h : PH) (x0 : Nat) (x1 : Int32) (x2 : Int32) : Option (PH) :=
  if x2 < 0 then (some (h)) else (if x2 < 600 then (oL (x1 / 125) (fun y29 => oL (x2 ^^^ 1) (fun y30 => oC (decide (hT h x0 = 6)) (if (((hI h 651 x0) >>> (y29 &&& 31)) &&& 1) = 1 then (fX5_giveReason_39  h x0 x1 x2 y29 y30 1) else (fX5_giveReason_39  h x0 x1 x2 y29 y30 0))))) else (some (h)))
set_option maxHeartbeats 4000000 in
theorem wfX5_giveReason_0 {args : Array Value} (b : Bd p s m c cX5_giveReason 6 RX5 D aC) (hlk : meth.locks = false) (hr : meth.sig.returnType = none) {Z : State → Prop} (zs : Z s) (zk : ZOK Z (Rg ad)) {hz : PH} {h : PH} {x0 : Nat} {x1 : Int32} {x2 : Int32}  {H : Heap} {locs : List Loc} {ls : Array Slot} (hf : fX5_giveReason_0 h x0 x1 x2 = some hz) (hE : CE (EX D aC ad h) (Rg ad) s H locs) (hl : lv_has ls 6 [(0, .ref (ad x0)), (1, .int x1), (2, .int x2)]) : W p l e (RM 1 22 0 0) s m args below meth c H locs 0 0 (MQ below (PQ (EX D aC ad hz) (Rg ad) none) args s 0 0 (Rg ad)) (F0 m 0 ls []) := by
  unfold fX5_giveReason_0 at hf
  refine lv_iload_n b.1 b.2.1 dX5_giveReason_0 rfl (lv_at hl 2 rfl) ?_
  refine lv_if_lt (tgt := 11) b.1 b.2.1 dX5_giveReason_1 (by decide) (fun c27 => ?_) (fun c27 => ?_)
  · have hf := oI_t c27 hf
    cases hf
    exact k_vret b hlk hr hE (Nat.le_refl _) (Nat.le_refl _) dX5_giveReason_11
  · have hf := oI_f c27 hf
    refine lv_iload_n b.1 b.2.1 dX5_giveReason_4 rfl (lv_at hl 2 rfl) ?_
    refine lv_sipush (v := 600) b.1 b.2.1 dX5_giveReason_5 (by decide) ?_
    refine lv_icmp_lt (tgt := 12) b.1 b.2.1 dX5_giveReason_8 (by decide) (fun c28 => ?_) (fun c28 => ?_)
    · have hf := oI_t c28 hf
      refine lv_iload_n b.1 b.2.1 dX5_giveReason_12 rfl (lv_at hl 1 rfl) ?_
      refine lv_bipush (v := 125) b.1 b.2.1 dX5_giveReason_13 (by decide) ?_
      refine lv_idiv b.1 b.2.1 dX5_giveReason_15 (by decide) ?_
      obtain ⟨y29, ey29, hf⟩ := oL_s hf
      refine k_nmI ey29 ?_
      refine lv_istore_n (lv' := [(3, .int y29), (0, .ref (ad x0)), (1, .int x1), (2, .int x2)]) b.1 b.2.1 dX5_giveReason_16 rfl hl (by decide) rfl (fun ls hl => ?_)
      refine lv_iload_n b.1 b.2.1 dX5_giveReason_17 rfl (lv_at hl 3 rfl) ?_
      refine lv_iconst (v := 1) b.1 b.2.1 dX5_giveReason_18 (by decide) ?_
      refine lv_ixor b.1 b.2.1 dX5_giveReason_19 ?_
      obtain ⟨y30, ey30, hf⟩ := oL_s hf
      refine k_nmI ey30 ?_
      refine lv_istore (lv' := [(4, .int y30), (3, .int y29), (0, .ref (ad x0)), (1, .int x1), (2, .int x2)]) b.1 b.2.1 dX5_giveReason_20 hl (by decide) rfl (fun ls hl => ?_)
      refine lv_aload_n b.1 b.2.1 dX5_giveReason_22 rfl (lv_at hl 2 rfl) ?_
      obtain ⟨t31, hf⟩ := oC_s hf
      have t31 := of_decide_eq_true t31
      refine gX5_87 (x := (some x0)) b hE rfl t31 dX5_giveReason_23 ?_
      refine lv_iload_n b.1 b.2.1 dX5_giveReason_26 rfl (lv_at hl 1 rfl) ?_
      refine lv_ishr b.1 b.2.1 dX5_giveReason_27 ?_
      refine lv_iconst (v := 1) b.1 b.2.1 dX5_giveReason_28 (by decide) ?_
      refine lv_iand b.1 b.2.1 dX5_giveReason_29 ?_
      refine lv_iconst (v := 1) b.1 b.2.1 dX5_giveReason_30 (by decide) ?_
      refine lv_icmp_ne (tgt := 38) b.1 b.2.1 dX5_giveReason_31 (by decide) (fun c32 => ?_) (fun c32 => ?_)
      · have hf := oI_f c32 hf
        refine lv_iconst (v := 0) b.1 b.2.1 dX5_giveReason_38 (by decide) ?_
        exact wfX5_giveReason_39 b hlk hr zs zk  hf hE (lv_sub hl [2, 3, 4, 1, 0] rfl)
      · have hf := oI_t c32 hf
        refine lv_iconst (v := 1) b.1 b.2.1 dX5_giveReason_34 (by decide) ?_
        refine lv_goto (tgt := 39) b.1 b.2.1 dX5_giveReason_35 (by decide) ?_
        exact wfX5_giveReason_39 b hlk hr zs zk  hf hE (lv_sub hl [2, 3, 4, 1, 0] rfl)
    · have hf := oI_f c28 hf
      cases hf
      exact k_vret b hlk hr hE (Nat.le_refl _) (Nat.le_refl _) dX5_giveReason_11
def fX5_giveReason (h : PH) (x0 : Nat) (x1 : Int32) (x2 : Int32) : Option (PH) := fX5_giveReason_0 h x0 x1 x2
set_option maxHeartbeats 4000000 in
theorem CX5_giveReason (l : Launch) (D : va_G) (aC : Nat → ClassId) (ad : Nat → Nat) {Z : State → Prop} (zk : ZOK Z (Rg ad)) {h : PH} {x0 : Nat} {x1 : Int32} {x2 : Int32} {hz : PH} (hf : fX5_giveReason h x0 x1 x2 = some hz) : CM l D aC Z yX5_giveReason cX5_giveReason 6 (none) 1 22 0 0 (EX D aC ad h) [.ref (ad x0), .int x1, .int x2] (EX D aC ad hz) none (Rg ad) := by
  refine CM.of rfl ?_
  intro p e s m below meth c b hr hlk hin2 zs hE
  refine k_ent (Nat.le_of_ble_eq_true rfl) (fun ls hl => ?_)
  exact wfX5_giveReason_0 b hlk hr zs zk hf hE (lv_sub hl [0, 1, 2] rfl)
theorem dX5_explain_0 : decode cX5_explain 0 = .ok (.iconst 0, 1) := by decide +kernel
theorem dX5_explain_1 : decode cX5_explain 1 = .ok (.istore_n 1, 1) := by decide +kernel
theorem dX5_explain_2 : decode cX5_explain 2 = .ok (.iload_n 1, 1) := by decide +kernel
theorem dX5_explain_3 : decode cX5_explain 3 = .ok (.aload_n 0, 1) := by decide +kernel
theorem dX5_explain_4 : decode cX5_explain 4 = .ok (.getfield 90, 3) := by decide +kernel
theorem dX5_explain_7 : decode cX5_explain 7 = .ok (.if_icmp .ge 45, 3) := by decide +kernel
theorem dX5_explain_10 : decode cX5_explain 10 = .ok (.aload_n 0, 1) := by decide +kernel
theorem dX5_explain_11 : decode cX5_explain 11 = .ok (.getfield 37, 3) := by decide +kernel
theorem dX5_explain_14 : decode cX5_explain 14 = .ok (.iload_n 1, 1) := by decide +kernel
theorem dX5_explain_15 : decode cX5_explain 15 = .ok (.baload, 1) := by decide +kernel
theorem dX5_explain_16 : decode cX5_explain 16 = .ok (.iconst 1, 1) := by decide +kernel
theorem dX5_explain_17 : decode cX5_explain 17 = .ok (.if_icmp .ne 29, 3) := by decide +kernel
theorem dX5_explain_20 : decode cX5_explain 20 = .ok (.aload_n 0, 1) := by decide +kernel
theorem dX5_explain_21 : decode cX5_explain 21 = .ok (.getfield 40, 3) := by decide +kernel
theorem dX5_explain_24 : decode cX5_explain 24 = .ok (.iconst 3, 1) := by decide +kernel
theorem dX5_explain_25 : decode cX5_explain 25 = .ok (.dup2, 1) := by decide +kernel
theorem dX5_explain_26 : decode cX5_explain 26 = .ok (.iaload, 1) := by decide +kernel
theorem dX5_explain_27 : decode cX5_explain 27 = .ok (.iconst 1, 1) := by decide +kernel
theorem dX5_explain_28 : decode cX5_explain 28 = .ok (.iadd, 1) := by decide +kernel
theorem dX5_explain_29 : decode cX5_explain 29 = .ok (.iastore, 1) := by decide +kernel
theorem dX5_explain_30 : decode cX5_explain 30 = .ok (.aload_n 0, 1) := by decide +kernel
theorem dX5_explain_31 : decode cX5_explain 31 = .ok (.aload_n 0, 1) := by decide +kernel
theorem dX5_explain_32 : decode cX5_explain 32 = .ok (.getfield 31, 3) := by decide +kernel
theorem dX5_explain_35 : decode cX5_explain 35 = .ok (.iload_n 1, 1) := by decide +kernel
theorem dX5_explain_36 : decode cX5_explain 36 = .ok (.iaload, 1) := by decide +kernel
theorem dX5_explain_37 : decode cX5_explain 37 = .ok (.aload_n 0, 1) := by decide +kernel
theorem dX5_explain_38 : decode cX5_explain 38 = .ok (.getfield 34, 3) := by decide +kernel
theorem dX5_explain_41 : decode cX5_explain 41 = .ok (.iload_n 1, 1) := by decide +kernel
theorem dX5_explain_42 : decode cX5_explain 42 = .ok (.iaload, 1) := by decide +kernel
theorem dX5_explain_43 : decode cX5_explain 43 = .ok (.invokevirtual 155, 3) := by decide +kernel
theorem dX5_explain_46 : decode cX5_explain 46 = .ok (.iinc 1 1, 3) := by decide +kernel
theorem dX5_explain_49 : decode cX5_explain 49 = .ok (.goto (-47), 3) := by decide +kernel
theorem dX5_explain_52 : decode cX5_explain 52 = .ok (.iconst 0, 1) := by decide +kernel
theorem dX5_explain_53 : decode cX5_explain 53 = .ok (.istore_n 1, 1) := by decide +kernel
theorem dX5_explain_54 : decode cX5_explain 54 = .ok (.iload_n 1, 1) := by decide +kernel
theorem dX5_explain_55 : decode cX5_explain 55 = .ok (.sipush 600, 3) := by decide +kernel
theorem dX5_explain_58 : decode cX5_explain 58 = .ok (.if_icmp .ge 34, 3) := by decide +kernel
theorem dX5_explain_61 : decode cX5_explain 61 = .ok (.aload_n 0, 1) := by decide +kernel
theorem dX5_explain_62 : decode cX5_explain 62 = .ok (.getfield 15, 3) := by decide +kernel
theorem dX5_explain_65 : decode cX5_explain 65 = .ok (.iload_n 1, 1) := by decide +kernel
theorem dX5_explain_66 : decode cX5_explain 66 = .ok (.baload, 1) := by decide +kernel
theorem dX5_explain_67 : decode cX5_explain 67 = .ok (.iconst (-1), 1) := by decide +kernel
theorem dX5_explain_68 : decode cX5_explain 68 = .ok (.if_icmp .eq 18, 3) := by decide +kernel
theorem dX5_explain_71 : decode cX5_explain 71 = .ok (.aload_n 0, 1) := by decide +kernel
theorem dX5_explain_72 : decode cX5_explain 72 = .ok (.getfield 40, 3) := by decide +kernel
theorem dX5_explain_75 : decode cX5_explain 75 = .ok (.aload_n 0, 1) := by decide +kernel
theorem dX5_explain_76 : decode cX5_explain 76 = .ok (.getfield 15, 3) := by decide +kernel
theorem dX5_explain_79 : decode cX5_explain 79 = .ok (.iload_n 1, 1) := by decide +kernel
theorem dX5_explain_80 : decode cX5_explain 80 = .ok (.baload, 1) := by decide +kernel
theorem dX5_explain_81 : decode cX5_explain 81 = .ok (.dup2, 1) := by decide +kernel
theorem dX5_explain_82 : decode cX5_explain 82 = .ok (.iaload, 1) := by decide +kernel
theorem dX5_explain_83 : decode cX5_explain 83 = .ok (.iconst 1, 1) := by decide +kernel
theorem dX5_explain_84 : decode cX5_explain 84 = .ok (.iadd, 1) := by decide +kernel
theorem dX5_explain_85 : decode cX5_explain 85 = .ok (.iastore, 1) := by decide +kernel
theorem dX5_explain_86 : decode cX5_explain 86 = .ok (.iinc 1 1, 3) := by decide +kernel
theorem dX5_explain_89 : decode cX5_explain 89 = .ok (.goto (-35), 3) := by decide +kernel
theorem dX5_explain_92 : decode cX5_explain 92 = .ok (.return_, 1) := by decide +kernel
def fX5_explain_86 (k54 : PH → Nat → Int32 → Option (PH)) (h : PH) (x0 : Nat) (x1 : Int32) : Option (PH) :=
  oL (x1 + 1) (fun y1 => k54 h x0 y1)
set_option maxHeartbeats 4000000 in
theorem wfX5_explain_86 {args : Array Value} (b : Bd p s m c cX5_explain 2 RX5 D aC) (hlk : meth.locks = false) (hr : meth.sig.returnType = none) {Z : State → Prop} (zs : Z s) (zk : ZOK Z (Rg ad)) {hz : PH} {k54 : PH → Nat → Int32 → Option (PH)} (H54 : ∀ (h : PH) (x0 : Nat) (x1 : Int32), ∀ (H : Heap) (locs : List Loc) (ls : Array Slot), k54 h x0 x1 = some hz → CE (EX D aC ad h) (Rg ad) s H locs → lv_has ls 2 [(0, .ref (ad x0)), (1, .int x1)] → W p l e (RM 2 47 0 0) s m args below meth c H locs 0 0 (MQ below (PQ (EX D aC ad hz) (Rg ad) none) args s 0 0 (Rg ad)) (F0 m 54 ls [])) {h : PH} {x0 : Nat} {x1 : Int32}  {H : Heap} {locs : List Loc} {ls : Array Slot} (hf : fX5_explain_86 k54 h x0 x1 = some hz) (hE : CE (EX D aC ad h) (Rg ad) s H locs) (hl : lv_has ls 2 [(0, .ref (ad x0)), (1, .int x1)]) : W p l e (RM 2 47 0 0) s m args below meth c H locs 0 0 (MQ below (PQ (EX D aC ad hz) (Rg ad) none) args s 0 0 (Rg ad)) (F0 m 86 ls []) := by
  unfold fX5_explain_86 at hf
  obtain ⟨y1, ey1, hf⟩ := oL_s hf
  refine lv_iinc (v := y1) (lv' := [(1, .int y1), (0, .ref (ad x0))]) b.1 b.2.1 dX5_explain_86 hl (k := 1) rfl (by rw [ey1]; rfl) (by decide) rfl (fun ls hl => ?_)
  refine lv_goto (tgt := 54) b.1 b.2.1 dX5_explain_89 (by decide) ?_
  exact H54 h x0 y1 _ _ _ hf hE (lv_sub hl [1, 0] rfl)
def fX5_explain_54F (k54 : PH → Nat → Int32 → Option (PH)) (h : PH) (x0 : Nat) (x1 : Int32) : Option (PH) :=
  if 600 ≤ x1 then (some (h)) else (oC (decide (hT h x0 = 6)) (oN (hR h 646 x0) (fun a4 => oC (decide (hT h a4 = 100)) (oC (ix x1 (hN h a4)) (if (hA h a4 (Int32.toNatClampNeg x1)) = (-1) then (fX5_explain_86 k54 h x0 x1) else (oC (ix x1 (hN h a4)) (oN (hR h 656 x0) (fun a9 => oC (decide (hT h a9 = 101)) (oC (ix (hA h a4 (Int32.toNatClampNeg x1)) (hN h a9)) (oC (ix (hA h a4 (Int32.toNatClampNeg x1)) (hN h a9)) (oL (sA h a9 (Int32.toNatClampNeg (hA h a4 (Int32.toNatClampNeg x1))) ((hA h a9 (Int32.toNatClampNeg (hA h a4 (Int32.toNatClampNeg x1)))) + 1)) (fun h13 => fX5_explain_86 k54 h13 x0 x1))))))))))))
set_option maxHeartbeats 4000000 in
theorem wfX5_explain_54F {args : Array Value} (b : Bd p s m c cX5_explain 2 RX5 D aC) (hlk : meth.locks = false) (hr : meth.sig.returnType = none) {Z : State → Prop} (zs : Z s) (zk : ZOK Z (Rg ad)) {hz : PH} {k54 : PH → Nat → Int32 → Option (PH)} (H54 : ∀ (h : PH) (x0 : Nat) (x1 : Int32), ∀ (H : Heap) (locs : List Loc) (ls : Array Slot), k54 h x0 x1 = some hz → CE (EX D aC ad h) (Rg ad) s H locs → lv_has ls 2 [(0, .ref (ad x0)), (1, .int x1)] → W p l e (RM 2 47 0 0) s m args below meth c H locs 0 0 (MQ below (PQ (EX D aC ad hz) (Rg ad) none) args s 0 0 (Rg ad)) (F0 m 54 ls [])) {h : PH} {x0 : Nat} {x1 : Int32}  {H : Heap} {locs : List Loc} {ls : Array Slot} (hf : fX5_explain_54F k54 h x0 x1 = some hz) (hE : CE (EX D aC ad h) (Rg ad) s H locs) (hl : lv_has ls 2 [(0, .ref (ad x0)), (1, .int x1)]) : W p l e (RM 2 47 0 0) s m args below meth c H locs 0 0 (MQ below (PQ (EX D aC ad hz) (Rg ad) none) args s 0 0 (Rg ad)) (F0 m 54 ls []) := by
  unfold fX5_explain_54F at hf
  refine lv_iload_n b.1 b.2.1 dX5_explain_54 rfl (lv_at hl 1 rfl) ?_
  refine lv_sipush (v := 600) b.1 b.2.1 dX5_explain_55 (by decide) ?_
  refine lv_icmp_ge (tgt := 92) b.1 b.2.1 dX5_explain_58 (by decide) (fun c2 => ?_) (fun c2 => ?_)
  · have hf := oI_t c2 hf
    cases hf
    exact k_vret b hlk hr hE (Nat.le_refl _) (Nat.le_refl _) dX5_explain_92
  · have hf := oI_f c2 hf
    refine lv_aload_n b.1 b.2.1 dX5_explain_61 rfl (lv_at hl 0 rfl) ?_
    obtain ⟨t3, hf⟩ := oC_s hf
    have t3 := of_decide_eq_true t3
    refine gX5_15 (x := (some x0)) b hE rfl t3 dX5_explain_62 ?_
    refine lv_iload_n b.1 b.2.1 dX5_explain_65 rfl (lv_at hl 1 rfl) ?_
    obtain ⟨a4, ea4, hf⟩ := oN_s hf
    obtain ⟨t5, hf⟩ := oC_s hf
    have t5 := of_decide_eq_true t5
    obtain ⟨g6, hf⟩ := oC_s hf
    refine q_bald (x := (hR h 646 x0)) b hE ea4 t5 g6 dX5_explain_66 ?_
    refine lv_iconst (v := (-1)) b.1 b.2.1 dX5_explain_67 (by decide) ?_
    refine lv_icmp_eq (tgt := 86) b.1 b.2.1 dX5_explain_68 (by decide) (fun c7 => ?_) (fun c7 => ?_)
    · have hf := oI_t c7 hf
      exact wfX5_explain_86 b hlk hr zs zk H54 hf hE (lv_sub hl [0, 1] rfl)
    · have hf := oI_f c7 hf
      refine lv_aload_n b.1 b.2.1 dX5_explain_71 rfl (lv_at hl 0 rfl) ?_
      refine gX5_40 (x := (some x0)) b hE rfl t3 dX5_explain_72 ?_
      refine lv_aload_n b.1 b.2.1 dX5_explain_75 rfl (lv_at hl 0 rfl) ?_
      refine gX5_15 (x := (some x0)) b hE rfl t3 dX5_explain_76 ?_
      refine lv_iload_n b.1 b.2.1 dX5_explain_79 rfl (lv_at hl 1 rfl) ?_
      obtain ⟨g8, hf⟩ := oC_s hf
      refine q_bald (x := (hR h 646 x0)) b hE ea4 t5 g8 dX5_explain_80 ?_
      refine lv_dup2_11 b.1 b.2.1 dX5_explain_81 rfl (rf_cat _) ?_
      obtain ⟨a9, ea9, hf⟩ := oN_s hf
      obtain ⟨t10, hf⟩ := oC_s hf
      have t10 := of_decide_eq_true t10
      obtain ⟨g11, hf⟩ := oC_s hf
      refine q_iald (x := (hR h 656 x0)) b hE ea9 t10 g11 dX5_explain_82 ?_
      refine lv_iconst (v := 1) b.1 b.2.1 dX5_explain_83 (by decide) ?_
      refine lv_iadd b.1 b.2.1 dX5_explain_84 ?_
      obtain ⟨g12, hf⟩ := oC_s hf
      obtain ⟨h13, eh13, hf⟩ := oL_s hf
      refine q_iast (x := (hR h 656 x0)) b hE ea9 t10 g12 eh13 dX5_explain_85 (fun H locs hE => ?_)
      exact wfX5_explain_86 b hlk hr zs zk H54 hf hE (lv_sub hl [0, 1] rfl)
def fX5_explain_54  : Nat → PH → Nat → Int32 → Option (PH)
  | 0 => fun _ _ _ => none
  | n + 1 => fX5_explain_54F  (fX5_explain_54  n)
set_option maxHeartbeats 4000000 in
theorem wfX5_explain_54 {args : Array Value} (b : Bd p s m c cX5_explain 2 RX5 D aC) (hlk : meth.locks = false) (hr : meth.sig.returnType = none) {Z : State → Prop} (zs : Z s) (zk : ZOK Z (Rg ad)) {hz : PH} : ∀ n : Nat, ∀ (h : PH) (x0 : Nat) (x1 : Int32), ∀ (H : Heap) (locs : List Loc) (ls : Array Slot), fX5_explain_54  n h x0 x1 = some hz → CE (EX D aC ad h) (Rg ad) s H locs → lv_has ls 2 [(0, .ref (ad x0)), (1, .int x1)] → W p l e (RM 2 47 0 0) s m args below meth c H locs 0 0 (MQ below (PQ (EX D aC ad hz) (Rg ad) none) args s 0 0 (Rg ad)) (F0 m 54 ls []) := by
  intro n
  induction n with
  | zero =>
    intro h x0 x1 H locs ls hf
    have hf : (none : Option (PH)) = some _ := hf
    cases hf
  | succ n ih =>
    intro h x0 x1 H locs ls hf hE hl
    exact wfX5_explain_54F b hlk hr zs zk  ih hf hE hl
def fX5_explain_46 (k2 : PH → Nat → Int32 → Option (PH)) (h : PH) (x0 : Nat) (x1 : Int32) : Option (PH) :=
  oL (x1 + 1) (fun y14 => k2 h x0 y14)
set_option maxHeartbeats 4000000 in
theorem wfX5_explain_46 {args : Array Value} (b : Bd p s m c cX5_explain 2 RX5 D aC) (hlk : meth.locks = false) (hr : meth.sig.returnType = none) {Z : State → Prop} (zs : Z s) (zk : ZOK Z (Rg ad)) {hz : PH} {k2 : PH → Nat → Int32 → Option (PH)} (H2 : ∀ (h : PH) (x0 : Nat) (x1 : Int32), ∀ (H : Heap) (locs : List Loc) (ls : Array Slot), k2 h x0 x1 = some hz → CE (EX D aC ad h) (Rg ad) s H locs → lv_has ls 2 [(0, .ref (ad x0)), (1, .int x1)] → W p l e (RM 2 47 0 0) s m args below meth c H locs 0 0 (MQ below (PQ (EX D aC ad hz) (Rg ad) none) args s 0 0 (Rg ad)) (F0 m 2 ls [])) {h : PH} {x0 : Nat} {x1 : Int32}  {H : Heap} {locs : List Loc} {ls : Array Slot} (hf : fX5_explain_46 k2 h x0 x1 = some hz) (hE : CE (EX D aC ad h) (Rg ad) s H locs) (hl : lv_has ls 2 [(0, .ref (ad x0)), (1, .int x1)]) : W p l e (RM 2 47 0 0) s m args below meth c H locs 0 0 (MQ below (PQ (EX D aC ad hz) (Rg ad) none) args s 0 0 (Rg ad)) (F0 m 46 ls []) := by
  unfold fX5_explain_46 at hf
  obtain ⟨y14, ey14, hf⟩ := oL_s hf
  refine lv_iinc (v := y14) (lv' := [(1, .int y14), (0, .ref (ad x0))]) b.1 b.2.1 dX5_explain_46 hl (k := 1) rfl (by rw [ey14]; rfl) (by decide) rfl (fun ls hl => ?_)
  refine lv_goto (tgt := 2) b.1 b.2.1 dX5_explain_49 (by decide) ?_
  exact H2 h x0 y14 _ _ _ hf hE (lv_sub hl [1, 0] rfl)
def fX5_explain_2F (k2 : PH → Nat → Int32 → Option (PH)) (h : PH) (x0 : Nat) (x1 : Int32) : Option (PH) :=
  oC (decide (hT h x0 = 6)) (if (hI h 655 x0) ≤ x1 then (fX5_explain_54  FU h x0 0) else (oN (hR h 654 x0) (fun a17 => oC (decide (hT h a17 = 100)) (oC (ix x1 (hN h a17)) (if (hA h a17 (Int32.toNatClampNeg x1)) = 1 then (oN (hR h 656 x0) (fun a21 => oC (decide (hT h a21 = 101)) (oC (ix 3 (hN h a21)) (oC (ix 3 (hN h a21)) (oL (sA h a21 (Int32.toNatClampNeg 3) ((hA h a21 (Int32.toNatClampNeg 3)) + 1)) (fun h25 => oN (hR h25 652 x0) (fun a27 => oC (decide (hT h25 a27 = 101)) (oC (ix x1 (hN h25 a27)) (oN (hR h25 653 x0) (fun a30 => oC (decide (hT h25 a30 = 101)) (oC (ix x1 (hN h25 a30)) (oB (fX5_giveReason h25 x0 (hA h25 a27 (Int32.toNatClampNeg x1)) (hA h25 a30 (Int32.toNatClampNeg x1))) (fun h34 => fX5_explain_46 k2 h34 x0 x1))))))))))))) else (fX5_explain_46 k2 h x0 x1))))))
set_option maxHeartbeats 4000000 in
theorem wfX5_explain_2F {args : Array Value} (b : Bd p s m c cX5_explain 2 RX5 D aC) (hlk : meth.locks = false) (hr : meth.sig.returnType = none) {Z : State → Prop} (zs : Z s) (zk : ZOK Z (Rg ad)) {hz : PH} {k2 : PH → Nat → Int32 → Option (PH)} (H2 : ∀ (h : PH) (x0 : Nat) (x1 : Int32), ∀ (H : Heap) (locs : List Loc) (ls : Array Slot), k2 h x0 x1 = some hz → CE (EX D aC ad h) (Rg ad) s H locs → lv_has ls 2 [(0, .ref (ad x0)), (1, .int x1)] → W p l e (RM 2 47 0 0) s m args below meth c H locs 0 0 (MQ below (PQ (EX D aC ad hz) (Rg ad) none) args s 0 0 (Rg ad)) (F0 m 2 ls [])) {h : PH} {x0 : Nat} {x1 : Int32}  {H : Heap} {locs : List Loc} {ls : Array Slot} (hf : fX5_explain_2F k2 h x0 x1 = some hz) (hE : CE (EX D aC ad h) (Rg ad) s H locs) (hl : lv_has ls 2 [(0, .ref (ad x0)), (1, .int x1)]) : W p l e (RM 2 47 0 0) s m args below meth c H locs 0 0 (MQ below (PQ (EX D aC ad hz) (Rg ad) none) args s 0 0 (Rg ad)) (F0 m 2 ls []) := by
  unfold fX5_explain_2F at hf
  refine lv_iload_n b.1 b.2.1 dX5_explain_2 rfl (lv_at hl 1 rfl) ?_
  refine lv_aload_n b.1 b.2.1 dX5_explain_3 rfl (lv_at hl 0 rfl) ?_
  obtain ⟨t15, hf⟩ := oC_s hf
  have t15 := of_decide_eq_true t15
  refine gX5_90 (x := (some x0)) b hE rfl t15 dX5_explain_4 ?_
  refine lv_icmp_ge (tgt := 52) b.1 b.2.1 dX5_explain_7 (by decide) (fun c16 => ?_) (fun c16 => ?_)
  · have hf := oI_t c16 hf
    refine lv_iconst (v := 0) b.1 b.2.1 dX5_explain_52 (by decide) ?_
    refine lv_istore_n (lv' := [(1, .int 0), (0, .ref (ad x0))]) b.1 b.2.1 dX5_explain_53 rfl hl (by decide) rfl (fun ls hl => ?_)
    exact wfX5_explain_54 b hlk hr zs zk  FU h x0 0 _ _ _ hf hE (lv_sub hl [1, 0] rfl)
  · have hf := oI_f c16 hf
    refine lv_aload_n b.1 b.2.1 dX5_explain_10 rfl (lv_at hl 0 rfl) ?_
    refine gX5_37 (x := (some x0)) b hE rfl t15 dX5_explain_11 ?_
    refine lv_iload_n b.1 b.2.1 dX5_explain_14 rfl (lv_at hl 1 rfl) ?_
    obtain ⟨a17, ea17, hf⟩ := oN_s hf
    obtain ⟨t18, hf⟩ := oC_s hf
    have t18 := of_decide_eq_true t18
    obtain ⟨g19, hf⟩ := oC_s hf
    refine q_bald (x := (hR h 654 x0)) b hE ea17 t18 g19 dX5_explain_15 ?_
    refine lv_iconst (v := 1) b.1 b.2.1 dX5_explain_16 (by decide) ?_
    refine lv_icmp_ne (tgt := 46) b.1 b.2.1 dX5_explain_17 (by decide) (fun c20 => ?_) (fun c20 => ?_)
    · have hf := oI_f c20 hf
      exact wfX5_explain_46 b hlk hr zs zk H2 hf hE (lv_sub hl [0, 1] rfl)
    · have hf := oI_t c20 hf
      refine lv_aload_n b.1 b.2.1 dX5_explain_20 rfl (lv_at hl 0 rfl) ?_
      refine gX5_40 (x := (some x0)) b hE rfl t15 dX5_explain_21 ?_
      refine lv_iconst (v := 3) b.1 b.2.1 dX5_explain_24 (by decide) ?_
      refine lv_dup2_11 b.1 b.2.1 dX5_explain_25 rfl (rf_cat _) ?_
      obtain ⟨a21, ea21, hf⟩ := oN_s hf
      obtain ⟨t22, hf⟩ := oC_s hf
      have t22 := of_decide_eq_true t22
      obtain ⟨g23, hf⟩ := oC_s hf
      refine q_iald (x := (hR h 656 x0)) b hE ea21 t22 g23 dX5_explain_26 ?_
      refine lv_iconst (v := 1) b.1 b.2.1 dX5_explain_27 (by decide) ?_
      refine lv_iadd b.1 b.2.1 dX5_explain_28 ?_
      obtain ⟨g24, hf⟩ := oC_s hf
      obtain ⟨h25, eh25, hf⟩ := oL_s hf
      refine q_iast (x := (hR h 656 x0)) b hE ea21 t22 g24 eh25 dX5_explain_29 (fun H locs hE => ?_)
      refine lv_aload_n b.1 b.2.1 dX5_explain_30 rfl (lv_at hl 0 rfl) ?_
      refine lv_aload_n b.1 b.2.1 dX5_explain_31 rfl (lv_at hl 0 rfl) ?_
      have t26 := tg_sA eh25 t15
      refine gX5_31 (x := (some x0)) b hE rfl t26 dX5_explain_32 ?_
      refine lv_iload_n b.1 b.2.1 dX5_explain_35 rfl (lv_at hl 1 rfl) ?_
      obtain ⟨a27, ea27, hf⟩ := oN_s hf
      obtain ⟨t28, hf⟩ := oC_s hf
      have t28 := of_decide_eq_true t28
      obtain ⟨g29, hf⟩ := oC_s hf
      refine q_iald (x := (hR h25 652 x0)) b hE ea27 t28 g29 dX5_explain_36 ?_
      refine lv_aload_n b.1 b.2.1 dX5_explain_37 rfl (lv_at hl 0 rfl) ?_
      refine gX5_34 (x := (some x0)) b hE rfl t26 dX5_explain_38 ?_
      refine lv_iload_n b.1 b.2.1 dX5_explain_41 rfl (lv_at hl 1 rfl) ?_
      obtain ⟨a30, ea30, hf⟩ := oN_s hf
      obtain ⟨t31, hf⟩ := oC_s hf
      have t31 := of_decide_eq_true t31
      obtain ⟨g32, hf⟩ := oC_s hf
      refine q_iald (x := (hR h25 653 x0)) b hE ea30 t31 g32 dX5_explain_42 ?_
      obtain ⟨h34, hc33, hf⟩ := oB_s hf
      refine k_callV0 (C := RX5) b zs zk hE (CX5_giveReason l D aC ad zk hc33) mc_X5_giveReason (in5 63 rfl rfl) mi_X5_giveReason ms_X5_giveReason ini_RX5 ok_X5_giveReason (x_recv b hE (ci := 5) rfl (by decide) t26) ⟨Nat.le_of_ble_eq_true rfl, Nat.le_of_ble_eq_true rfl⟩ rfl hl.1 rfl (k_room _ (by exact Nat.le_of_ble_eq_true rfl)) ⟨Nat.le_refl _, Nat.le_refl _⟩ dX5_explain_43 (fun H locs hE => ?_)
      exact wfX5_explain_46 b hlk hr zs zk H2 hf hE (lv_sub hl [0, 1] rfl)
def fX5_explain_2  : Nat → PH → Nat → Int32 → Option (PH)
  | 0 => fun _ _ _ => none
  | n + 1 => fX5_explain_2F  (fX5_explain_2  n)
set_option maxHeartbeats 4000000 in
theorem wfX5_explain_2 {args : Array Value} (b : Bd p s m c cX5_explain 2 RX5 D aC) (hlk : meth.locks = false) (hr : meth.sig.returnType = none) {Z : State → Prop} (zs : Z s) (zk : ZOK Z (Rg ad)) {hz : PH} : ∀ n : Nat, ∀ (h : PH) (x0 : Nat) (x1 : Int32), ∀ (H : Heap) (locs : List Loc) (ls : Array Slot), fX5_explain_2  n h x0 x1 = some hz → CE (EX D aC ad h) (Rg ad) s H locs → lv_has ls 2 [(0, .ref (ad x0)), (1, .int x1)] → W p l e (RM 2 47 0 0) s m args below meth c H locs 0 0 (MQ below (PQ (EX D aC ad hz) (Rg ad) none) args s 0 0 (Rg ad)) (F0 m 2 ls []) := by
  intro n
  induction n with
  | zero =>
    intro h x0 x1 H locs ls hf
    have hf : (none : Option (PH)) = some _ := hf
    cases hf
  | succ n ih =>
    intro h x0 x1 H locs ls hf hE hl
    exact wfX5_explain_2F b hlk hr zs zk  ih hf hE hl
def fX5_explain_0  (h : PH) (x0 : Nat) : Option (PH) :=
  fX5_explain_2  FU h x0 0
set_option maxHeartbeats 4000000 in
theorem wfX5_explain_0 {args : Array Value} (b : Bd p s m c cX5_explain 2 RX5 D aC) (hlk : meth.locks = false) (hr : meth.sig.returnType = none) {Z : State → Prop} (zs : Z s) (zk : ZOK Z (Rg ad)) {hz : PH} {h : PH} {x0 : Nat}  {H : Heap} {locs : List Loc} {ls : Array Slot} (hf : fX5_explain_0 h x0 = some hz) (hE : CE (EX D aC ad h) (Rg ad) s H locs) (hl : lv_has ls 2 [(0, .ref (ad x0))]) : W p l e (RM 2 47 0 0) s m args below meth c H locs 0 0 (MQ below (PQ (EX D aC ad hz) (Rg ad) none) args s 0 0 (Rg ad)) (F0 m 0 ls []) := by
  unfold fX5_explain_0 at hf
  refine lv_iconst (v := 0) b.1 b.2.1 dX5_explain_0 (by decide) ?_
  refine lv_istore_n (lv' := [(1, .int 0), (0, .ref (ad x0))]) b.1 b.2.1 dX5_explain_1 rfl hl (by decide) rfl (fun ls hl => ?_)
  exact wfX5_explain_2 b hlk hr zs zk  FU h x0 0 _ _ _ hf hE (lv_sub hl [1, 0] rfl)
def fX5_explain (h : PH) (x0 : Nat) : Option (PH) := fX5_explain_0 h x0
set_option maxHeartbeats 4000000 in
theorem CX5_explain (l : Launch) (D : va_G) (aC : Nat → ClassId) (ad : Nat → Nat) {Z : State → Prop} (zk : ZOK Z (Rg ad)) {h : PH} {x0 : Nat} {hz : PH} (hf : fX5_explain h x0 = some hz) : CM l D aC Z yX5_explain cX5_explain 2 (none) 2 47 0 0 (EX D aC ad h) [.ref (ad x0)] (EX D aC ad hz) none (Rg ad) := by
  refine CM.of rfl ?_
  intro p e s m below meth c b hr hlk hin2 zs hE
  refine k_ent (Nat.le_of_ble_eq_true rfl) (fun ls hl => ?_)
  exact wfX5_explain_0 b hlk hr zs zk hf hE (lv_sub hl [0] rfl)
theorem dX6_beginSum_0 : decode cX6_beginSum 0 = .ok (.aload_n 0, 1) := by decide +kernel
theorem dX6_beginSum_1 : decode cX6_beginSum 1 = .ok (.getfield 26, 3) := by decide +kernel
theorem dX6_beginSum_4 : decode cX6_beginSum 4 = .ok (.lconst 0, 1) := by decide +kernel
theorem dX6_beginSum_5 : decode cX6_beginSum 5 = .ok (.lconst 1, 1) := by decide +kernel
theorem dX6_beginSum_6 : decode cX6_beginSum 6 = .ok (.invokevirtual 114, 3) := by decide +kernel
theorem dX6_beginSum_9 : decode cX6_beginSum 9 = .ok (.aload_n 0, 1) := by decide +kernel
theorem dX6_beginSum_10 : decode cX6_beginSum 10 = .ok (.getfield 29, 3) := by decide +kernel
theorem dX6_beginSum_13 : decode cX6_beginSum 13 = .ok (.lconst 1, 1) := by decide +kernel
theorem dX6_beginSum_14 : decode cX6_beginSum 14 = .ok (.lconst 1, 1) := by decide +kernel
theorem dX6_beginSum_15 : decode cX6_beginSum 15 = .ok (.invokevirtual 114, 3) := by decide +kernel
theorem dX6_beginSum_18 : decode cX6_beginSum 18 = .ok (.aload_n 0, 1) := by decide +kernel
theorem dX6_beginSum_19 : decode cX6_beginSum 19 = .ok (.iconst 0, 1) := by decide +kernel
theorem dX6_beginSum_20 : decode cX6_beginSum 20 = .ok (.putfield 143, 3) := by decide +kernel
theorem dX6_beginSum_23 : decode cX6_beginSum 23 = .ok (.aload_n 0, 1) := by decide +kernel
theorem dX6_beginSum_24 : decode cX6_beginSum 24 = .ok (.iconst 0, 1) := by decide +kernel
theorem dX6_beginSum_25 : decode cX6_beginSum 25 = .ok (.putfield 146, 3) := by decide +kernel
theorem dX6_beginSum_28 : decode cX6_beginSum 28 = .ok (.return_, 1) := by decide +kernel
def fX6_beginSum_0  (h : PH) (x0 : Nat) : Option (PH) :=
  oC (decide (hT h x0 = 7)) (oN (hR h 772 x0) (fun a2 => oC (decide (hT h a2 = 4)) (oB (fX3_become h a2 0 1) (fun h5 => oC (decide (hT h5 x0 = 7)) (oN (hR h5 773 x0) (fun a7 => oC (decide (hT h5 a7 = 4)) (oB (fX3_become h5 a7 1 1) (fun h10 => oC (decide (hT h10 x0 = 7)) (oL (sI h10 776 x0 0) (fun h12 => oL (sI h12 777 x0 0) (fun h14 => some (h14))))))))))))
set_option maxHeartbeats 4000000 in
theorem wfX6_beginSum_0 {args : Array Value} (b : Bd p s m c cX6_beginSum 1 RX6 D aC) (hlk : meth.locks = false) (hr : meth.sig.returnType = none) {Z : State → Prop} (zs : Z s) (zk : ZOK Z (Rg ad)) {hz : PH} {h : PH} {x0 : Nat}  {H : Heap} {locs : List Loc} {ls : Array Slot} (hf : fX6_beginSum_0 h x0 = some hz) (hE : CE (EX D aC ad h) (Rg ad) s H locs) (hl : lv_has ls 1 [(0, .ref (ad x0))]) : W p l e (RM 1 31 0 0) s m args below meth c H locs 0 0 (MQ below (PQ (EX D aC ad hz) (Rg ad) none) args s 0 0 (Rg ad)) (F0 m 0 ls []) := by
  unfold fX6_beginSum_0 at hf
  refine lv_aload_n b.1 b.2.1 dX6_beginSum_0 rfl (lv_at hl 0 rfl) ?_
  obtain ⟨t1, hf⟩ := oC_s hf
  have t1 := of_decide_eq_true t1
  refine gX6_26 (x := (some x0)) b hE rfl t1 dX6_beginSum_1 ?_
  refine lv_lconst (v := 0) b.1 b.2.1 dX6_beginSum_4 rfl ?_
  refine lv_lconst (v := 1) b.1 b.2.1 dX6_beginSum_5 rfl ?_
  obtain ⟨a2, ea2, hf⟩ := oN_s hf
  obtain ⟨t3, hf⟩ := oC_s hf
  have t3 := of_decide_eq_true t3
  obtain ⟨h5, hc4, hf⟩ := oB_s hf
  refine k_stk [.long 1, .long 0] ea2 ?_
  refine k_callV0 (C := RX3) b zs zk hE (CX3_become l D aC ad zk hc4) mc_X3_become (in4 218 rfl rfl) mi_X3_become ms_X3_become ini_RX3 ok_X3_become (x_recv b hE (ci := 3) rfl (by decide) t3) ⟨Nat.le_of_ble_eq_true rfl, Nat.le_of_ble_eq_true rfl⟩ rfl hl.1 rfl (k_room _ (by exact Nat.le_of_ble_eq_true rfl)) ⟨Nat.le_refl _, Nat.le_refl _⟩ dX6_beginSum_6 (fun H locs hE => ?_)
  refine lv_aload_n b.1 b.2.1 dX6_beginSum_9 rfl (lv_at hl 0 rfl) ?_
  obtain ⟨t6, hf⟩ := oC_s hf
  have t6 := of_decide_eq_true t6
  refine gX6_29 (x := (some x0)) b hE rfl t6 dX6_beginSum_10 ?_
  refine lv_lconst (v := 1) b.1 b.2.1 dX6_beginSum_13 rfl ?_
  refine lv_lconst (v := 1) b.1 b.2.1 dX6_beginSum_14 rfl ?_
  obtain ⟨a7, ea7, hf⟩ := oN_s hf
  obtain ⟨t8, hf⟩ := oC_s hf
  have t8 := of_decide_eq_true t8
  obtain ⟨h10, hc9, hf⟩ := oB_s hf
  refine k_stk [.long 1, .long 1] ea7 ?_
  refine k_callV0 (C := RX3) b zs zk hE (CX3_become l D aC ad zk hc9) mc_X3_become (in4 218 rfl rfl) mi_X3_become ms_X3_become ini_RX3 ok_X3_become (x_recv b hE (ci := 3) rfl (by decide) t8) ⟨Nat.le_of_ble_eq_true rfl, Nat.le_of_ble_eq_true rfl⟩ rfl hl.1 rfl (k_room _ (by exact Nat.le_of_ble_eq_true rfl)) ⟨Nat.le_refl _, Nat.le_refl _⟩ dX6_beginSum_15 (fun H locs hE => ?_)
  refine lv_aload_n b.1 b.2.1 dX6_beginSum_18 rfl (lv_at hl 0 rfl) ?_
  refine lv_iconst (v := 0) b.1 b.2.1 dX6_beginSum_19 (by decide) ?_
  obtain ⟨t11, hf⟩ := oC_s hf
  have t11 := of_decide_eq_true t11
  obtain ⟨h12, eh12, hf⟩ := oL_s hf
  refine pX6_143 (x := (some x0)) b hE rfl t11 (by decide) eh12 dX6_beginSum_20 (fun H locs hE => ?_)
  refine lv_aload_n b.1 b.2.1 dX6_beginSum_23 rfl (lv_at hl 0 rfl) ?_
  refine lv_iconst (v := 0) b.1 b.2.1 dX6_beginSum_24 (by decide) ?_
  have t13 := tg_sI eh12 t11
  obtain ⟨h14, eh14, hf⟩ := oL_s hf
  refine pX6_146 (x := (some x0)) b hE rfl t13 (by decide) eh14 dX6_beginSum_25 (fun H locs hE => ?_)
  cases hf
  exact k_vret b hlk hr hE (Nat.le_refl _) (Nat.le_refl _) dX6_beginSum_28
def fX6_beginSum (h : PH) (x0 : Nat) : Option (PH) := fX6_beginSum_0 h x0
set_option maxHeartbeats 4000000 in
theorem CX6_beginSum (l : Launch) (D : va_G) (aC : Nat → ClassId) (ad : Nat → Nat) {Z : State → Prop} (zk : ZOK Z (Rg ad)) {h : PH} {x0 : Nat} {hz : PH} (hf : fX6_beginSum h x0 = some hz) : CM l D aC Z yX6_beginSum cX6_beginSum 1 (none) 1 31 0 0 (EX D aC ad h) [.ref (ad x0)] (EX D aC ad hz) none (Rg ad) := by
  refine CM.of rfl ?_
  intro p e s m below meth c b hr hlk hin2 zs hE
  refine k_ent (Nat.le_of_ble_eq_true rfl) (fun ls hl => ?_)
  exact wfX6_beginSum_0 b hlk hr zs zk hf hE (lv_sub hl [0] rfl)
theorem dX6_limit_0 : decode cX6_limit 0 = .ok (.aload_n 2, 1) := by decide +kernel
theorem dX6_limit_1 : decode cX6_limit 1 = .ok (.getfield 94, 3) := by decide +kernel
theorem dX6_limit_4 : decode cX6_limit 4 = .ok (.ifCond .eq 14, 3) := by decide +kernel
theorem dX6_limit_7 : decode cX6_limit 7 = .ok (.aload_n 0, 1) := by decide +kernel
theorem dX6_limit_8 : decode cX6_limit 8 = .ok (.getfield 26, 3) := by decide +kernel
theorem dX6_limit_11 : decode cX6_limit 11 = .ok (.iconst 1, 1) := by decide +kernel
theorem dX6_limit_12 : decode cX6_limit 12 = .ok (.putfield 94, 3) := by decide +kernel
theorem dX6_limit_15 : decode cX6_limit 15 = .ok (.goto 23, 3) := by decide +kernel
theorem dX6_limit_18 : decode cX6_limit 18 = .ok (.iload_n 3, 1) := by decide +kernel
theorem dX6_limit_19 : decode cX6_limit 19 = .ok (.ifCond .eq 14, 3) := by decide +kernel
theorem dX6_limit_22 : decode cX6_limit 22 = .ok (.aload_n 2, 1) := by decide +kernel
theorem dX6_limit_23 : decode cX6_limit 23 = .ok (.aload_n 1, 1) := by decide +kernel
theorem dX6_limit_24 : decode cX6_limit 24 = .ok (.invokevirtual 97, 3) := by decide +kernel
theorem dX6_limit_27 : decode cX6_limit 27 = .ok (.iload 4, 2) := by decide +kernel
theorem dX6_limit_29 : decode cX6_limit 29 = .ok (.imul, 1) := by decide +kernel
theorem dX6_limit_30 : decode cX6_limit 30 = .ok (.ifCond .le 8, 3) := by decide +kernel
theorem dX6_limit_33 : decode cX6_limit 33 = .ok (.aload_n 1, 1) := by decide +kernel
theorem dX6_limit_34 : decode cX6_limit 34 = .ok (.aload_n 2, 1) := by decide +kernel
theorem dX6_limit_35 : decode cX6_limit 35 = .ok (.invokevirtual 87, 3) := by decide +kernel
theorem dX6_limit_38 : decode cX6_limit 38 = .ok (.return_, 1) := by decide +kernel
def fX6_limit_33  (h : PH) (x1 : Option Nat) (x2 : Option Nat) : Option (PH) :=
  oN x1 (fun a1 => oC (decide (hT h a1 = 4)) (oB (fX3_copy h a1 x2) (fun h4 => some (h4))))
set_option maxHeartbeats 4000000 in
theorem wfX6_limit_33 {args : Array Value} (b : Bd p s m c cX6_limit 5 RX6 D aC) (hlk : meth.locks = false) (hr : meth.sig.returnType = none) {Z : State → Prop} (zs : Z s) (zk : ZOK Z (Rg ad)) {hz : PH} {h : PH} {x1 : Option Nat} {x2 : Option Nat}  {H : Heap} {locs : List Loc} {ls : Array Slot} (hf : fX6_limit_33 h x1 x2 = some hz) (hE : CE (EX D aC ad h) (Rg ad) s H locs) (hl : lv_has ls 5 [(1, va_rf (Option.map ad x1)), (2, va_rf (Option.map ad x2))]) : W p l e (RM 2 44 0 0) s m args below meth c H locs 0 0 (MQ below (PQ (EX D aC ad hz) (Rg ad) none) args s 0 0 (Rg ad)) (F0 m 33 ls []) := by
  unfold fX6_limit_33 at hf
  refine k_aload_n (x := Option.map ad x1) b dX6_limit_33 rfl (lv_at hl 0 rfl) ?_
  refine k_aload_n (x := Option.map ad x2) b dX6_limit_34 rfl (lv_at hl 1 rfl) ?_
  obtain ⟨a1, ea1, hf⟩ := oN_s hf
  obtain ⟨t2, hf⟩ := oC_s hf
  have t2 := of_decide_eq_true t2
  obtain ⟨h4, hc3, hf⟩ := oB_s hf
  refine k_stk [va_rf (Option.map ad x2)] ea1 ?_
  refine k_callV0 (C := RX3) b zs zk hE (CX3_copy l D aC ad zk hc3) mc_X3_copy (in5 0 rfl rfl) mi_X3_copy ms_X3_copy ini_RX3 ok_X3_copy (x_recv b hE (ci := 3) rfl (by decide) t2) ⟨Nat.le_of_ble_eq_true rfl, Nat.le_of_ble_eq_true rfl⟩ rfl hl.1 rfl (k_room _ (by exact Nat.le_of_ble_eq_true rfl)) ⟨Nat.le_refl _, Nat.le_refl _⟩ dX6_limit_35 (fun H locs hE => ?_)
  cases hf
  exact k_vret b hlk hr hE (Nat.le_refl _) (Nat.le_refl _) dX6_limit_38
def fX6_limit_0  (h : PH) (x0 : Nat) (x1 : Option Nat) (x2 : Option Nat) (x3 : Int32) (x4 : Int32) : Option (PH) :=
  oN x2 (fun a5 => oC (decide (hT h a5 = 4)) (if (hI h 386 a5) = 0 then (if x3 = 0 then (fX6_limit_33  h x1 x2) else (oB (fX3_against h a5 x1) (fun r10 => if (r10 * x4) ≤ 0 then (some (h)) else (fX6_limit_33  h x1 x2)))) else (oC (decide (hT h x0 = 7)) (oN (hR h 772 x0) (fun a13 => oC (decide (hT h a13 = 4)) (oL (sI h 386 a13 1) (fun h15 => some (h15))))))))
set_option maxHeartbeats 4000000 in
theorem wfX6_limit_0 {args : Array Value} (b : Bd p s m c cX6_limit 5 RX6 D aC) (hlk : meth.locks = false) (hr : meth.sig.returnType = none) {Z : State → Prop} (zs : Z s) (zk : ZOK Z (Rg ad)) {hz : PH} {h : PH} {x0 : Nat} {x1 : Option Nat} {x2 : Option Nat} {x3 : Int32} {x4 : Int32}  {H : Heap} {locs : List Loc} {ls : Array Slot} (hf : fX6_limit_0 h x0 x1 x2 x3 x4 = some hz) (hE : CE (EX D aC ad h) (Rg ad) s H locs) (hl : lv_has ls 5 [(0, .ref (ad x0)), (1, va_rf (Option.map ad x1)), (2, va_rf (Option.map ad x2)), (3, .int x3), (4, .int x4)]) : W p l e (RM 2 44 0 0) s m args below meth c H locs 0 0 (MQ below (PQ (EX D aC ad hz) (Rg ad) none) args s 0 0 (Rg ad)) (F0 m 0 ls []) := by
  unfold fX6_limit_0 at hf
  refine k_aload_n (x := Option.map ad x2) b dX6_limit_0 rfl (lv_at hl 2 rfl) ?_
  obtain ⟨a5, ea5, hf⟩ := oN_s hf
  obtain ⟨t6, hf⟩ := oC_s hf
  have t6 := of_decide_eq_true t6
  refine gX6_94 (x := x2) b hE ea5 t6 dX6_limit_1 ?_
  refine lv_if_eq (tgt := 18) b.1 b.2.1 dX6_limit_4 (by decide) (fun c7 => ?_) (fun c7 => ?_)
  · have hf := oI_t c7 hf
    refine lv_iload_n b.1 b.2.1 dX6_limit_18 rfl (lv_at hl 3 rfl) ?_
    refine lv_if_eq (tgt := 33) b.1 b.2.1 dX6_limit_19 (by decide) (fun c8 => ?_) (fun c8 => ?_)
    · have hf := oI_t c8 hf
      exact wfX6_limit_33 b hlk hr zs zk  hf hE (lv_sub hl [1, 2] rfl)
    · have hf := oI_f c8 hf
      refine k_aload_n (x := Option.map ad x2) b dX6_limit_22 rfl (lv_at hl 2 rfl) ?_
      refine k_aload_n (x := Option.map ad x1) b dX6_limit_23 rfl (lv_at hl 1 rfl) ?_
      obtain ⟨r10, hc9, hf⟩ := oB_s hf
      refine k_stk [va_rf (Option.map ad x1)] ea5 ?_
      refine k_callV0 (C := RX3) b zs zk hE (CX3_against l D aC ad zk hc9) mc_X3_against (in5 4 rfl rfl) mi_X3_against ms_X3_against ini_RX3 ok_X3_against (x_recv b hE (ci := 3) rfl (by decide) t6) ⟨Nat.le_of_ble_eq_true rfl, Nat.le_of_ble_eq_true rfl⟩ rfl hl.1 rfl (k_room _ (by exact Nat.le_of_ble_eq_true rfl)) ⟨Nat.le_refl _, Nat.le_refl _⟩ dX6_limit_24 (fun H locs hE => ?_)
      refine lv_iload b.1 b.2.1 dX6_limit_27 (lv_at hl 4 rfl) ?_
      refine lv_imul b.1 b.2.1 dX6_limit_29 ?_
      refine lv_if_le (tgt := 38) b.1 b.2.1 dX6_limit_30 (by decide) (fun c11 => ?_) (fun c11 => ?_)
      · have hf := oI_t c11 hf
        cases hf
        exact k_vret b hlk hr hE (Nat.le_refl _) (Nat.le_refl _) dX6_limit_38
      · have hf := oI_f c11 hf
        exact wfX6_limit_33 b hlk hr zs zk  hf hE (lv_sub hl [1, 2] rfl)
  · have hf := oI_f c7 hf
    refine lv_aload_n b.1 b.2.1 dX6_limit_7 rfl (lv_at hl 0 rfl) ?_
    obtain ⟨t12, hf⟩ := oC_s hf
    have t12 := of_decide_eq_true t12
    refine gX6_26 (x := (some x0)) b hE rfl t12 dX6_limit_8 ?_
    refine lv_iconst (v := 1) b.1 b.2.1 dX6_limit_11 (by decide) ?_
    obtain ⟨a13, ea13, hf⟩ := oN_s hf
    obtain ⟨t14, hf⟩ := oC_s hf
    have t14 := of_decide_eq_true t14
    obtain ⟨h15, eh15, hf⟩ := oL_s hf
    refine pX6_94 (x := (hR h 772 x0)) b hE ea13 t14 (by decide) eh15 dX6_limit_12 (fun H locs hE => ?_)
    refine lv_goto (tgt := 38) b.1 b.2.1 dX6_limit_15 (by decide) ?_
    cases hf
    exact k_vret b hlk hr hE (Nat.le_refl _) (Nat.le_refl _) dX6_limit_38
def fX6_limit (h : PH) (x0 : Nat) (x1 : Option Nat) (x2 : Option Nat) (x3 : Int32) (x4 : Int32) : Option (PH) := fX6_limit_0 h x0 x1 x2 x3 x4
set_option maxHeartbeats 4000000 in
theorem CX6_limit (l : Launch) (D : va_G) (aC : Nat → ClassId) (ad : Nat → Nat) {Z : State → Prop} (zk : ZOK Z (Rg ad)) {h : PH} {x0 : Nat} {x1 : Option Nat} {x2 : Option Nat} {x3 : Int32} {x4 : Int32} {hz : PH} (hf : fX6_limit h x0 x1 x2 x3 x4 = some hz) : CM l D aC Z yX6_limit cX6_limit 5 (none) 2 44 0 0 (EX D aC ad h) [.ref (ad x0), va_rf (Option.map ad x1), va_rf (Option.map ad x2), .int x3, .int x4] (EX D aC ad hz) none (Rg ad) := by
  refine CM.of rfl ?_
  intro p e s m below meth c b hr hlk hin2 zs hE
  cases x1 <;> cases x2 <;> (
    refine k_ent (Nat.le_of_ble_eq_true rfl) (fun ls hl => ?_)
    exact wfX6_limit_0 b hlk hr zs zk hf hE (lv_sub hl [0, 1, 2, 3, 4] rfl))
theorem dX6_take_0 : decode cX6_take 0 = .ok (.aload_n 0, 1) := by decide +kernel
theorem dX6_take_1 : decode cX6_take 1 = .ok (.aload_n 1, 1) := by decide +kernel
theorem dX6_take_2 : decode cX6_take 2 = .ok (.getfield 77, 3) := by decide +kernel
theorem dX6_take_5 : decode cX6_take 5 = .ok (.aload_n 1, 1) := by decide +kernel
theorem dX6_take_6 : decode cX6_take 6 = .ok (.getfield 91, 3) := by decide +kernel
theorem dX6_take_9 : decode cX6_take 9 = .ok (.invokevirtual 83, 3) := by decide +kernel
theorem dX6_take_12 : decode cX6_take 12 = .ok (.astore_n 2, 1) := by decide +kernel
theorem dX6_take_13 : decode cX6_take 13 = .ok (.aload_n 1, 1) := by decide +kernel
theorem dX6_take_14 : decode cX6_take 14 = .ok (.getfield 74, 3) := by decide +kernel
theorem dX6_take_17 : decode cX6_take 17 = .ok (.lookupswitch 91 #[(42, 47), (43, 35), (312, 69)], 35) := by decide +kernel
theorem dX6_take_52 : decode cX6_take 52 = .ok (.aload_n 0, 1) := by decide +kernel
theorem dX6_take_53 : decode cX6_take 53 = .ok (.getfield 26, 3) := by decide +kernel
theorem dX6_take_56 : decode cX6_take 56 = .ok (.aload_n 2, 1) := by decide +kernel
theorem dX6_take_57 : decode cX6_take 57 = .ok (.iconst 1, 1) := by decide +kernel
theorem dX6_take_58 : decode cX6_take 58 = .ok (.invokevirtual 136, 3) := by decide +kernel
theorem dX6_take_61 : decode cX6_take 61 = .ok (.goto 66, 3) := by decide +kernel
theorem dX6_take_64 : decode cX6_take 64 = .ok (.aload_n 0, 1) := by decide +kernel
theorem dX6_take_65 : decode cX6_take 65 = .ok (.getfield 29, 3) := by decide +kernel
theorem dX6_take_68 : decode cX6_take 68 = .ok (.aload_n 2, 1) := by decide +kernel
theorem dX6_take_69 : decode cX6_take 69 = .ok (.getfield 129, 3) := by decide +kernel
theorem dX6_take_72 : decode cX6_take 72 = .ok (.aload_n 2, 1) := by decide +kernel
theorem dX6_take_73 : decode cX6_take 73 = .ok (.getfield 133, 3) := by decide +kernel
theorem dX6_take_76 : decode cX6_take 76 = .ok (.aload_n 2, 1) := by decide +kernel
theorem dX6_take_77 : decode cX6_take 77 = .ok (.getfield 94, 3) := by decide +kernel
theorem dX6_take_80 : decode cX6_take 80 = .ok (.invokevirtual 118, 3) := by decide +kernel
theorem dX6_take_83 : decode cX6_take 83 = .ok (.goto 44, 3) := by decide +kernel
theorem dX6_take_86 : decode cX6_take 86 = .ok (.aload_n 0, 1) := by decide +kernel
theorem dX6_take_87 : decode cX6_take 87 = .ok (.aload_n 0, 1) := by decide +kernel
theorem dX6_take_88 : decode cX6_take 88 = .ok (.getfield 32, 3) := by decide +kernel
theorem dX6_take_91 : decode cX6_take 91 = .ok (.aload_n 2, 1) := by decide +kernel
theorem dX6_take_92 : decode cX6_take 92 = .ok (.aload_n 0, 1) := by decide +kernel
theorem dX6_take_93 : decode cX6_take 93 = .ok (.getfield 143, 3) := by decide +kernel
theorem dX6_take_96 : decode cX6_take 96 = .ok (.iconst (-1), 1) := by decide +kernel
theorem dX6_take_97 : decode cX6_take 97 = .ok (.invokevirtual 149, 3) := by decide +kernel
theorem dX6_take_100 : decode cX6_take 100 = .ok (.aload_n 0, 1) := by decide +kernel
theorem dX6_take_101 : decode cX6_take 101 = .ok (.iconst 1, 1) := by decide +kernel
theorem dX6_take_102 : decode cX6_take 102 = .ok (.putfield 143, 3) := by decide +kernel
theorem dX6_take_105 : decode cX6_take 105 = .ok (.goto 22, 3) := by decide +kernel
theorem dX6_take_108 : decode cX6_take 108 = .ok (.aload_n 0, 1) := by decide +kernel
theorem dX6_take_109 : decode cX6_take 109 = .ok (.aload_n 0, 1) := by decide +kernel
theorem dX6_take_110 : decode cX6_take 110 = .ok (.getfield 35, 3) := by decide +kernel
theorem dX6_take_113 : decode cX6_take 113 = .ok (.aload_n 2, 1) := by decide +kernel
theorem dX6_take_114 : decode cX6_take 114 = .ok (.aload_n 0, 1) := by decide +kernel
theorem dX6_take_115 : decode cX6_take 115 = .ok (.getfield 146, 3) := by decide +kernel
theorem dX6_take_118 : decode cX6_take 118 = .ok (.iconst 1, 1) := by decide +kernel
theorem dX6_take_119 : decode cX6_take 119 = .ok (.invokevirtual 149, 3) := by decide +kernel
theorem dX6_take_122 : decode cX6_take 122 = .ok (.aload_n 0, 1) := by decide +kernel
theorem dX6_take_123 : decode cX6_take 123 = .ok (.iconst 1, 1) := by decide +kernel
theorem dX6_take_124 : decode cX6_take 124 = .ok (.putfield 146, 3) := by decide +kernel
theorem dX6_take_127 : decode cX6_take 127 = .ok (.return_, 1) := by decide +kernel
def fX6_take_0  (h : PH) (x0 : Nat) (x1 : Option Nat) : Option (PH) :=
  oN x1 (fun a1 => oC (decide (hT h a1 = 3)) (oC (decide (hT h x0 = 7)) (oB2 (fX6_work h x0 (hI h 261 a1) (hI h 263 a1)) (fun h6 r5 => oC (decide (hT h6 a1 = 3)) (oL (hI h6 256 a1) (fun y8 => if y8 = 42 then (oC (decide (hT h6 x0 = 7)) (oN r5 (fun a11 => oC (decide (hT h6 a11 = 4)) (oN (hR h6 773 x0) (fun a13 => oC (decide (hT h6 a13 = 4)) (oB (fX3_multiply h6 a13 (hL h6 384 a11) (hL h6 385 a11) (hI h6 386 a11)) (fun h16 => some (h16)))))))) else (if y8 = 43 then (oC (decide (hT h6 x0 = 7)) (oN (hR h6 772 x0) (fun a19 => oC (decide (hT h6 a19 = 4)) (oB (fX3_add h6 a19 r5 1) (fun h22 => some (h22)))))) else (if y8 = 312 then (oC (decide (hT h6 x0 = 7)) (oB (fX6_limit h6 x0 (hR h6 774 x0) r5 (hI h6 776 x0) (-1)) (fun h26 => oC (decide (hT h26 x0 = 7)) (oL (sI h26 776 x0 1) (fun h28 => some (h28)))))) else (oC (decide (hT h6 x0 = 7)) (oB (fX6_limit h6 x0 (hR h6 775 x0) r5 (hI h6 777 x0) 1) (fun h31 => oC (decide (hT h31 x0 = 7)) (oL (sI h31 777 x0 1) (fun h33 => some (h33))))))))))))))
set_option maxHeartbeats 4000000 in
theorem wfX6_take_0 {args : Array Value} (b : Bd p s m c cX6_take 3 RX6 D aC) (hlk : meth.locks = false) (hr : meth.sig.returnType = none) {Z : State → Prop} (zs : Z s) (zk : ZOK Z (Rg ad)) {hz : PH} {h : PH} {x0 : Nat} {x1 : Option Nat}  {H : Heap} {locs : List Loc} {ls : Array Slot} (hf : fX6_take_0 h x0 x1 = some hz) (hE : CE (EX D aC ad h) (Rg ad) s H locs) (hl : lv_has ls 3 [(0, .ref (ad x0)), (1, va_rf (Option.map ad x1))]) : W p l e (RM 4 106 0 0) s m args below meth c H locs 0 0 (MQ below (PQ (EX D aC ad hz) (Rg ad) none) args s 0 0 (Rg ad)) (F0 m 0 ls []) := by
  unfold fX6_take_0 at hf
  refine lv_aload_n b.1 b.2.1 dX6_take_0 rfl (lv_at hl 0 rfl) ?_
  refine k_aload_n (x := Option.map ad x1) b dX6_take_1 rfl (lv_at hl 1 rfl) ?_
  obtain ⟨a1, ea1, hf⟩ := oN_s hf
  obtain ⟨t2, hf⟩ := oC_s hf
  have t2 := of_decide_eq_true t2
  refine gX6_77 (x := x1) b hE ea1 t2 dX6_take_2 ?_
  refine k_aload_n (x := Option.map ad x1) b dX6_take_5 rfl (lv_at hl 1 rfl) ?_
  refine gX6_91 (x := x1) b hE ea1 t2 dX6_take_6 ?_
  obtain ⟨t3, hf⟩ := oC_s hf
  have t3 := of_decide_eq_true t3
  obtain ⟨h6, r5, hc4, hf⟩ := oB2_s hf
  refine k_callV0 (C := RX6) b zs zk hE (CX6_work l D aC ad zk hc4) mc_X6_work (in4 208 rfl rfl) mi_X6_work ms_X6_work ini_RX6 ok_X6_work (x_recv b hE (ci := 6) rfl (by decide) t3) ⟨Nat.le_of_ble_eq_true rfl, Nat.le_of_ble_eq_true rfl⟩ rfl hl.1 rfl (k_room _ (by exact Nat.le_of_ble_eq_true rfl)) ⟨Nat.le_refl _, Nat.le_refl _⟩ dX6_take_9 (fun H locs hE => ?_)
  refine k_astore_n (x := Option.map ad r5) (lv' := [(2, va_rf (Option.map ad r5)), (0, .ref (ad x0)), (1, va_rf (Option.map ad x1))]) b dX6_take_12 rfl hl (by decide) (by cases x1 <;> rfl) (fun ls hl => ?_)
  refine k_aload_n (x := Option.map ad x1) b dX6_take_13 rfl (lv_at hl 2 rfl) ?_
  obtain ⟨t7, hf⟩ := oC_s hf
  have t7 := of_decide_eq_true t7
  refine gX6_74 (x := x1) b hE ea1 t7 dX6_take_14 ?_
  obtain ⟨y8, ey8, hf⟩ := oL_s hf
  refine k_nmI ey8 ?_
  rcases Decidable.em (y8 = 42) with c9 | c9
  · have hf := oI_t c9 hf
    refine lv_lookup (tgt := 64) (off := 47) b.1 b.2.1 dX6_take_17 (by decide) (by rw [c9] <;> rfl) (by decide) ?_
    refine lv_aload_n b.1 b.2.1 dX6_take_64 rfl (lv_at hl 1 rfl) ?_
    obtain ⟨t10, hf⟩ := oC_s hf
    have t10 := of_decide_eq_true t10
    refine gX6_29 (x := (some x0)) b hE rfl t10 dX6_take_65 ?_
    refine k_aload_n (x := Option.map ad r5) b dX6_take_68 rfl (lv_at hl 0 rfl) ?_
    obtain ⟨a11, ea11, hf⟩ := oN_s hf
    obtain ⟨t12, hf⟩ := oC_s hf
    have t12 := of_decide_eq_true t12
    refine gX6_129 (x := r5) b hE ea11 t12 dX6_take_69 ?_
    refine k_aload_n (x := Option.map ad r5) b dX6_take_72 rfl (lv_at hl 0 rfl) ?_
    refine gX6_133 (x := r5) b hE ea11 t12 dX6_take_73 ?_
    refine k_aload_n (x := Option.map ad r5) b dX6_take_76 rfl (lv_at hl 0 rfl) ?_
    refine gX6_94 (x := r5) b hE ea11 t12 dX6_take_77 ?_
    obtain ⟨a13, ea13, hf⟩ := oN_s hf
    obtain ⟨t14, hf⟩ := oC_s hf
    have t14 := of_decide_eq_true t14
    obtain ⟨h16, hc15, hf⟩ := oB_s hf
    refine k_stk [.int (hI h6 386 a11), .long (hL h6 385 a11), .long (hL h6 384 a11)] ea13 ?_
    refine k_callV0 (C := RX3) b zs zk hE (CX3_multiply l D aC ad zk hc15) mc_X3_multiply (in4 224 rfl rfl) mi_X3_multiply ms_X3_multiply ini_RX3 ok_X3_multiply (x_recv b hE (ci := 3) rfl (by decide) t14) ⟨Nat.le_of_ble_eq_true rfl, Nat.le_of_ble_eq_true rfl⟩ rfl hl.1 rfl (k_room _ (by exact Nat.le_of_ble_eq_true rfl)) ⟨Nat.le_refl _, Nat.le_refl _⟩ dX6_take_80 (fun H locs hE => ?_)
    refine lv_goto (tgt := 127) b.1 b.2.1 dX6_take_83 (by decide) ?_
    cases hf
    exact k_vret b hlk hr hE (Nat.le_refl _) (Nat.le_refl _) dX6_take_127
  have hf := oI_f c9 hf
  rcases Decidable.em (y8 = 43) with c17 | c17
  · have hf := oI_t c17 hf
    refine lv_lookup (tgt := 52) (off := 35) b.1 b.2.1 dX6_take_17 (by decide) (by rw [c17] <;> rfl) (by decide) ?_
    refine lv_aload_n b.1 b.2.1 dX6_take_52 rfl (lv_at hl 1 rfl) ?_
    obtain ⟨t18, hf⟩ := oC_s hf
    have t18 := of_decide_eq_true t18
    refine gX6_26 (x := (some x0)) b hE rfl t18 dX6_take_53 ?_
    refine k_aload_n (x := Option.map ad r5) b dX6_take_56 rfl (lv_at hl 0 rfl) ?_
    refine lv_iconst (v := 1) b.1 b.2.1 dX6_take_57 (by decide) ?_
    obtain ⟨a19, ea19, hf⟩ := oN_s hf
    obtain ⟨t20, hf⟩ := oC_s hf
    have t20 := of_decide_eq_true t20
    obtain ⟨h22, hc21, hf⟩ := oB_s hf
    refine k_stk [.int 1, va_rf (Option.map ad r5)] ea19 ?_
    refine k_callV0 (C := RX3) b zs zk hE (CX3_add l D aC ad zk hc21) mc_X3_add (in4 236 rfl rfl) mi_X3_add ms_X3_add ini_RX3 ok_X3_add (x_recv b hE (ci := 3) rfl (by decide) t20) ⟨Nat.le_of_ble_eq_true rfl, Nat.le_of_ble_eq_true rfl⟩ rfl hl.1 rfl (k_room _ (by exact Nat.le_of_ble_eq_true rfl)) ⟨Nat.le_refl _, Nat.le_refl _⟩ dX6_take_58 (fun H locs hE => ?_)
    refine lv_goto (tgt := 127) b.1 b.2.1 dX6_take_61 (by decide) ?_
    cases hf
    exact k_vret b hlk hr hE (Nat.le_refl _) (Nat.le_refl _) dX6_take_127
  have hf := oI_f c17 hf
  rcases Decidable.em (y8 = 312) with c23 | c23
  · have hf := oI_t c23 hf
    refine lv_lookup (tgt := 86) (off := 69) b.1 b.2.1 dX6_take_17 (by decide) (by rw [c23] <;> rfl) (by decide) ?_
    refine lv_aload_n b.1 b.2.1 dX6_take_86 rfl (lv_at hl 1 rfl) ?_
    refine lv_aload_n b.1 b.2.1 dX6_take_87 rfl (lv_at hl 1 rfl) ?_
    obtain ⟨t24, hf⟩ := oC_s hf
    have t24 := of_decide_eq_true t24
    refine gX6_32 (x := (some x0)) b hE rfl t24 dX6_take_88 ?_
    refine k_aload_n (x := Option.map ad r5) b dX6_take_91 rfl (lv_at hl 0 rfl) ?_
    refine lv_aload_n b.1 b.2.1 dX6_take_92 rfl (lv_at hl 1 rfl) ?_
    refine gX6_143 (x := (some x0)) b hE rfl t24 dX6_take_93 ?_
    refine lv_iconst (v := (-1)) b.1 b.2.1 dX6_take_96 (by decide) ?_
    obtain ⟨h26, hc25, hf⟩ := oB_s hf
    refine k_callV0 (C := RX6) b zs zk hE (CX6_limit l D aC ad zk hc25) mc_X6_limit (in5 79 rfl rfl) mi_X6_limit ms_X6_limit ini_RX6 ok_X6_limit (x_recv b hE (ci := 6) rfl (by decide) t24) ⟨Nat.le_of_ble_eq_true rfl, Nat.le_of_ble_eq_true rfl⟩ rfl hl.1 rfl (k_room _ (by exact Nat.le_of_ble_eq_true rfl)) ⟨Nat.le_refl _, Nat.le_refl _⟩ dX6_take_97 (fun H locs hE => ?_)
    refine lv_aload_n b.1 b.2.1 dX6_take_100 rfl (lv_at hl 1 rfl) ?_
    refine lv_iconst (v := 1) b.1 b.2.1 dX6_take_101 (by decide) ?_
    obtain ⟨t27, hf⟩ := oC_s hf
    have t27 := of_decide_eq_true t27
    obtain ⟨h28, eh28, hf⟩ := oL_s hf
    refine pX6_143 (x := (some x0)) b hE rfl t27 (by decide) eh28 dX6_take_102 (fun H locs hE => ?_)
    refine lv_goto (tgt := 127) b.1 b.2.1 dX6_take_105 (by decide) ?_
    cases hf
    exact k_vret b hlk hr hE (Nat.le_refl _) (Nat.le_refl _) dX6_take_127
  have hf := oI_f c23 hf
  refine lv_lookup (tgt := 108) (off := 91) b.1 b.2.1 dX6_take_17 (by decide) (by rw [lv_osw c9 (by decide), lv_osw c17 (by decide), lv_osw c23 (by decide)] <;> rfl) (by decide) ?_
  refine lv_aload_n b.1 b.2.1 dX6_take_108 rfl (lv_at hl 1 rfl) ?_
  refine lv_aload_n b.1 b.2.1 dX6_take_109 rfl (lv_at hl 1 rfl) ?_
  obtain ⟨t29, hf⟩ := oC_s hf
  have t29 := of_decide_eq_true t29
  refine gX6_35 (x := (some x0)) b hE rfl t29 dX6_take_110 ?_
  refine k_aload_n (x := Option.map ad r5) b dX6_take_113 rfl (lv_at hl 0 rfl) ?_
  refine lv_aload_n b.1 b.2.1 dX6_take_114 rfl (lv_at hl 1 rfl) ?_
  refine gX6_146 (x := (some x0)) b hE rfl t29 dX6_take_115 ?_
  refine lv_iconst (v := 1) b.1 b.2.1 dX6_take_118 (by decide) ?_
  obtain ⟨h31, hc30, hf⟩ := oB_s hf
  refine k_callV0 (C := RX6) b zs zk hE (CX6_limit l D aC ad zk hc30) mc_X6_limit (in5 79 rfl rfl) mi_X6_limit ms_X6_limit ini_RX6 ok_X6_limit (x_recv b hE (ci := 6) rfl (by decide) t29) ⟨Nat.le_of_ble_eq_true rfl, Nat.le_of_ble_eq_true rfl⟩ rfl hl.1 rfl (k_room _ (by exact Nat.le_of_ble_eq_true rfl)) ⟨Nat.le_refl _, Nat.le_refl _⟩ dX6_take_119 (fun H locs hE => ?_)
  refine lv_aload_n b.1 b.2.1 dX6_take_122 rfl (lv_at hl 1 rfl) ?_
  refine lv_iconst (v := 1) b.1 b.2.1 dX6_take_123 (by decide) ?_
  obtain ⟨t32, hf⟩ := oC_s hf
  have t32 := of_decide_eq_true t32
  obtain ⟨h33, eh33, hf⟩ := oL_s hf
  refine pX6_146 (x := (some x0)) b hE rfl t32 (by decide) eh33 dX6_take_124 (fun H locs hE => ?_)
  cases hf
  exact k_vret b hlk hr hE (Nat.le_refl _) (Nat.le_refl _) dX6_take_127
def fX6_take (h : PH) (x0 : Nat) (x1 : Option Nat) : Option (PH) := fX6_take_0 h x0 x1
set_option maxHeartbeats 4000000 in
theorem CX6_take (l : Launch) (D : va_G) (aC : Nat → ClassId) (ad : Nat → Nat) {Z : State → Prop} (zk : ZOK Z (Rg ad)) {h : PH} {x0 : Nat} {x1 : Option Nat} {hz : PH} (hf : fX6_take h x0 x1 = some hz) : CM l D aC Z yX6_take cX6_take 3 (none) 4 106 0 0 (EX D aC ad h) [.ref (ad x0), va_rf (Option.map ad x1)] (EX D aC ad hz) none (Rg ad) := by
  refine CM.of rfl ?_
  intro p e s m below meth c b hr hlk hin2 zs hE
  cases x1 <;> (
    refine k_ent (Nat.le_of_ble_eq_true rfl) (fun ls hl => ?_)
    exact wfX6_take_0 b hlk hr zs zk hf hE (lv_sub hl [0, 1] rfl))
theorem dX6_finishSum_0 : decode cX6_finishSum 0 = .ok (.aload_n 0, 1) := by decide +kernel
theorem dX6_finishSum_1 : decode cX6_finishSum 1 = .ok (.getfield 26, 3) := by decide +kernel
theorem dX6_finishSum_4 : decode cX6_finishSum 4 = .ok (.aload_n 0, 1) := by decide +kernel
theorem dX6_finishSum_5 : decode cX6_finishSum 5 = .ok (.getfield 29, 3) := by decide +kernel
theorem dX6_finishSum_8 : decode cX6_finishSum 8 = .ok (.getfield 129, 3) := by decide +kernel
theorem dX6_finishSum_11 : decode cX6_finishSum 11 = .ok (.aload_n 0, 1) := by decide +kernel
theorem dX6_finishSum_12 : decode cX6_finishSum 12 = .ok (.getfield 29, 3) := by decide +kernel
theorem dX6_finishSum_15 : decode cX6_finishSum 15 = .ok (.getfield 133, 3) := by decide +kernel
theorem dX6_finishSum_18 : decode cX6_finishSum 18 = .ok (.aload_n 0, 1) := by decide +kernel
theorem dX6_finishSum_19 : decode cX6_finishSum 19 = .ok (.getfield 29, 3) := by decide +kernel
theorem dX6_finishSum_22 : decode cX6_finishSum 22 = .ok (.getfield 94, 3) := by decide +kernel
theorem dX6_finishSum_25 : decode cX6_finishSum 25 = .ok (.invokevirtual 118, 3) := by decide +kernel
theorem dX6_finishSum_28 : decode cX6_finishSum 28 = .ok (.aload_n 0, 1) := by decide +kernel
theorem dX6_finishSum_29 : decode cX6_finishSum 29 = .ok (.getfield 26, 3) := by decide +kernel
theorem dX6_finishSum_32 : decode cX6_finishSum 32 = .ok (.getfield 94, 3) := by decide +kernel
theorem dX6_finishSum_35 : decode cX6_finishSum 35 = .ok (.ifCond .ne 35, 3) := by decide +kernel
theorem dX6_finishSum_38 : decode cX6_finishSum 38 = .ok (.aload_n 0, 1) := by decide +kernel
theorem dX6_finishSum_39 : decode cX6_finishSum 39 = .ok (.getfield 143, 3) := by decide +kernel
theorem dX6_finishSum_42 : decode cX6_finishSum 42 = .ok (.ifCond .eq 28, 3) := by decide +kernel
theorem dX6_finishSum_45 : decode cX6_finishSum 45 = .ok (.aload_n 0, 1) := by decide +kernel
theorem dX6_finishSum_46 : decode cX6_finishSum 46 = .ok (.getfield 26, 3) := by decide +kernel
theorem dX6_finishSum_49 : decode cX6_finishSum 49 = .ok (.aload_n 0, 1) := by decide +kernel
theorem dX6_finishSum_50 : decode cX6_finishSum 50 = .ok (.getfield 32, 3) := by decide +kernel
theorem dX6_finishSum_53 : decode cX6_finishSum 53 = .ok (.invokevirtual 97, 3) := by decide +kernel
theorem dX6_finishSum_56 : decode cX6_finishSum 56 = .ok (.ifCond .le 14, 3) := by decide +kernel
theorem dX6_finishSum_59 : decode cX6_finishSum 59 = .ok (.aload_n 0, 1) := by decide +kernel
theorem dX6_finishSum_60 : decode cX6_finishSum 60 = .ok (.getfield 26, 3) := by decide +kernel
theorem dX6_finishSum_63 : decode cX6_finishSum 63 = .ok (.aload_n 0, 1) := by decide +kernel
theorem dX6_finishSum_64 : decode cX6_finishSum 64 = .ok (.getfield 32, 3) := by decide +kernel
theorem dX6_finishSum_67 : decode cX6_finishSum 67 = .ok (.invokevirtual 87, 3) := by decide +kernel
theorem dX6_finishSum_70 : decode cX6_finishSum 70 = .ok (.aload_n 0, 1) := by decide +kernel
theorem dX6_finishSum_71 : decode cX6_finishSum 71 = .ok (.getfield 26, 3) := by decide +kernel
theorem dX6_finishSum_74 : decode cX6_finishSum 74 = .ok (.getfield 94, 3) := by decide +kernel
theorem dX6_finishSum_77 : decode cX6_finishSum 77 = .ok (.ifCond .ne 35, 3) := by decide +kernel
theorem dX6_finishSum_80 : decode cX6_finishSum 80 = .ok (.aload_n 0, 1) := by decide +kernel
theorem dX6_finishSum_81 : decode cX6_finishSum 81 = .ok (.getfield 146, 3) := by decide +kernel
theorem dX6_finishSum_84 : decode cX6_finishSum 84 = .ok (.ifCond .eq 28, 3) := by decide +kernel
theorem dX6_finishSum_87 : decode cX6_finishSum 87 = .ok (.aload_n 0, 1) := by decide +kernel
theorem dX6_finishSum_88 : decode cX6_finishSum 88 = .ok (.getfield 26, 3) := by decide +kernel
theorem dX6_finishSum_91 : decode cX6_finishSum 91 = .ok (.aload_n 0, 1) := by decide +kernel
theorem dX6_finishSum_92 : decode cX6_finishSum 92 = .ok (.getfield 35, 3) := by decide +kernel
theorem dX6_finishSum_95 : decode cX6_finishSum 95 = .ok (.invokevirtual 97, 3) := by decide +kernel
theorem dX6_finishSum_98 : decode cX6_finishSum 98 = .ok (.ifCond .ge 14, 3) := by decide +kernel
theorem dX6_finishSum_101 : decode cX6_finishSum 101 = .ok (.aload_n 0, 1) := by decide +kernel
theorem dX6_finishSum_102 : decode cX6_finishSum 102 = .ok (.getfield 26, 3) := by decide +kernel
theorem dX6_finishSum_105 : decode cX6_finishSum 105 = .ok (.aload_n 0, 1) := by decide +kernel
theorem dX6_finishSum_106 : decode cX6_finishSum 106 = .ok (.getfield 35, 3) := by decide +kernel
theorem dX6_finishSum_109 : decode cX6_finishSum 109 = .ok (.invokevirtual 87, 3) := by decide +kernel
theorem dX6_finishSum_112 : decode cX6_finishSum 112 = .ok (.aload_n 0, 1) := by decide +kernel
theorem dX6_finishSum_113 : decode cX6_finishSum 113 = .ok (.getfield 26, 3) := by decide +kernel
theorem dX6_finishSum_116 : decode cX6_finishSum 116 = .ok (.areturn, 1) := by decide +kernel
def fX6_finishSum_112  (h : PH) (x0 : Nat) : Option (PH × Option Nat) :=
  oC (decide (hT h x0 = 7)) (some (h, (hR h 772 x0)))
set_option maxHeartbeats 4000000 in
theorem wfX6_finishSum_112 {args : Array Value} (b : Bd p s m c cX6_finishSum 1 RX6 D aC) (hlk : meth.locks = false) (hr : meth.sig.returnType = some (.object "StatuteBench$Fraction")) {Z : State → Prop} (zs : Z s) (zk : ZOK Z (Rg ad)) {hz : PH} {rz : Option Nat} {h : PH} {x0 : Nat}  {H : Heap} {locs : List Loc} {ls : Array Slot} (hf : fX6_finishSum_112 h x0 = some (hz, rz)) (hE : CE (EX D aC ad h) (Rg ad) s H locs) (hl : lv_has ls 1 [(0, .ref (ad x0))]) : W p l e (RM 2 56 0 0) s m args below meth c H locs 0 0 (MQ below (PQ (EX D aC ad hz) (Rg ad) (some (va_rf (Option.map ad rz)))) args s 0 0 (Rg ad)) (F0 m 112 ls []) := by
  unfold fX6_finishSum_112 at hf
  refine lv_aload_n b.1 b.2.1 dX6_finishSum_112 rfl (lv_at hl 0 rfl) ?_
  obtain ⟨t1, hf⟩ := oC_s hf
  have t1 := of_decide_eq_true t1
  refine gX6_26 (x := (some x0)) b hE rfl t1 dX6_finishSum_113 ?_
  cases hf
  exact k_aret b hlk hr hE (Nat.le_refl _) (Nat.le_refl _) dX6_finishSum_116
def fX6_finishSum_70  (h : PH) (x0 : Nat) : Option (PH × Option Nat) :=
  oC (decide (hT h x0 = 7)) (oN (hR h 772 x0) (fun a3 => oC (decide (hT h a3 = 4)) (if (hI h 386 a3) = 0 then (if (hI h 777 x0) = 0 then (fX6_finishSum_112  h x0) else (oB (fX3_against h a3 (hR h 775 x0)) (fun r8 => if 0 ≤ r8 then (fX6_finishSum_112  h x0) else (oB (fX3_copy h a3 (hR h 775 x0)) (fun h11 => fX6_finishSum_112  h11 x0))))) else (fX6_finishSum_112  h x0))))
set_option maxHeartbeats 4000000 in
theorem wfX6_finishSum_70 {args : Array Value} (b : Bd p s m c cX6_finishSum 1 RX6 D aC) (hlk : meth.locks = false) (hr : meth.sig.returnType = some (.object "StatuteBench$Fraction")) {Z : State → Prop} (zs : Z s) (zk : ZOK Z (Rg ad)) {hz : PH} {rz : Option Nat} {h : PH} {x0 : Nat}  {H : Heap} {locs : List Loc} {ls : Array Slot} (hf : fX6_finishSum_70 h x0 = some (hz, rz)) (hE : CE (EX D aC ad h) (Rg ad) s H locs) (hl : lv_has ls 1 [(0, .ref (ad x0))]) : W p l e (RM 2 56 0 0) s m args below meth c H locs 0 0 (MQ below (PQ (EX D aC ad hz) (Rg ad) (some (va_rf (Option.map ad rz)))) args s 0 0 (Rg ad)) (F0 m 70 ls []) := by
  unfold fX6_finishSum_70 at hf
  refine lv_aload_n b.1 b.2.1 dX6_finishSum_70 rfl (lv_at hl 0 rfl) ?_
  obtain ⟨t2, hf⟩ := oC_s hf
  have t2 := of_decide_eq_true t2
  refine gX6_26 (x := (some x0)) b hE rfl t2 dX6_finishSum_71 ?_
  obtain ⟨a3, ea3, hf⟩ := oN_s hf
  obtain ⟨t4, hf⟩ := oC_s hf
  have t4 := of_decide_eq_true t4
  refine gX6_94 (x := (hR h 772 x0)) b hE ea3 t4 dX6_finishSum_74 ?_
  refine lv_if_ne (tgt := 112) b.1 b.2.1 dX6_finishSum_77 (by decide) (fun c5 => ?_) (fun c5 => ?_)
  · have hf := oI_f c5 hf
    exact wfX6_finishSum_112 b hlk hr zs zk  hf hE (lv_sub hl [0] rfl)
  · have hf := oI_t c5 hf
    refine lv_aload_n b.1 b.2.1 dX6_finishSum_80 rfl (lv_at hl 0 rfl) ?_
    refine gX6_146 (x := (some x0)) b hE rfl t2 dX6_finishSum_81 ?_
    refine lv_if_eq (tgt := 112) b.1 b.2.1 dX6_finishSum_84 (by decide) (fun c6 => ?_) (fun c6 => ?_)
    · have hf := oI_t c6 hf
      exact wfX6_finishSum_112 b hlk hr zs zk  hf hE (lv_sub hl [0] rfl)
    · have hf := oI_f c6 hf
      refine lv_aload_n b.1 b.2.1 dX6_finishSum_87 rfl (lv_at hl 0 rfl) ?_
      refine gX6_26 (x := (some x0)) b hE rfl t2 dX6_finishSum_88 ?_
      refine lv_aload_n b.1 b.2.1 dX6_finishSum_91 rfl (lv_at hl 0 rfl) ?_
      refine gX6_35 (x := (some x0)) b hE rfl t2 dX6_finishSum_92 ?_
      obtain ⟨r8, hc7, hf⟩ := oB_s hf
      refine k_stk [va_rf (Option.map ad (hR h 775 x0))] ea3 ?_
      refine k_callV0 (C := RX3) b zs zk hE (CX3_against l D aC ad zk hc7) mc_X3_against (in5 4 rfl rfl) mi_X3_against ms_X3_against ini_RX3 ok_X3_against (x_recv b hE (ci := 3) rfl (by decide) t4) ⟨Nat.le_of_ble_eq_true rfl, Nat.le_of_ble_eq_true rfl⟩ rfl hl.1 rfl (k_room _ (by exact Nat.le_of_ble_eq_true rfl)) ⟨Nat.le_refl _, Nat.le_refl _⟩ dX6_finishSum_95 (fun H locs hE => ?_)
      refine lv_if_ge (tgt := 112) b.1 b.2.1 dX6_finishSum_98 (by decide) (fun c9 => ?_) (fun c9 => ?_)
      · have hf := oI_t c9 hf
        exact wfX6_finishSum_112 b hlk hr zs zk  hf hE (lv_sub hl [0] rfl)
      · have hf := oI_f c9 hf
        refine lv_aload_n b.1 b.2.1 dX6_finishSum_101 rfl (lv_at hl 0 rfl) ?_
        refine gX6_26 (x := (some x0)) b hE rfl t2 dX6_finishSum_102 ?_
        refine lv_aload_n b.1 b.2.1 dX6_finishSum_105 rfl (lv_at hl 0 rfl) ?_
        refine gX6_35 (x := (some x0)) b hE rfl t2 dX6_finishSum_106 ?_
        obtain ⟨h11, hc10, hf⟩ := oB_s hf
        refine k_stk [va_rf (Option.map ad (hR h 775 x0))] ea3 ?_
        refine k_callV0 (C := RX3) b zs zk hE (CX3_copy l D aC ad zk hc10) mc_X3_copy (in5 0 rfl rfl) mi_X3_copy ms_X3_copy ini_RX3 ok_X3_copy (x_recv b hE (ci := 3) rfl (by decide) t4) ⟨Nat.le_of_ble_eq_true rfl, Nat.le_of_ble_eq_true rfl⟩ rfl hl.1 rfl (k_room _ (by exact Nat.le_of_ble_eq_true rfl)) ⟨Nat.le_refl _, Nat.le_refl _⟩ dX6_finishSum_109 (fun H locs hE => ?_)
        exact wfX6_finishSum_112 b hlk hr zs zk  hf hE (lv_sub hl [0] rfl)
def fX6_finishSum_0  (h : PH) (x0 : Nat) : Option (PH × Option Nat) :=
  oC (decide (hT h x0 = 7)) (oN (hR h 773 x0) (fun a13 => oC (decide (hT h a13 = 4)) (oN (hR h 772 x0) (fun a15 => oC (decide (hT h a15 = 4)) (oB (fX3_multiply h a15 (hL h 384 a13) (hL h 385 a13) (hI h 386 a13)) (fun h18 => oC (decide (hT h18 x0 = 7)) (oN (hR h18 772 x0) (fun a20 => oC (decide (hT h18 a20 = 4)) (if (hI h18 386 a20) = 0 then (if (hI h18 776 x0) = 0 then (fX6_finishSum_70  h18 x0) else (oB (fX3_against h18 a20 (hR h18 774 x0)) (fun r25 => if r25 ≤ 0 then (fX6_finishSum_70  h18 x0) else (oB (fX3_copy h18 a20 (hR h18 774 x0)) (fun h28 => fX6_finishSum_70  h28 x0))))) else (fX6_finishSum_70  h18 x0))))))))))
set_option maxHeartbeats 4000000 in
theorem wfX6_finishSum_0 {args : Array Value} (b : Bd p s m c cX6_finishSum 1 RX6 D aC) (hlk : meth.locks = false) (hr : meth.sig.returnType = some (.object "StatuteBench$Fraction")) {Z : State → Prop} (zs : Z s) (zk : ZOK Z (Rg ad)) {hz : PH} {rz : Option Nat} {h : PH} {x0 : Nat}  {H : Heap} {locs : List Loc} {ls : Array Slot} (hf : fX6_finishSum_0 h x0 = some (hz, rz)) (hE : CE (EX D aC ad h) (Rg ad) s H locs) (hl : lv_has ls 1 [(0, .ref (ad x0))]) : W p l e (RM 2 56 0 0) s m args below meth c H locs 0 0 (MQ below (PQ (EX D aC ad hz) (Rg ad) (some (va_rf (Option.map ad rz)))) args s 0 0 (Rg ad)) (F0 m 0 ls []) := by
  unfold fX6_finishSum_0 at hf
  refine lv_aload_n b.1 b.2.1 dX6_finishSum_0 rfl (lv_at hl 0 rfl) ?_
  obtain ⟨t12, hf⟩ := oC_s hf
  have t12 := of_decide_eq_true t12
  refine gX6_26 (x := (some x0)) b hE rfl t12 dX6_finishSum_1 ?_
  refine lv_aload_n b.1 b.2.1 dX6_finishSum_4 rfl (lv_at hl 0 rfl) ?_
  refine gX6_29 (x := (some x0)) b hE rfl t12 dX6_finishSum_5 ?_
  obtain ⟨a13, ea13, hf⟩ := oN_s hf
  obtain ⟨t14, hf⟩ := oC_s hf
  have t14 := of_decide_eq_true t14
  refine gX6_129 (x := (hR h 773 x0)) b hE ea13 t14 dX6_finishSum_8 ?_
  refine lv_aload_n b.1 b.2.1 dX6_finishSum_11 rfl (lv_at hl 0 rfl) ?_
  refine gX6_29 (x := (some x0)) b hE rfl t12 dX6_finishSum_12 ?_
  refine gX6_133 (x := (hR h 773 x0)) b hE ea13 t14 dX6_finishSum_15 ?_
  refine lv_aload_n b.1 b.2.1 dX6_finishSum_18 rfl (lv_at hl 0 rfl) ?_
  refine gX6_29 (x := (some x0)) b hE rfl t12 dX6_finishSum_19 ?_
  refine gX6_94 (x := (hR h 773 x0)) b hE ea13 t14 dX6_finishSum_22 ?_
  obtain ⟨a15, ea15, hf⟩ := oN_s hf
  obtain ⟨t16, hf⟩ := oC_s hf
  have t16 := of_decide_eq_true t16
  obtain ⟨h18, hc17, hf⟩ := oB_s hf
  refine k_stk [.int (hI h 386 a13), .long (hL h 385 a13), .long (hL h 384 a13)] ea15 ?_
  refine k_callV0 (C := RX3) b zs zk hE (CX3_multiply l D aC ad zk hc17) mc_X3_multiply (in4 224 rfl rfl) mi_X3_multiply ms_X3_multiply ini_RX3 ok_X3_multiply (x_recv b hE (ci := 3) rfl (by decide) t16) ⟨Nat.le_of_ble_eq_true rfl, Nat.le_of_ble_eq_true rfl⟩ rfl hl.1 rfl (k_room _ (by exact Nat.le_of_ble_eq_true rfl)) ⟨Nat.le_refl _, Nat.le_refl _⟩ dX6_finishSum_25 (fun H locs hE => ?_)
  refine lv_aload_n b.1 b.2.1 dX6_finishSum_28 rfl (lv_at hl 0 rfl) ?_
  obtain ⟨t19, hf⟩ := oC_s hf
  have t19 := of_decide_eq_true t19
  refine gX6_26 (x := (some x0)) b hE rfl t19 dX6_finishSum_29 ?_
  obtain ⟨a20, ea20, hf⟩ := oN_s hf
  obtain ⟨t21, hf⟩ := oC_s hf
  have t21 := of_decide_eq_true t21
  refine gX6_94 (x := (hR h18 772 x0)) b hE ea20 t21 dX6_finishSum_32 ?_
  refine lv_if_ne (tgt := 70) b.1 b.2.1 dX6_finishSum_35 (by decide) (fun c22 => ?_) (fun c22 => ?_)
  · have hf := oI_f c22 hf
    exact wfX6_finishSum_70 b hlk hr zs zk  hf hE (lv_sub hl [0] rfl)
  · have hf := oI_t c22 hf
    refine lv_aload_n b.1 b.2.1 dX6_finishSum_38 rfl (lv_at hl 0 rfl) ?_
    refine gX6_143 (x := (some x0)) b hE rfl t19 dX6_finishSum_39 ?_
    refine lv_if_eq (tgt := 70) b.1 b.2.1 dX6_finishSum_42 (by decide) (fun c23 => ?_) (fun c23 => ?_)
    · have hf := oI_t c23 hf
      exact wfX6_finishSum_70 b hlk hr zs zk  hf hE (lv_sub hl [0] rfl)
    · have hf := oI_f c23 hf
      refine lv_aload_n b.1 b.2.1 dX6_finishSum_45 rfl (lv_at hl 0 rfl) ?_
      refine gX6_26 (x := (some x0)) b hE rfl t19 dX6_finishSum_46 ?_
      refine lv_aload_n b.1 b.2.1 dX6_finishSum_49 rfl (lv_at hl 0 rfl) ?_
      refine gX6_32 (x := (some x0)) b hE rfl t19 dX6_finishSum_50 ?_
      obtain ⟨r25, hc24, hf⟩ := oB_s hf
      refine k_stk [va_rf (Option.map ad (hR h18 774 x0))] ea20 ?_
      refine k_callV0 (C := RX3) b zs zk hE (CX3_against l D aC ad zk hc24) mc_X3_against (in5 4 rfl rfl) mi_X3_against ms_X3_against ini_RX3 ok_X3_against (x_recv b hE (ci := 3) rfl (by decide) t21) ⟨Nat.le_of_ble_eq_true rfl, Nat.le_of_ble_eq_true rfl⟩ rfl hl.1 rfl (k_room _ (by exact Nat.le_of_ble_eq_true rfl)) ⟨Nat.le_refl _, Nat.le_refl _⟩ dX6_finishSum_53 (fun H locs hE => ?_)
      refine lv_if_le (tgt := 70) b.1 b.2.1 dX6_finishSum_56 (by decide) (fun c26 => ?_) (fun c26 => ?_)
      · have hf := oI_t c26 hf
        exact wfX6_finishSum_70 b hlk hr zs zk  hf hE (lv_sub hl [0] rfl)
      · have hf := oI_f c26 hf
        refine lv_aload_n b.1 b.2.1 dX6_finishSum_59 rfl (lv_at hl 0 rfl) ?_
        refine gX6_26 (x := (some x0)) b hE rfl t19 dX6_finishSum_60 ?_
        refine lv_aload_n b.1 b.2.1 dX6_finishSum_63 rfl (lv_at hl 0 rfl) ?_
        refine gX6_32 (x := (some x0)) b hE rfl t19 dX6_finishSum_64 ?_
        obtain ⟨h28, hc27, hf⟩ := oB_s hf
        refine k_stk [va_rf (Option.map ad (hR h18 774 x0))] ea20 ?_
        refine k_callV0 (C := RX3) b zs zk hE (CX3_copy l D aC ad zk hc27) mc_X3_copy (in5 0 rfl rfl) mi_X3_copy ms_X3_copy ini_RX3 ok_X3_copy (x_recv b hE (ci := 3) rfl (by decide) t21) ⟨Nat.le_of_ble_eq_true rfl, Nat.le_of_ble_eq_true rfl⟩ rfl hl.1 rfl (k_room _ (by exact Nat.le_of_ble_eq_true rfl)) ⟨Nat.le_refl _, Nat.le_refl _⟩ dX6_finishSum_67 (fun H locs hE => ?_)
        exact wfX6_finishSum_70 b hlk hr zs zk  hf hE (lv_sub hl [0] rfl)
def fX6_finishSum (h : PH) (x0 : Nat) : Option (PH × Option Nat) := fX6_finishSum_0 h x0
set_option maxHeartbeats 4000000 in
theorem CX6_finishSum (l : Launch) (D : va_G) (aC : Nat → ClassId) (ad : Nat → Nat) {Z : State → Prop} (zk : ZOK Z (Rg ad)) {h : PH} {x0 : Nat} {hz : PH} {rz : Option Nat} (hf : fX6_finishSum h x0 = some (hz, rz)) : CM l D aC Z yX6_finishSum cX6_finishSum 1 (some (.object "StatuteBench$Fraction")) 2 56 0 0 (EX D aC ad h) [.ref (ad x0)] (EX D aC ad hz) (some (va_rf (Option.map ad rz))) (Rg ad) := by
  refine CM.of rfl ?_
  intro p e s m below meth c b hr hlk hin2 zs hE
  refine k_ent (Nat.le_of_ble_eq_true rfl) (fun ls hl => ?_)
  exact wfX6_finishSum_0 b hlk hr zs zk hf hE (lv_sub hl [0] rfl)
end
