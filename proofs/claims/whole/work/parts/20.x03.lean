section
variable {p : Program} {l : Launch} {e : Env} {s : State} {m : MethodId} {below : List Frame} {meth : Method} {c : Code} {D : va_G} {aC : Nat → ClassId} {ad : Nat → Nat}
theorem dX1_literal_0 : decode cX1_literal 0 = .ok (.iload_n 1, 1) := by decide +kernel
theorem dX1_literal_1 : decode cX1_literal 1 = .ok (.ifCond .lt 15, 3) := by decide +kernel
theorem dX1_literal_4 : decode cX1_literal 4 = .ok (.iload_n 1, 1) := by decide +kernel
theorem dX1_literal_5 : decode cX1_literal 5 = .ok (.iload 5, 2) := by decide +kernel
theorem dX1_literal_7 : decode cX1_literal 7 = .ok (.if_icmp .ge 9, 3) := by decide +kernel
theorem dX1_literal_10 : decode cX1_literal 10 = .ok (.iload_n 1, 1) := by decide +kernel
theorem dX1_literal_11 : decode cX1_literal 11 = .ok (.bipush 12, 2) := by decide +kernel
theorem dX1_literal_13 : decode cX1_literal 13 = .ok (.if_icmp .lt 5, 3) := by decide +kernel
theorem dX1_literal_16 : decode cX1_literal 16 = .ok (.iconst (-1), 1) := by decide +kernel
theorem dX1_literal_17 : decode cX1_literal 17 = .ok (.ireturn, 1) := by decide +kernel
theorem dX1_literal_18 : decode cX1_literal 18 = .ok (.aload_n 0, 1) := by decide +kernel
theorem dX1_literal_19 : decode cX1_literal 19 = .ok (.getfield 32, 3) := by decide +kernel
theorem dX1_literal_22 : decode cX1_literal 22 = .ok (.iload_n 1, 1) := by decide +kernel
theorem dX1_literal_23 : decode cX1_literal 23 = .ok (.iaload, 1) := by decide +kernel
theorem dX1_literal_24 : decode cX1_literal 24 = .ok (.ifCond .le 7, 3) := by decide +kernel
theorem dX1_literal_27 : decode cX1_literal 27 = .ok (.iload_n 3, 1) := by decide +kernel
theorem dX1_literal_28 : decode cX1_literal 28 = .ok (.goto 4, 3) := by decide +kernel
theorem dX1_literal_31 : decode cX1_literal 31 = .ok (.iconst 0, 1) := by decide +kernel
theorem dX1_literal_32 : decode cX1_literal 32 = .ok (.istore 7, 2) := by decide +kernel
theorem dX1_literal_34 : decode cX1_literal 34 = .ok (.aload_n 0, 1) := by decide +kernel
theorem dX1_literal_35 : decode cX1_literal 35 = .ok (.getfield 32, 3) := by decide +kernel
theorem dX1_literal_38 : decode cX1_literal 38 = .ok (.iload_n 1, 1) := by decide +kernel
theorem dX1_literal_39 : decode cX1_literal 39 = .ok (.iaload, 1) := by decide +kernel
theorem dX1_literal_40 : decode cX1_literal 40 = .ok (.iconst 1, 1) := by decide +kernel
theorem dX1_literal_41 : decode cX1_literal 41 = .ok (.if_icmp .le 8, 3) := by decide +kernel
theorem dX1_literal_44 : decode cX1_literal 44 = .ok (.iload 4, 2) := by decide +kernel
theorem dX1_literal_46 : decode cX1_literal 46 = .ok (.goto 4, 3) := by decide +kernel
theorem dX1_literal_49 : decode cX1_literal 49 = .ok (.iconst 0, 1) := by decide +kernel
theorem dX1_literal_50 : decode cX1_literal 50 = .ok (.istore 8, 2) := by decide +kernel
theorem dX1_literal_52 : decode cX1_literal 52 = .ok (.aload_n 0, 1) := by decide +kernel
theorem dX1_literal_53 : decode cX1_literal 53 = .ok (.getfield 32, 3) := by decide +kernel
theorem dX1_literal_56 : decode cX1_literal 56 = .ok (.iload_n 1, 1) := by decide +kernel
theorem dX1_literal_57 : decode cX1_literal 57 = .ok (.iaload, 1) := by decide +kernel
theorem dX1_literal_58 : decode cX1_literal 58 = .ok (.ifCond .le 17, 3) := by decide +kernel
theorem dX1_literal_61 : decode cX1_literal 61 = .ok (.iload 7, 2) := by decide +kernel
theorem dX1_literal_63 : decode cX1_literal 63 = .ok (.ifCond .lt 10, 3) := by decide +kernel
theorem dX1_literal_66 : decode cX1_literal 66 = .ok (.iload 7, 2) := by decide +kernel
theorem dX1_literal_68 : decode cX1_literal 68 = .ok (.iload 6, 2) := by decide +kernel
theorem dX1_literal_70 : decode cX1_literal 70 = .ok (.if_icmp .lt 5, 3) := by decide +kernel
theorem dX1_literal_73 : decode cX1_literal 73 = .ok (.iconst (-1), 1) := by decide +kernel
theorem dX1_literal_74 : decode cX1_literal 74 = .ok (.ireturn, 1) := by decide +kernel
theorem dX1_literal_75 : decode cX1_literal 75 = .ok (.aload_n 0, 1) := by decide +kernel
theorem dX1_literal_76 : decode cX1_literal 76 = .ok (.getfield 32, 3) := by decide +kernel
theorem dX1_literal_79 : decode cX1_literal 79 = .ok (.iload_n 1, 1) := by decide +kernel
theorem dX1_literal_80 : decode cX1_literal 80 = .ok (.iaload, 1) := by decide +kernel
theorem dX1_literal_81 : decode cX1_literal 81 = .ok (.iconst 1, 1) := by decide +kernel
theorem dX1_literal_82 : decode cX1_literal 82 = .ok (.if_icmp .le 17, 3) := by decide +kernel
theorem dX1_literal_85 : decode cX1_literal 85 = .ok (.iload 8, 2) := by decide +kernel
theorem dX1_literal_87 : decode cX1_literal 87 = .ok (.ifCond .lt 10, 3) := by decide +kernel
theorem dX1_literal_90 : decode cX1_literal 90 = .ok (.iload 8, 2) := by decide +kernel
theorem dX1_literal_92 : decode cX1_literal 92 = .ok (.iload 6, 2) := by decide +kernel
theorem dX1_literal_94 : decode cX1_literal 94 = .ok (.if_icmp .lt 5, 3) := by decide +kernel
theorem dX1_literal_97 : decode cX1_literal 97 = .ok (.iconst (-1), 1) := by decide +kernel
theorem dX1_literal_98 : decode cX1_literal 98 = .ok (.ireturn, 1) := by decide +kernel
theorem dX1_literal_99 : decode cX1_literal 99 = .ok (.iload_n 1, 1) := by decide +kernel
theorem dX1_literal_100 : decode cX1_literal 100 = .ok (.iload_n 2, 1) := by decide +kernel
theorem dX1_literal_101 : decode cX1_literal 101 = .ok (.iload 7, 2) := by decide +kernel
theorem dX1_literal_103 : decode cX1_literal 103 = .ok (.iload 8, 2) := by decide +kernel
theorem dX1_literal_105 : decode cX1_literal 105 = .ok (.invokestatic 98, 3) := by decide +kernel
theorem dX1_literal_108 : decode cX1_literal 108 = .ok (.ireturn, 1) := by decide +kernel
def fX1_literal_99  (h : PH) (x1 : Int32) (x2 : Int32) (x7 : Int32) (x8 : Int32) : Option (Int32) :=
  oB (fX1_literalNumber x1 x2 x7 x8) (fun r2 => some (r2))
set_option maxHeartbeats 4000000 in
theorem wfX1_literal_99 {args : Array Value} (b : Bd p s m c cX1_literal 9 RX1 D aC) (hlk : meth.locks = false) (hr : meth.sig.returnType = some .int) {Z : State → Prop} (zs : Z s) (zk : ZOK Z (Rg ad)) {rz : Int32} {h : PH} {x1 : Int32} {x2 : Int32} {x7 : Int32} {x8 : Int32}  {H : Heap} {locs : List Loc} {ls : Array Slot} (hf : fX1_literal_99 h x1 x2 x7 x8 = some rz) (hE : CE (EX D aC ad h) (Rg ad) s H locs) (hl : lv_has ls 9 [(1, .int x1), (2, .int x2), (7, .int x7), (8, .int x8)]) : W p l e (RM 1 23 0 0) s m args below meth c H locs 0 0 (MQ below (PQ (EX D aC ad h) (Rg ad) (some (.int rz))) args s 0 0 (Rg ad)) (F0 m 99 ls []) := by
  unfold fX1_literal_99 at hf
  refine lv_iload_n b.1 b.2.1 dX1_literal_99 rfl (lv_at hl 0 rfl) ?_
  refine lv_iload_n b.1 b.2.1 dX1_literal_100 rfl (lv_at hl 1 rfl) ?_
  refine lv_iload b.1 b.2.1 dX1_literal_101 (lv_at hl 2 rfl) ?_
  refine lv_iload b.1 b.2.1 dX1_literal_103 (lv_at hl 3 rfl) ?_
  obtain ⟨r2, hc1, hf⟩ := oB_s hf
  refine k_callS0 b zs zk hE (CX1_literalNumber l D aC zk hc1) mc_X1_literalNumber (in3 212 rfl rfl) mt_X1_literalNumber ini_RX1 ok_X1_literalNumber ⟨Nat.le_of_ble_eq_true rfl, Nat.le_of_ble_eq_true rfl⟩ rfl hl.1 rfl (k_room _ (by exact Nat.le_of_ble_eq_true rfl)) ⟨Nat.le_refl _, Nat.le_refl _⟩ dX1_literal_105 (fun H locs hE => ?_)
  cases hf
  exact k_iret b hlk hr hE (Nat.le_refl _) (Nat.le_refl _) dX1_literal_108
def fX1_literal_75  (h : PH) (x0 : Nat) (x1 : Int32) (x2 : Int32) (x6 : Int32) (x7 : Int32) (x8 : Int32) : Option (Int32) :=
  oC (decide (hT h x0 = 2)) (oN (hR h 133 x0) (fun a4 => oC (decide (hT h a4 = 101)) (oC (ix x1 (hN h a4)) (if (hA h a4 (Int32.toNatClampNeg x1)) ≤ 1 then (fX1_literal_99  h x1 x2 x7 x8) else (if x8 < 0 then (some ((-1))) else (if x8 < x6 then (fX1_literal_99  h x1 x2 x7 x8) else (some ((-1)))))))))
set_option maxHeartbeats 4000000 in
theorem wfX1_literal_75 {args : Array Value} (b : Bd p s m c cX1_literal 9 RX1 D aC) (hlk : meth.locks = false) (hr : meth.sig.returnType = some .int) {Z : State → Prop} (zs : Z s) (zk : ZOK Z (Rg ad)) {rz : Int32} {h : PH} {x0 : Nat} {x1 : Int32} {x2 : Int32} {x6 : Int32} {x7 : Int32} {x8 : Int32}  {H : Heap} {locs : List Loc} {ls : Array Slot} (hf : fX1_literal_75 h x0 x1 x2 x6 x7 x8 = some rz) (hE : CE (EX D aC ad h) (Rg ad) s H locs) (hl : lv_has ls 9 [(0, .ref (ad x0)), (1, .int x1), (2, .int x2), (6, .int x6), (7, .int x7), (8, .int x8)]) : W p l e (RM 1 23 0 0) s m args below meth c H locs 0 0 (MQ below (PQ (EX D aC ad h) (Rg ad) (some (.int rz))) args s 0 0 (Rg ad)) (F0 m 75 ls []) := by
  unfold fX1_literal_75 at hf
  refine lv_aload_n b.1 b.2.1 dX1_literal_75 rfl (lv_at hl 0 rfl) ?_
  obtain ⟨t3, hf⟩ := oC_s hf
  have t3 := of_decide_eq_true t3
  refine gX1_32 (x := (some x0)) b hE rfl t3 dX1_literal_76 ?_
  refine lv_iload_n b.1 b.2.1 dX1_literal_79 rfl (lv_at hl 1 rfl) ?_
  obtain ⟨a4, ea4, hf⟩ := oN_s hf
  obtain ⟨t5, hf⟩ := oC_s hf
  have t5 := of_decide_eq_true t5
  obtain ⟨g6, hf⟩ := oC_s hf
  refine q_iald (x := (hR h 133 x0)) b hE ea4 t5 g6 dX1_literal_80 ?_
  refine lv_iconst (v := 1) b.1 b.2.1 dX1_literal_81 (by decide) ?_
  refine lv_icmp_le (tgt := 99) b.1 b.2.1 dX1_literal_82 (by decide) (fun c7 => ?_) (fun c7 => ?_)
  · have hf := oI_t c7 hf
    exact wfX1_literal_99 b hlk hr zs zk  hf hE (lv_sub hl [1, 2, 4, 5] rfl)
  · have hf := oI_f c7 hf
    refine lv_iload b.1 b.2.1 dX1_literal_85 (lv_at hl 5 rfl) ?_
    refine lv_if_lt (tgt := 97) b.1 b.2.1 dX1_literal_87 (by decide) (fun c8 => ?_) (fun c8 => ?_)
    · have hf := oI_t c8 hf
      refine lv_iconst (v := (-1)) b.1 b.2.1 dX1_literal_97 (by decide) ?_
      cases hf
      exact k_iret b hlk hr hE (Nat.le_refl _) (Nat.le_refl _) dX1_literal_98
    · have hf := oI_f c8 hf
      refine lv_iload b.1 b.2.1 dX1_literal_90 (lv_at hl 5 rfl) ?_
      refine lv_iload b.1 b.2.1 dX1_literal_92 (lv_at hl 3 rfl) ?_
      refine lv_icmp_lt (tgt := 99) b.1 b.2.1 dX1_literal_94 (by decide) (fun c9 => ?_) (fun c9 => ?_)
      · have hf := oI_t c9 hf
        exact wfX1_literal_99 b hlk hr zs zk  hf hE (lv_sub hl [1, 2, 4, 5] rfl)
      · have hf := oI_f c9 hf
        refine lv_iconst (v := (-1)) b.1 b.2.1 dX1_literal_97 (by decide) ?_
        cases hf
        exact k_iret b hlk hr hE (Nat.le_refl _) (Nat.le_refl _) dX1_literal_98
def fX1_literal_50  (h : PH) (x0 : Nat) (x1 : Int32) (x2 : Int32) (x6 : Int32) (x7 : Int32) (s0 : Int32) : Option (Int32) :=
  oC (decide (hT h x0 = 2)) (oN (hR h 133 x0) (fun a11 => oC (decide (hT h a11 = 101)) (oC (ix x1 (hN h a11)) (if (hA h a11 (Int32.toNatClampNeg x1)) ≤ 0 then (fX1_literal_75  h x0 x1 x2 x6 x7 s0) else (if x7 < 0 then (some ((-1))) else (if x7 < x6 then (fX1_literal_75  h x0 x1 x2 x6 x7 s0) else (some ((-1)))))))))
set_option maxHeartbeats 4000000 in
theorem wfX1_literal_50 {args : Array Value} (b : Bd p s m c cX1_literal 9 RX1 D aC) (hlk : meth.locks = false) (hr : meth.sig.returnType = some .int) {Z : State → Prop} (zs : Z s) (zk : ZOK Z (Rg ad)) {rz : Int32} {h : PH} {x0 : Nat} {x1 : Int32} {x2 : Int32} {x6 : Int32} {x7 : Int32} {s0 : Int32}  {H : Heap} {locs : List Loc} {ls : Array Slot} (hf : fX1_literal_50 h x0 x1 x2 x6 x7 s0 = some rz) (hE : CE (EX D aC ad h) (Rg ad) s H locs) (hl : lv_has ls 9 [(0, .ref (ad x0)), (1, .int x1), (2, .int x2), (6, .int x6), (7, .int x7)]) : W p l e (RM 1 23 0 0) s m args below meth c H locs 0 0 (MQ below (PQ (EX D aC ad h) (Rg ad) (some (.int rz))) args s 0 0 (Rg ad)) (F0 m 50 ls [.int s0]) := by
  unfold fX1_literal_50 at hf
  refine lv_istore (lv' := [(8, .int s0), (0, .ref (ad x0)), (1, .int x1), (2, .int x2), (6, .int x6), (7, .int x7)]) b.1 b.2.1 dX1_literal_50 hl (by decide) rfl (fun ls hl => ?_)
  refine lv_aload_n b.1 b.2.1 dX1_literal_52 rfl (lv_at hl 1 rfl) ?_
  obtain ⟨t10, hf⟩ := oC_s hf
  have t10 := of_decide_eq_true t10
  refine gX1_32 (x := (some x0)) b hE rfl t10 dX1_literal_53 ?_
  refine lv_iload_n b.1 b.2.1 dX1_literal_56 rfl (lv_at hl 2 rfl) ?_
  obtain ⟨a11, ea11, hf⟩ := oN_s hf
  obtain ⟨t12, hf⟩ := oC_s hf
  have t12 := of_decide_eq_true t12
  obtain ⟨g13, hf⟩ := oC_s hf
  refine q_iald (x := (hR h 133 x0)) b hE ea11 t12 g13 dX1_literal_57 ?_
  refine lv_if_le (tgt := 75) b.1 b.2.1 dX1_literal_58 (by decide) (fun c14 => ?_) (fun c14 => ?_)
  · have hf := oI_t c14 hf
    exact wfX1_literal_75 b hlk hr zs zk  hf hE (lv_sub hl [1, 2, 3, 4, 5, 0] rfl)
  · have hf := oI_f c14 hf
    refine lv_iload b.1 b.2.1 dX1_literal_61 (lv_at hl 5 rfl) ?_
    refine lv_if_lt (tgt := 73) b.1 b.2.1 dX1_literal_63 (by decide) (fun c15 => ?_) (fun c15 => ?_)
    · have hf := oI_t c15 hf
      refine lv_iconst (v := (-1)) b.1 b.2.1 dX1_literal_73 (by decide) ?_
      cases hf
      exact k_iret b hlk hr hE (Nat.le_refl _) (Nat.le_refl _) dX1_literal_74
    · have hf := oI_f c15 hf
      refine lv_iload b.1 b.2.1 dX1_literal_66 (lv_at hl 5 rfl) ?_
      refine lv_iload b.1 b.2.1 dX1_literal_68 (lv_at hl 4 rfl) ?_
      refine lv_icmp_lt (tgt := 75) b.1 b.2.1 dX1_literal_70 (by decide) (fun c16 => ?_) (fun c16 => ?_)
      · have hf := oI_t c16 hf
        exact wfX1_literal_75 b hlk hr zs zk  hf hE (lv_sub hl [1, 2, 3, 4, 5, 0] rfl)
      · have hf := oI_f c16 hf
        refine lv_iconst (v := (-1)) b.1 b.2.1 dX1_literal_73 (by decide) ?_
        cases hf
        exact k_iret b hlk hr hE (Nat.le_refl _) (Nat.le_refl _) dX1_literal_74
def fX1_literal_32  (h : PH) (x0 : Nat) (x1 : Int32) (x2 : Int32) (x4 : Int32) (x6 : Int32) (s0 : Int32) : Option (Int32) :=
  oC (decide (hT h x0 = 2)) (oN (hR h 133 x0) (fun a18 => oC (decide (hT h a18 = 101)) (oC (ix x1 (hN h a18)) (if (hA h a18 (Int32.toNatClampNeg x1)) ≤ 1 then (fX1_literal_50  h x0 x1 x2 x6 s0 0) else (fX1_literal_50  h x0 x1 x2 x6 s0 x4)))))
set_option maxHeartbeats 4000000 in
theorem wfX1_literal_32 {args : Array Value} (b : Bd p s m c cX1_literal 9 RX1 D aC) (hlk : meth.locks = false) (hr : meth.sig.returnType = some .int) {Z : State → Prop} (zs : Z s) (zk : ZOK Z (Rg ad)) {rz : Int32} {h : PH} {x0 : Nat} {x1 : Int32} {x2 : Int32} {x4 : Int32} {x6 : Int32} {s0 : Int32}  {H : Heap} {locs : List Loc} {ls : Array Slot} (hf : fX1_literal_32 h x0 x1 x2 x4 x6 s0 = some rz) (hE : CE (EX D aC ad h) (Rg ad) s H locs) (hl : lv_has ls 9 [(0, .ref (ad x0)), (1, .int x1), (2, .int x2), (4, .int x4), (6, .int x6)]) : W p l e (RM 1 23 0 0) s m args below meth c H locs 0 0 (MQ below (PQ (EX D aC ad h) (Rg ad) (some (.int rz))) args s 0 0 (Rg ad)) (F0 m 32 ls [.int s0]) := by
  unfold fX1_literal_32 at hf
  refine lv_istore (lv' := [(7, .int s0), (0, .ref (ad x0)), (1, .int x1), (2, .int x2), (4, .int x4), (6, .int x6)]) b.1 b.2.1 dX1_literal_32 hl (by decide) rfl (fun ls hl => ?_)
  refine lv_aload_n b.1 b.2.1 dX1_literal_34 rfl (lv_at hl 1 rfl) ?_
  obtain ⟨t17, hf⟩ := oC_s hf
  have t17 := of_decide_eq_true t17
  refine gX1_32 (x := (some x0)) b hE rfl t17 dX1_literal_35 ?_
  refine lv_iload_n b.1 b.2.1 dX1_literal_38 rfl (lv_at hl 2 rfl) ?_
  obtain ⟨a18, ea18, hf⟩ := oN_s hf
  obtain ⟨t19, hf⟩ := oC_s hf
  have t19 := of_decide_eq_true t19
  obtain ⟨g20, hf⟩ := oC_s hf
  refine q_iald (x := (hR h 133 x0)) b hE ea18 t19 g20 dX1_literal_39 ?_
  refine lv_iconst (v := 1) b.1 b.2.1 dX1_literal_40 (by decide) ?_
  refine lv_icmp_le (tgt := 49) b.1 b.2.1 dX1_literal_41 (by decide) (fun c21 => ?_) (fun c21 => ?_)
  · have hf := oI_t c21 hf
    refine lv_iconst (v := 0) b.1 b.2.1 dX1_literal_49 (by decide) ?_
    exact wfX1_literal_50 b hlk hr zs zk  hf hE (lv_sub hl [1, 2, 3, 5, 0] rfl)
  · have hf := oI_f c21 hf
    refine lv_iload b.1 b.2.1 dX1_literal_44 (lv_at hl 4 rfl) ?_
    refine lv_goto (tgt := 50) b.1 b.2.1 dX1_literal_46 (by decide) ?_
    exact wfX1_literal_50 b hlk hr zs zk  hf hE (lv_sub hl [1, 2, 3, 5, 0] rfl)
def fX1_literal_0  (h : PH) (x0 : Nat) (x1 : Int32) (x2 : Int32) (x3 : Int32) (x4 : Int32) (x5 : Int32) (x6 : Int32) : Option (Int32) :=
  if x1 < 0 then (some ((-1))) else (if x5 ≤ x1 then (some ((-1))) else (if x1 < 12 then (oC (decide (hT h x0 = 2)) (oN (hR h 133 x0) (fun a26 => oC (decide (hT h a26 = 101)) (oC (ix x1 (hN h a26)) (if (hA h a26 (Int32.toNatClampNeg x1)) ≤ 0 then (fX1_literal_32  h x0 x1 x2 x4 x6 0) else (fX1_literal_32  h x0 x1 x2 x4 x6 x3)))))) else (some ((-1)))))
set_option maxHeartbeats 4000000 in
theorem wfX1_literal_0 {args : Array Value} (b : Bd p s m c cX1_literal 9 RX1 D aC) (hlk : meth.locks = false) (hr : meth.sig.returnType = some .int) {Z : State → Prop} (zs : Z s) (zk : ZOK Z (Rg ad)) {rz : Int32} {h : PH} {x0 : Nat} {x1 : Int32} {x2 : Int32} {x3 : Int32} {x4 : Int32} {x5 : Int32} {x6 : Int32}  {H : Heap} {locs : List Loc} {ls : Array Slot} (hf : fX1_literal_0 h x0 x1 x2 x3 x4 x5 x6 = some rz) (hE : CE (EX D aC ad h) (Rg ad) s H locs) (hl : lv_has ls 9 [(0, .ref (ad x0)), (1, .int x1), (2, .int x2), (3, .int x3), (4, .int x4), (5, .int x5), (6, .int x6)]) : W p l e (RM 1 23 0 0) s m args below meth c H locs 0 0 (MQ below (PQ (EX D aC ad h) (Rg ad) (some (.int rz))) args s 0 0 (Rg ad)) (F0 m 0 ls []) := by
  unfold fX1_literal_0 at hf
  refine lv_iload_n b.1 b.2.1 dX1_literal_0 rfl (lv_at hl 1 rfl) ?_
  refine lv_if_lt (tgt := 16) b.1 b.2.1 dX1_literal_1 (by decide) (fun c22 => ?_) (fun c22 => ?_)
  · have hf := oI_t c22 hf
    refine lv_iconst (v := (-1)) b.1 b.2.1 dX1_literal_16 (by decide) ?_
    cases hf
    exact k_iret b hlk hr hE (Nat.le_refl _) (Nat.le_refl _) dX1_literal_17
  · have hf := oI_f c22 hf
    refine lv_iload_n b.1 b.2.1 dX1_literal_4 rfl (lv_at hl 1 rfl) ?_
    refine lv_iload b.1 b.2.1 dX1_literal_5 (lv_at hl 5 rfl) ?_
    refine lv_icmp_ge (tgt := 16) b.1 b.2.1 dX1_literal_7 (by decide) (fun c23 => ?_) (fun c23 => ?_)
    · have hf := oI_t c23 hf
      refine lv_iconst (v := (-1)) b.1 b.2.1 dX1_literal_16 (by decide) ?_
      cases hf
      exact k_iret b hlk hr hE (Nat.le_refl _) (Nat.le_refl _) dX1_literal_17
    · have hf := oI_f c23 hf
      refine lv_iload_n b.1 b.2.1 dX1_literal_10 rfl (lv_at hl 1 rfl) ?_
      refine lv_bipush (v := 12) b.1 b.2.1 dX1_literal_11 (by decide) ?_
      refine lv_icmp_lt (tgt := 18) b.1 b.2.1 dX1_literal_13 (by decide) (fun c24 => ?_) (fun c24 => ?_)
      · have hf := oI_t c24 hf
        refine lv_aload_n b.1 b.2.1 dX1_literal_18 rfl (lv_at hl 0 rfl) ?_
        obtain ⟨t25, hf⟩ := oC_s hf
        have t25 := of_decide_eq_true t25
        refine gX1_32 (x := (some x0)) b hE rfl t25 dX1_literal_19 ?_
        refine lv_iload_n b.1 b.2.1 dX1_literal_22 rfl (lv_at hl 1 rfl) ?_
        obtain ⟨a26, ea26, hf⟩ := oN_s hf
        obtain ⟨t27, hf⟩ := oC_s hf
        have t27 := of_decide_eq_true t27
        obtain ⟨g28, hf⟩ := oC_s hf
        refine q_iald (x := (hR h 133 x0)) b hE ea26 t27 g28 dX1_literal_23 ?_
        refine lv_if_le (tgt := 31) b.1 b.2.1 dX1_literal_24 (by decide) (fun c29 => ?_) (fun c29 => ?_)
        · have hf := oI_t c29 hf
          refine lv_iconst (v := 0) b.1 b.2.1 dX1_literal_31 (by decide) ?_
          exact wfX1_literal_32 b hlk hr zs zk  hf hE (lv_sub hl [0, 1, 2, 4, 6] rfl)
        · have hf := oI_f c29 hf
          refine lv_iload_n b.1 b.2.1 dX1_literal_27 rfl (lv_at hl 3 rfl) ?_
          refine lv_goto (tgt := 32) b.1 b.2.1 dX1_literal_28 (by decide) ?_
          exact wfX1_literal_32 b hlk hr zs zk  hf hE (lv_sub hl [0, 1, 2, 4, 6] rfl)
      · have hf := oI_f c24 hf
        refine lv_iconst (v := (-1)) b.1 b.2.1 dX1_literal_16 (by decide) ?_
        cases hf
        exact k_iret b hlk hr hE (Nat.le_refl _) (Nat.le_refl _) dX1_literal_17
def fX1_literal (h : PH) (x0 : Nat) (x1 : Int32) (x2 : Int32) (x3 : Int32) (x4 : Int32) (x5 : Int32) (x6 : Int32) : Option (Int32) := fX1_literal_0 h x0 x1 x2 x3 x4 x5 x6
set_option maxHeartbeats 4000000 in
theorem CX1_literal (l : Launch) (D : va_G) (aC : Nat → ClassId) (ad : Nat → Nat) {Z : State → Prop} (zk : ZOK Z (Rg ad)) {h : PH} {x0 : Nat} {x1 : Int32} {x2 : Int32} {x3 : Int32} {x4 : Int32} {x5 : Int32} {x6 : Int32} {rz : Int32} (hf : fX1_literal h x0 x1 x2 x3 x4 x5 x6 = some rz) : CM l D aC Z yX1_literal cX1_literal 9 (some .int) 1 23 0 0 (EX D aC ad h) [.ref (ad x0), .int x1, .int x2, .int x3, .int x4, .int x5, .int x6] (EX D aC ad h) (some (.int rz)) (Rg ad) := by
  refine CM.of rfl ?_
  intro p e s m below meth c b hr hlk hin2 zs hE
  refine k_ent (Nat.le_of_ble_eq_true rfl) (fun ls hl => ?_)
  exact wfX1_literal_0 b hlk hr zs zk hf hE (lv_sub hl [0, 1, 2, 3, 4, 5, 6] rfl)
theorem dX3_init_0 : decode cX3_init 0 = .ok (.aload_n 0, 1) := by decide +kernel
theorem dX3_init_1 : decode cX3_init 1 = .ok (.invokespecial 1, 3) := by decide +kernel
theorem dX3_init_4 : decode cX3_init 4 = .ok (.aload_n 0, 1) := by decide +kernel
theorem dX3_init_5 : decode cX3_init 5 = .ok (.lconst 1, 1) := by decide +kernel
theorem dX3_init_6 : decode cX3_init 6 = .ok (.putfield 7, 3) := by decide +kernel
theorem dX3_init_9 : decode cX3_init 9 = .ok (.return_, 1) := by decide +kernel
def fX3_init_0  (h : PH) (x0 : Nat) : Option (PH) :=
  oC (decide (hT h x0 = 4)) (oL (sL h 385 x0 1) (fun h2 => some (h2)))
set_option maxHeartbeats 4000000 in
theorem wfX3_init_0 {args : Array Value} (b : Bd p s m c cX3_init 1 RX3 D aC) (hlk : meth.locks = false) (hr : meth.sig.returnType = none) {Z : State → Prop} (zs : Z s) (zk : ZOK Z (Rg ad)) (hin2 : meth.name = "<init>") {hz : PH} {h : PH} {x0 : Nat}  {H : Heap} {locs : List Loc} {ls : Array Slot} (hf : fX3_init_0 h x0 = some hz) (hE : CE (EX D aC ad h) (Rg ad) s H locs) (hl : lv_has ls 1 [(0, .ref (ad x0))]) : W p l e (RM 1 24 0 0) s m args below meth c H locs 0 0 (MQ below (PQ (EX D aC ad hz) (Rg ad) none) args s 0 0 (Rg ad)) (F0 m 0 ls []) := by
  unfold fX3_init_0 at hf
  refine lv_aload_n b.1 b.2.1 dX3_init_0 rfl (lv_at hl 0 rfl) ?_
  refine k_objInit b (in4 29 rfl rfl) objI objC hl.1 ⟨Nat.le_of_ble_eq_true rfl, Nat.le_of_ble_eq_true rfl⟩ (Nat.le_of_ble_eq_true rfl) dX3_init_1 ?_
  refine lv_aload_n b.1 b.2.1 dX3_init_4 rfl (lv_at hl 0 rfl) ?_
  refine lv_lconst (v := 1) b.1 b.2.1 dX3_init_5 rfl ?_
  obtain ⟨t1, hf⟩ := oC_s hf
  have t1 := of_decide_eq_true t1
  obtain ⟨h2, eh2, hf⟩ := oL_s hf
  refine pX3_7 (x := (some x0)) b hE rfl t1 eh2 dX3_init_6 (fun H locs hE => ?_)
  cases hf
  exact k_vret b hlk hr hE (Nat.le_refl _) (Nat.le_refl _) dX3_init_9
def fX3_init (h : PH) (x0 : Nat) : Option (PH) := fX3_init_0 h x0
set_option maxHeartbeats 4000000 in
theorem CX3_init (l : Launch) (D : va_G) (aC : Nat → ClassId) (ad : Nat → Nat) {Z : State → Prop} (zk : ZOK Z (Rg ad)) {h : PH} {x0 : Nat} {hz : PH} (hf : fX3_init h x0 = some hz) : CM l D aC Z yX3_init cX3_init 1 (none) 1 24 0 0 (EX D aC ad h) [.ref (ad x0)] (EX D aC ad hz) none (Rg ad) := by
  refine CM.of rfl ?_
  intro p e s m below meth c b hr hlk hin2 zs hE
  refine k_ent (Nat.le_of_ble_eq_true rfl) (fun ls hl => ?_)
  exact wfX3_init_0 b hlk hr zs zk hin2 hf hE (lv_sub hl [0] rfl)
theorem dX3_become_0 : decode cX3_become 0 = .ok (.lload_n 1, 1) := by decide +kernel
theorem dX3_become_1 : decode cX3_become 1 = .ok (.lconst 0, 1) := by decide +kernel
theorem dX3_become_2 : decode cX3_become 2 = .ok (.lcmp, 1) := by decide +kernel
theorem dX3_become_3 : decode cX3_become 3 = .ok (.ifCond .ge 8, 3) := by decide +kernel
theorem dX3_become_6 : decode cX3_become 6 = .ok (.lload_n 1, 1) := by decide +kernel
theorem dX3_become_7 : decode cX3_become 7 = .ok (.lneg, 1) := by decide +kernel
theorem dX3_become_8 : decode cX3_become 8 = .ok (.goto 4, 3) := by decide +kernel
theorem dX3_become_11 : decode cX3_become 11 = .ok (.lload_n 1, 1) := by decide +kernel
theorem dX3_become_12 : decode cX3_become 12 = .ok (.lstore 5, 2) := by decide +kernel
theorem dX3_become_14 : decode cX3_become 14 = .ok (.lload_n 3, 1) := by decide +kernel
theorem dX3_become_15 : decode cX3_become 15 = .ok (.lstore 7, 2) := by decide +kernel
theorem dX3_become_17 : decode cX3_become 17 = .ok (.iconst 0, 1) := by decide +kernel
theorem dX3_become_18 : decode cX3_become 18 = .ok (.istore 9, 2) := by decide +kernel
theorem dX3_become_20 : decode cX3_become 20 = .ok (.iload 9, 2) := by decide +kernel
theorem dX3_become_22 : decode cX3_become 22 = .ok (.sipush 128, 3) := by decide +kernel
theorem dX3_become_25 : decode cX3_become 25 = .ok (.if_icmp .ge 31, 3) := by decide +kernel
theorem dX3_become_28 : decode cX3_become 28 = .ok (.lload 7, 2) := by decide +kernel
theorem dX3_become_30 : decode cX3_become 30 = .ok (.lconst 0, 1) := by decide +kernel
theorem dX3_become_31 : decode cX3_become 31 = .ok (.lcmp, 1) := by decide +kernel
theorem dX3_become_32 : decode cX3_become 32 = .ok (.ifCond .eq 24, 3) := by decide +kernel
theorem dX3_become_35 : decode cX3_become 35 = .ok (.lload 5, 2) := by decide +kernel
theorem dX3_become_37 : decode cX3_become 37 = .ok (.lload 7, 2) := by decide +kernel
theorem dX3_become_39 : decode cX3_become 39 = .ok (.lrem, 1) := by decide +kernel
theorem dX3_become_40 : decode cX3_become 40 = .ok (.lstore 10, 2) := by decide +kernel
theorem dX3_become_42 : decode cX3_become 42 = .ok (.lload 7, 2) := by decide +kernel
theorem dX3_become_44 : decode cX3_become 44 = .ok (.lstore 5, 2) := by decide +kernel
theorem dX3_become_46 : decode cX3_become 46 = .ok (.lload 10, 2) := by decide +kernel
theorem dX3_become_48 : decode cX3_become 48 = .ok (.lstore 7, 2) := by decide +kernel
theorem dX3_become_50 : decode cX3_become 50 = .ok (.iinc 9 1, 3) := by decide +kernel
theorem dX3_become_53 : decode cX3_become 53 = .ok (.goto (-33), 3) := by decide +kernel
theorem dX3_become_56 : decode cX3_become 56 = .ok (.lload 5, 2) := by decide +kernel
theorem dX3_become_58 : decode cX3_become 58 = .ok (.lconst 0, 1) := by decide +kernel
theorem dX3_become_59 : decode cX3_become 59 = .ok (.lcmp, 1) := by decide +kernel
theorem dX3_become_60 : decode cX3_become 60 = .ok (.ifCond .le 13, 3) := by decide +kernel
theorem dX3_become_63 : decode cX3_become 63 = .ok (.lload_n 3, 1) := by decide +kernel
theorem dX3_become_64 : decode cX3_become 64 = .ok (.lconst 0, 1) := by decide +kernel
theorem dX3_become_65 : decode cX3_become 65 = .ok (.lcmp, 1) := by decide +kernel
theorem dX3_become_66 : decode cX3_become 66 = .ok (.ifCond .le 7, 3) := by decide +kernel
theorem dX3_become_69 : decode cX3_become 69 = .ok (.iconst 1, 1) := by decide +kernel
theorem dX3_become_70 : decode cX3_become 70 = .ok (.goto 4, 3) := by decide +kernel
theorem dX3_become_73 : decode cX3_become 73 = .ok (.iconst 0, 1) := by decide +kernel
theorem dX3_become_74 : decode cX3_become 74 = .ok (.istore 9, 2) := by decide +kernel
theorem dX3_become_76 : decode cX3_become 76 = .ok (.aload_n 0, 1) := by decide +kernel
theorem dX3_become_77 : decode cX3_become 77 = .ok (.iload 9, 2) := by decide +kernel
theorem dX3_become_79 : decode cX3_become 79 = .ok (.ifCond .eq 10, 3) := by decide +kernel
theorem dX3_become_82 : decode cX3_become 82 = .ok (.lload_n 1, 1) := by decide +kernel
theorem dX3_become_83 : decode cX3_become 83 = .ok (.lload 5, 2) := by decide +kernel
theorem dX3_become_85 : decode cX3_become 85 = .ok (.ldiv, 1) := by decide +kernel
theorem dX3_become_86 : decode cX3_become 86 = .ok (.goto 4, 3) := by decide +kernel
theorem dX3_become_89 : decode cX3_become 89 = .ok (.lconst 0, 1) := by decide +kernel
theorem dX3_become_90 : decode cX3_become 90 = .ok (.putfield 13, 3) := by decide +kernel
theorem dX3_become_93 : decode cX3_become 93 = .ok (.aload_n 0, 1) := by decide +kernel
theorem dX3_become_94 : decode cX3_become 94 = .ok (.iload 9, 2) := by decide +kernel
theorem dX3_become_96 : decode cX3_become 96 = .ok (.ifCond .eq 10, 3) := by decide +kernel
theorem dX3_become_99 : decode cX3_become 99 = .ok (.lload_n 3, 1) := by decide +kernel
theorem dX3_become_100 : decode cX3_become 100 = .ok (.lload 5, 2) := by decide +kernel
theorem dX3_become_102 : decode cX3_become 102 = .ok (.ldiv, 1) := by decide +kernel
theorem dX3_become_103 : decode cX3_become 103 = .ok (.goto 4, 3) := by decide +kernel
theorem dX3_become_106 : decode cX3_become 106 = .ok (.lconst 1, 1) := by decide +kernel
theorem dX3_become_107 : decode cX3_become 107 = .ok (.putfield 7, 3) := by decide +kernel
theorem dX3_become_110 : decode cX3_become 110 = .ok (.aload_n 0, 1) := by decide +kernel
theorem dX3_become_111 : decode cX3_become 111 = .ok (.iload 9, 2) := by decide +kernel
theorem dX3_become_113 : decode cX3_become 113 = .ok (.ifCond .eq 36, 3) := by decide +kernel
theorem dX3_become_116 : decode cX3_become 116 = .ok (.aload_n 0, 1) := by decide +kernel
theorem dX3_become_117 : decode cX3_become 117 = .ok (.getfield 13, 3) := by decide +kernel
theorem dX3_become_120 : decode cX3_become 120 = .ok (.ldc2_w 16, 3) := by decide +kernel
theorem dX3_become_123 : decode cX3_become 123 = .ok (.lcmp, 1) := by decide +kernel
theorem dX3_become_124 : decode cX3_become 124 = .ok (.ifCond .gt 25, 3) := by decide +kernel
theorem dX3_become_127 : decode cX3_become 127 = .ok (.aload_n 0, 1) := by decide +kernel
theorem dX3_become_128 : decode cX3_become 128 = .ok (.getfield 13, 3) := by decide +kernel
theorem dX3_become_131 : decode cX3_become 131 = .ok (.ldc2_w 18, 3) := by decide +kernel
theorem dX3_become_134 : decode cX3_become 134 = .ok (.lcmp, 1) := by decide +kernel
theorem dX3_become_135 : decode cX3_become 135 = .ok (.ifCond .lt 14, 3) := by decide +kernel
theorem dX3_become_138 : decode cX3_become 138 = .ok (.aload_n 0, 1) := by decide +kernel
theorem dX3_become_139 : decode cX3_become 139 = .ok (.getfield 7, 3) := by decide +kernel
theorem dX3_become_142 : decode cX3_become 142 = .ok (.ldc2_w 16, 3) := by decide +kernel
theorem dX3_become_145 : decode cX3_become 145 = .ok (.lcmp, 1) := by decide +kernel
theorem dX3_become_146 : decode cX3_become 146 = .ok (.ifCond .le 7, 3) := by decide +kernel
theorem dX3_become_149 : decode cX3_become 149 = .ok (.iconst 1, 1) := by decide +kernel
theorem dX3_become_150 : decode cX3_become 150 = .ok (.goto 4, 3) := by decide +kernel
theorem dX3_become_153 : decode cX3_become 153 = .ok (.iconst 0, 1) := by decide +kernel
theorem dX3_become_154 : decode cX3_become 154 = .ok (.putfield 20, 3) := by decide +kernel
theorem dX3_become_157 : decode cX3_become 157 = .ok (.return_, 1) := by decide +kernel
def fX3_become_154  (h : PH) (s0 : Int32) (s1 : Nat) : Option (PH) :=
  oC (isB s0) (oC (decide (hT h s1 = 4)) (oL (sI h 386 s1 s0) (fun h3 => some (h3))))
set_option maxHeartbeats 4000000 in
theorem wfX3_become_154 {args : Array Value} (b : Bd p s m c cX3_become 12 RX3 D aC) (hlk : meth.locks = false) (hr : meth.sig.returnType = none) {Z : State → Prop} (zs : Z s) (zk : ZOK Z (Rg ad)) {hz : PH} {h : PH} {s0 : Int32} {s1 : Nat}  {H : Heap} {locs : List Loc} {ls : Array Slot} (hf : fX3_become_154 h s0 s1 = some hz) (hE : CE (EX D aC ad h) (Rg ad) s H locs) (hl : lv_has ls 12 []) : W p l e (RM 0 0 0 0) s m args below meth c H locs 0 0 (MQ below (PQ (EX D aC ad hz) (Rg ad) none) args s 0 0 (Rg ad)) (F0 m 154 ls [.int s0, .ref (ad s1)]) := by
  unfold fX3_become_154 at hf
  obtain ⟨g1, hf⟩ := oC_s hf
  obtain ⟨t2, hf⟩ := oC_s hf
  have t2 := of_decide_eq_true t2
  obtain ⟨h3, eh3, hf⟩ := oL_s hf
  refine pX3_20 (x := (some s1)) b hE rfl t2 g1 eh3 dX3_become_154 (fun H locs hE => ?_)
  cases hf
  exact k_vret b hlk hr hE (Nat.le_refl _) (Nat.le_refl _) dX3_become_157
def fX3_become_107  (h : PH) (x0 : Nat) (x9 : Int32) (s0 : Int64) (s1 : Nat) : Option (PH) :=
  oC (decide (hT h s1 = 4)) (oL (sL h 385 s1 s0) (fun h5 => if x9 = 0 then (fX3_become_154  h5 1 x0) else (oC (decide (hT h5 x0 = 4)) (if 0 < (lg_cmp (hL h5 384 x0) 1000000000) then (fX3_become_154  h5 1 x0) else (if (lg_cmp (hL h5 384 x0) (-1000000000)) < 0 then (fX3_become_154  h5 1 x0) else (if (lg_cmp (hL h5 385 x0) 1000000000) ≤ 0 then (fX3_become_154  h5 0 x0) else (fX3_become_154  h5 1 x0)))))))
set_option maxHeartbeats 4000000 in
theorem wfX3_become_107 {args : Array Value} (b : Bd p s m c cX3_become 12 RX3 D aC) (hlk : meth.locks = false) (hr : meth.sig.returnType = none) {Z : State → Prop} (zs : Z s) (zk : ZOK Z (Rg ad)) {hz : PH} {h : PH} {x0 : Nat} {x9 : Int32} {s0 : Int64} {s1 : Nat}  {H : Heap} {locs : List Loc} {ls : Array Slot} (hf : fX3_become_107 h x0 x9 s0 s1 = some hz) (hE : CE (EX D aC ad h) (Rg ad) s H locs) (hl : lv_has ls 12 [(0, .ref (ad x0)), (9, .int x9)]) : W p l e (RM 0 0 0 0) s m args below meth c H locs 0 0 (MQ below (PQ (EX D aC ad hz) (Rg ad) none) args s 0 0 (Rg ad)) (F0 m 107 ls [.long s0, .ref (ad s1)]) := by
  unfold fX3_become_107 at hf
  obtain ⟨t4, hf⟩ := oC_s hf
  have t4 := of_decide_eq_true t4
  obtain ⟨h5, eh5, hf⟩ := oL_s hf
  refine pX3_7 (x := (some s1)) b hE rfl t4 eh5 dX3_become_107 (fun H locs hE => ?_)
  refine lv_aload_n b.1 b.2.1 dX3_become_110 rfl (lv_at hl 0 rfl) ?_
  refine lv_iload b.1 b.2.1 dX3_become_111 (lv_at hl 1 rfl) ?_
  refine lv_if_eq (tgt := 149) b.1 b.2.1 dX3_become_113 (by decide) (fun c6 => ?_) (fun c6 => ?_)
  · have hf := oI_t c6 hf
    refine lv_iconst (v := 1) b.1 b.2.1 dX3_become_149 (by decide) ?_
    refine lv_goto (tgt := 154) b.1 b.2.1 dX3_become_150 (by decide) ?_
    exact wfX3_become_154 b hlk hr zs zk  hf hE (lv_sub hl [] rfl)
  · have hf := oI_f c6 hf
    refine lv_aload_n b.1 b.2.1 dX3_become_116 rfl (lv_at hl 0 rfl) ?_
    obtain ⟨t7, hf⟩ := oC_s hf
    have t7 := of_decide_eq_true t7
    refine gX3_13 (x := (some x0)) b hE rfl t7 dX3_become_117 ?_
    refine k_ldc2 (v := 1000000000) b (in4 222 rfl rfl) dX3_become_120 ?_
    refine W.lcmp b.1 b.2.1 dX3_become_123 ?_
    refine lv_if_gt (tgt := 149) b.1 b.2.1 dX3_become_124 (by decide) (fun c8 => ?_) (fun c8 => ?_)
    · have hf := oI_t c8 hf
      refine lv_iconst (v := 1) b.1 b.2.1 dX3_become_149 (by decide) ?_
      refine lv_goto (tgt := 154) b.1 b.2.1 dX3_become_150 (by decide) ?_
      exact wfX3_become_154 b hlk hr zs zk  hf hE (lv_sub hl [] rfl)
    · have hf := oI_f c8 hf
      refine lv_aload_n b.1 b.2.1 dX3_become_127 rfl (lv_at hl 0 rfl) ?_
      refine gX3_13 (x := (some x0)) b hE rfl t7 dX3_become_128 ?_
      refine k_ldc2 (v := (-1000000000)) b (in4 223 rfl rfl) dX3_become_131 ?_
      refine W.lcmp b.1 b.2.1 dX3_become_134 ?_
      refine lv_if_lt (tgt := 149) b.1 b.2.1 dX3_become_135 (by decide) (fun c9 => ?_) (fun c9 => ?_)
      · have hf := oI_t c9 hf
        refine lv_iconst (v := 1) b.1 b.2.1 dX3_become_149 (by decide) ?_
        refine lv_goto (tgt := 154) b.1 b.2.1 dX3_become_150 (by decide) ?_
        exact wfX3_become_154 b hlk hr zs zk  hf hE (lv_sub hl [] rfl)
      · have hf := oI_f c9 hf
        refine lv_aload_n b.1 b.2.1 dX3_become_138 rfl (lv_at hl 0 rfl) ?_
        refine gX3_7 (x := (some x0)) b hE rfl t7 dX3_become_139 ?_
        refine k_ldc2 (v := 1000000000) b (in4 222 rfl rfl) dX3_become_142 ?_
        refine W.lcmp b.1 b.2.1 dX3_become_145 ?_
        refine lv_if_le (tgt := 153) b.1 b.2.1 dX3_become_146 (by decide) (fun c10 => ?_) (fun c10 => ?_)
        · have hf := oI_t c10 hf
          refine lv_iconst (v := 0) b.1 b.2.1 dX3_become_153 (by decide) ?_
          exact wfX3_become_154 b hlk hr zs zk  hf hE (lv_sub hl [] rfl)
        · have hf := oI_f c10 hf
          refine lv_iconst (v := 1) b.1 b.2.1 dX3_become_149 (by decide) ?_
          refine lv_goto (tgt := 154) b.1 b.2.1 dX3_become_150 (by decide) ?_
          exact wfX3_become_154 b hlk hr zs zk  hf hE (lv_sub hl [] rfl)
def fX3_become_90  (h : PH) (x0 : Nat) (x3 : Int64) (x5 : Int64) (x9 : Int32) (s0 : Int64) (s1 : Nat) : Option (PH) :=
  oC (decide (hT h s1 = 4)) (oL (sL h 384 s1 s0) (fun h12 => if x9 = 0 then (fX3_become_107  h12 x0 x9 1 x0) else (oC (decide (¬ x5 = 0)) (fX3_become_107  h12 x0 x9 (x3 / x5) x0))))
set_option maxHeartbeats 4000000 in
theorem wfX3_become_90 {args : Array Value} (b : Bd p s m c cX3_become 12 RX3 D aC) (hlk : meth.locks = false) (hr : meth.sig.returnType = none) {Z : State → Prop} (zs : Z s) (zk : ZOK Z (Rg ad)) {hz : PH} {h : PH} {x0 : Nat} {x3 : Int64} {x5 : Int64} {x9 : Int32} {s0 : Int64} {s1 : Nat}  {H : Heap} {locs : List Loc} {ls : Array Slot} (hf : fX3_become_90 h x0 x3 x5 x9 s0 s1 = some hz) (hE : CE (EX D aC ad h) (Rg ad) s H locs) (hl : lv_has ls 12 [(0, .ref (ad x0)), (3, .long x3), (5, .long x5), (9, .int x9)]) : W p l e (RM 0 0 0 0) s m args below meth c H locs 0 0 (MQ below (PQ (EX D aC ad hz) (Rg ad) none) args s 0 0 (Rg ad)) (F0 m 90 ls [.long s0, .ref (ad s1)]) := by
  unfold fX3_become_90 at hf
  obtain ⟨t11, hf⟩ := oC_s hf
  have t11 := of_decide_eq_true t11
  obtain ⟨h12, eh12, hf⟩ := oL_s hf
  refine pX3_13 (x := (some s1)) b hE rfl t11 eh12 dX3_become_90 (fun H locs hE => ?_)
  refine lv_aload_n b.1 b.2.1 dX3_become_93 rfl (lv_at hl 0 rfl) ?_
  refine lv_iload b.1 b.2.1 dX3_become_94 (lv_at hl 3 rfl) ?_
  refine lv_if_eq (tgt := 106) b.1 b.2.1 dX3_become_96 (by decide) (fun c13 => ?_) (fun c13 => ?_)
  · have hf := oI_t c13 hf
    refine lv_lconst (v := 1) b.1 b.2.1 dX3_become_106 rfl ?_
    exact wfX3_become_107 b hlk hr zs zk  hf hE (lv_sub hl [0, 3] rfl)
  · have hf := oI_f c13 hf
    refine lv_lload_n b.1 b.2.1 dX3_become_99 rfl (lv_at hl 1 rfl) ?_
    refine lv_lload b.1 b.2.1 dX3_become_100 (lv_at hl 2 rfl) ?_
    obtain ⟨g14, hf⟩ := oC_s hf
    refine lv_ldiv b.1 b.2.1 dX3_become_102 (of_decide_eq_true g14) ?_
    refine lv_goto (tgt := 107) b.1 b.2.1 dX3_become_103 (by decide) ?_
    exact wfX3_become_107 b hlk hr zs zk  hf hE (lv_sub hl [0, 3] rfl)
def fX3_become_74  (h : PH) (x0 : Nat) (x1 : Int64) (x3 : Int64) (x5 : Int64) (s0 : Int32) : Option (PH) :=
  if s0 = 0 then (fX3_become_90  h x0 x3 x5 s0 0 x0) else (oC (decide (¬ x5 = 0)) (fX3_become_90  h x0 x3 x5 s0 (x1 / x5) x0))
set_option maxHeartbeats 4000000 in
theorem wfX3_become_74 {args : Array Value} (b : Bd p s m c cX3_become 12 RX3 D aC) (hlk : meth.locks = false) (hr : meth.sig.returnType = none) {Z : State → Prop} (zs : Z s) (zk : ZOK Z (Rg ad)) {hz : PH} {h : PH} {x0 : Nat} {x1 : Int64} {x3 : Int64} {x5 : Int64} {s0 : Int32}  {H : Heap} {locs : List Loc} {ls : Array Slot} (hf : fX3_become_74 h x0 x1 x3 x5 s0 = some hz) (hE : CE (EX D aC ad h) (Rg ad) s H locs) (hl : lv_has ls 12 [(0, .ref (ad x0)), (1, .long x1), (3, .long x3), (5, .long x5)]) : W p l e (RM 0 0 0 0) s m args below meth c H locs 0 0 (MQ below (PQ (EX D aC ad hz) (Rg ad) none) args s 0 0 (Rg ad)) (F0 m 74 ls [.int s0]) := by
  unfold fX3_become_74 at hf
  refine lv_istore (lv' := [(9, .int s0), (0, .ref (ad x0)), (1, .long x1), (3, .long x3), (5, .long x5)]) b.1 b.2.1 dX3_become_74 hl (by decide) rfl (fun ls hl => ?_)
  refine lv_aload_n b.1 b.2.1 dX3_become_76 rfl (lv_at hl 1 rfl) ?_
  refine lv_iload b.1 b.2.1 dX3_become_77 (lv_at hl 0 rfl) ?_
  refine lv_if_eq (tgt := 89) b.1 b.2.1 dX3_become_79 (by decide) (fun c15 => ?_) (fun c15 => ?_)
  · have hf := oI_t c15 hf
    refine lv_lconst (v := 0) b.1 b.2.1 dX3_become_89 rfl ?_
    exact wfX3_become_90 b hlk hr zs zk  hf hE (lv_sub hl [1, 3, 4, 0] rfl)
  · have hf := oI_f c15 hf
    refine lv_lload_n b.1 b.2.1 dX3_become_82 rfl (lv_at hl 2 rfl) ?_
    refine lv_lload b.1 b.2.1 dX3_become_83 (lv_at hl 4 rfl) ?_
    obtain ⟨g16, hf⟩ := oC_s hf
    refine lv_ldiv b.1 b.2.1 dX3_become_85 (of_decide_eq_true g16) ?_
    refine lv_goto (tgt := 90) b.1 b.2.1 dX3_become_86 (by decide) ?_
    exact wfX3_become_90 b hlk hr zs zk  hf hE (lv_sub hl [1, 3, 4, 0] rfl)
def fX3_become_56  (h : PH) (x0 : Nat) (x1 : Int64) (x3 : Int64) (x5 : Int64) : Option (PH) :=
  if (lg_cmp x5 0) ≤ 0 then (fX3_become_74  h x0 x1 x3 x5 0) else (if (lg_cmp x3 0) ≤ 0 then (fX3_become_74  h x0 x1 x3 x5 0) else (fX3_become_74  h x0 x1 x3 x5 1))
set_option maxHeartbeats 4000000 in
theorem wfX3_become_56 {args : Array Value} (b : Bd p s m c cX3_become 12 RX3 D aC) (hlk : meth.locks = false) (hr : meth.sig.returnType = none) {Z : State → Prop} (zs : Z s) (zk : ZOK Z (Rg ad)) {hz : PH} {h : PH} {x0 : Nat} {x1 : Int64} {x3 : Int64} {x5 : Int64}  {H : Heap} {locs : List Loc} {ls : Array Slot} (hf : fX3_become_56 h x0 x1 x3 x5 = some hz) (hE : CE (EX D aC ad h) (Rg ad) s H locs) (hl : lv_has ls 12 [(0, .ref (ad x0)), (1, .long x1), (3, .long x3), (5, .long x5)]) : W p l e (RM 0 0 0 0) s m args below meth c H locs 0 0 (MQ below (PQ (EX D aC ad hz) (Rg ad) none) args s 0 0 (Rg ad)) (F0 m 56 ls []) := by
  unfold fX3_become_56 at hf
  refine lv_lload b.1 b.2.1 dX3_become_56 (lv_at hl 3 rfl) ?_
  refine lv_lconst (v := 0) b.1 b.2.1 dX3_become_58 rfl ?_
  refine W.lcmp b.1 b.2.1 dX3_become_59 ?_
  refine lv_if_le (tgt := 73) b.1 b.2.1 dX3_become_60 (by decide) (fun c17 => ?_) (fun c17 => ?_)
  · have hf := oI_t c17 hf
    refine lv_iconst (v := 0) b.1 b.2.1 dX3_become_73 (by decide) ?_
    exact wfX3_become_74 b hlk hr zs zk  hf hE (lv_sub hl [0, 1, 2, 3] rfl)
  · have hf := oI_f c17 hf
    refine lv_lload_n b.1 b.2.1 dX3_become_63 rfl (lv_at hl 2 rfl) ?_
    refine lv_lconst (v := 0) b.1 b.2.1 dX3_become_64 rfl ?_
    refine W.lcmp b.1 b.2.1 dX3_become_65 ?_
    refine lv_if_le (tgt := 73) b.1 b.2.1 dX3_become_66 (by decide) (fun c18 => ?_) (fun c18 => ?_)
    · have hf := oI_t c18 hf
      refine lv_iconst (v := 0) b.1 b.2.1 dX3_become_73 (by decide) ?_
      exact wfX3_become_74 b hlk hr zs zk  hf hE (lv_sub hl [0, 1, 2, 3] rfl)
    · have hf := oI_f c18 hf
      refine lv_iconst (v := 1) b.1 b.2.1 dX3_become_69 (by decide) ?_
      refine lv_goto (tgt := 74) b.1 b.2.1 dX3_become_70 (by decide) ?_
      exact wfX3_become_74 b hlk hr zs zk  hf hE (lv_sub hl [0, 1, 2, 3] rfl)
def fX3_become_20F (k20 : PH → Nat → Int64 → Int64 → Int64 → Int64 → Int32 → Option (PH)) (h : PH) (x0 : Nat) (x1 : Int64) (x3 : Int64) (x5 : Int64) (x7 : Int64) (x9 : Int32) : Option (PH) :=
  if 128 ≤ x9 then (fX3_become_56  h x0 x1 x3 x5) else (if (lg_cmp x7 0) = 0 then (fX3_become_56  h x0 x1 x3 x5) else (oC (decide (¬ x7 = 0)) (oL (x5 - x5 / x7 * x7) (fun y22 => oL (x9 + 1) (fun y23 => k20 h x0 x1 x3 x7 y22 y23)))))
set_option maxHeartbeats 4000000 in
theorem wfX3_become_20F {args : Array Value} (b : Bd p s m c cX3_become 12 RX3 D aC) (hlk : meth.locks = false) (hr : meth.sig.returnType = none) {Z : State → Prop} (zs : Z s) (zk : ZOK Z (Rg ad)) {hz : PH} {k20 : PH → Nat → Int64 → Int64 → Int64 → Int64 → Int32 → Option (PH)} (H20 : ∀ (h : PH) (x0 : Nat) (x1 : Int64) (x3 : Int64) (x5 : Int64) (x7 : Int64) (x9 : Int32), ∀ (H : Heap) (locs : List Loc) (ls : Array Slot), k20 h x0 x1 x3 x5 x7 x9 = some hz → CE (EX D aC ad h) (Rg ad) s H locs → lv_has ls 12 [(0, .ref (ad x0)), (1, .long x1), (3, .long x3), (5, .long x5), (7, .long x7), (9, .int x9)] → W p l e (RM 0 0 0 0) s m args below meth c H locs 0 0 (MQ below (PQ (EX D aC ad hz) (Rg ad) none) args s 0 0 (Rg ad)) (F0 m 20 ls [])) {h : PH} {x0 : Nat} {x1 : Int64} {x3 : Int64} {x5 : Int64} {x7 : Int64} {x9 : Int32}  {H : Heap} {locs : List Loc} {ls : Array Slot} (hf : fX3_become_20F k20 h x0 x1 x3 x5 x7 x9 = some hz) (hE : CE (EX D aC ad h) (Rg ad) s H locs) (hl : lv_has ls 12 [(0, .ref (ad x0)), (1, .long x1), (3, .long x3), (5, .long x5), (7, .long x7), (9, .int x9)]) : W p l e (RM 0 0 0 0) s m args below meth c H locs 0 0 (MQ below (PQ (EX D aC ad hz) (Rg ad) none) args s 0 0 (Rg ad)) (F0 m 20 ls []) := by
  unfold fX3_become_20F at hf
  refine lv_iload b.1 b.2.1 dX3_become_20 (lv_at hl 5 rfl) ?_
  refine lv_sipush (v := 128) b.1 b.2.1 dX3_become_22 (by decide) ?_
  refine lv_icmp_ge (tgt := 56) b.1 b.2.1 dX3_become_25 (by decide) (fun c19 => ?_) (fun c19 => ?_)
  · have hf := oI_t c19 hf
    exact wfX3_become_56 b hlk hr zs zk  hf hE (lv_sub hl [0, 1, 2, 3] rfl)
  · have hf := oI_f c19 hf
    refine lv_lload b.1 b.2.1 dX3_become_28 (lv_at hl 4 rfl) ?_
    refine lv_lconst (v := 0) b.1 b.2.1 dX3_become_30 rfl ?_
    refine W.lcmp b.1 b.2.1 dX3_become_31 ?_
    refine lv_if_eq (tgt := 56) b.1 b.2.1 dX3_become_32 (by decide) (fun c20 => ?_) (fun c20 => ?_)
    · have hf := oI_t c20 hf
      exact wfX3_become_56 b hlk hr zs zk  hf hE (lv_sub hl [0, 1, 2, 3] rfl)
    · have hf := oI_f c20 hf
      refine lv_lload b.1 b.2.1 dX3_become_35 (lv_at hl 3 rfl) ?_
      refine lv_lload b.1 b.2.1 dX3_become_37 (lv_at hl 4 rfl) ?_
      obtain ⟨g21, hf⟩ := oC_s hf
      refine lv_lrem b.1 b.2.1 dX3_become_39 (of_decide_eq_true g21) ?_
      obtain ⟨y22, ey22, hf⟩ := oL_s hf
      refine k_nmL ey22 ?_
      refine lv_lstore (lv' := [(10, .long y22), (0, .ref (ad x0)), (1, .long x1), (3, .long x3), (5, .long x5), (7, .long x7), (9, .int x9)]) b.1 b.2.1 dX3_become_40 hl (by decide) rfl (fun ls hl => ?_)
      have hl := lv_sub (l' := [(10, .long y22), (0, .ref (ad x0)), (1, .long x1), (3, .long x3), (7, .long x7), (9, .int x9)]) hl [0, 1, 2, 3, 5, 6] rfl
      refine lv_lload b.1 b.2.1 dX3_become_42 (lv_at hl 4 rfl) ?_
      refine lv_lstore (lv' := [(5, .long x7), (10, .long y22), (0, .ref (ad x0)), (1, .long x1), (3, .long x3), (7, .long x7), (9, .int x9)]) b.1 b.2.1 dX3_become_44 hl (by decide) rfl (fun ls hl => ?_)
      have hl := lv_sub (l' := [(5, .long x7), (10, .long y22), (0, .ref (ad x0)), (1, .long x1), (3, .long x3), (9, .int x9)]) hl [0, 1, 2, 3, 4, 6] rfl
      refine lv_lload b.1 b.2.1 dX3_become_46 (lv_at hl 1 rfl) ?_
      refine lv_lstore (lv' := [(7, .long y22), (5, .long x7), (10, .long y22), (0, .ref (ad x0)), (1, .long x1), (3, .long x3), (9, .int x9)]) b.1 b.2.1 dX3_become_48 hl (by decide) rfl (fun ls hl => ?_)
      have hl := lv_sub (l' := [(7, .long y22), (5, .long x7), (0, .ref (ad x0)), (1, .long x1), (3, .long x3), (9, .int x9)]) hl [0, 1, 3, 4, 5, 6] rfl
      obtain ⟨y23, ey23, hf⟩ := oL_s hf
      refine lv_iinc (v := y23) (lv' := [(9, .int y23), (7, .long y22), (5, .long x7), (0, .ref (ad x0)), (1, .long x1), (3, .long x3)]) b.1 b.2.1 dX3_become_50 hl (k := 5) rfl (by rw [ey23]; rfl) (by decide) rfl (fun ls hl => ?_)
      refine lv_goto (tgt := 20) b.1 b.2.1 dX3_become_53 (by decide) ?_
      exact H20 h x0 x1 x3 x7 y22 y23 _ _ _ hf hE (lv_sub hl [3, 4, 5, 2, 1, 0] rfl)
def fX3_become_20  : Nat → PH → Nat → Int64 → Int64 → Int64 → Int64 → Int32 → Option (PH)
  | 0 => fun _ _ _ _ _ _ _ => none
  | n + 1 => fX3_become_20F  (fX3_become_20  n)
set_option maxHeartbeats 4000000 in
theorem wfX3_become_20 {args : Array Value} (b : Bd p s m c cX3_become 12 RX3 D aC) (hlk : meth.locks = false) (hr : meth.sig.returnType = none) {Z : State → Prop} (zs : Z s) (zk : ZOK Z (Rg ad)) {hz : PH} : ∀ n : Nat, ∀ (h : PH) (x0 : Nat) (x1 : Int64) (x3 : Int64) (x5 : Int64) (x7 : Int64) (x9 : Int32), ∀ (H : Heap) (locs : List Loc) (ls : Array Slot), fX3_become_20  n h x0 x1 x3 x5 x7 x9 = some hz → CE (EX D aC ad h) (Rg ad) s H locs → lv_has ls 12 [(0, .ref (ad x0)), (1, .long x1), (3, .long x3), (5, .long x5), (7, .long x7), (9, .int x9)] → W p l e (RM 0 0 0 0) s m args below meth c H locs 0 0 (MQ below (PQ (EX D aC ad hz) (Rg ad) none) args s 0 0 (Rg ad)) (F0 m 20 ls []) := by
  intro n
  induction n with
  | zero =>
    intro h x0 x1 x3 x5 x7 x9 H locs ls hf
    have hf : (none : Option (PH)) = some _ := hf
    cases hf
  | succ n ih =>
    intro h x0 x1 x3 x5 x7 x9 H locs ls hf hE hl
    exact wfX3_become_20F b hlk hr zs zk  ih hf hE hl
def fX3_become_12  (h : PH) (x0 : Nat) (x1 : Int64) (x3 : Int64) (s0 : Int64) : Option (PH) :=
  fX3_become_20  FU h x0 x1 x3 s0 x3 0
set_option maxHeartbeats 4000000 in
theorem wfX3_become_12 {args : Array Value} (b : Bd p s m c cX3_become 12 RX3 D aC) (hlk : meth.locks = false) (hr : meth.sig.returnType = none) {Z : State → Prop} (zs : Z s) (zk : ZOK Z (Rg ad)) {hz : PH} {h : PH} {x0 : Nat} {x1 : Int64} {x3 : Int64} {s0 : Int64}  {H : Heap} {locs : List Loc} {ls : Array Slot} (hf : fX3_become_12 h x0 x1 x3 s0 = some hz) (hE : CE (EX D aC ad h) (Rg ad) s H locs) (hl : lv_has ls 12 [(0, .ref (ad x0)), (1, .long x1), (3, .long x3)]) : W p l e (RM 0 0 0 0) s m args below meth c H locs 0 0 (MQ below (PQ (EX D aC ad hz) (Rg ad) none) args s 0 0 (Rg ad)) (F0 m 12 ls [.long s0]) := by
  unfold fX3_become_12 at hf
  refine lv_lstore (lv' := [(5, .long s0), (0, .ref (ad x0)), (1, .long x1), (3, .long x3)]) b.1 b.2.1 dX3_become_12 hl (by decide) rfl (fun ls hl => ?_)
  refine lv_lload_n b.1 b.2.1 dX3_become_14 rfl (lv_at hl 3 rfl) ?_
  refine lv_lstore (lv' := [(7, .long x3), (5, .long s0), (0, .ref (ad x0)), (1, .long x1), (3, .long x3)]) b.1 b.2.1 dX3_become_15 hl (by decide) rfl (fun ls hl => ?_)
  refine lv_iconst (v := 0) b.1 b.2.1 dX3_become_17 (by decide) ?_
  refine lv_istore (lv' := [(9, .int 0), (7, .long x3), (5, .long s0), (0, .ref (ad x0)), (1, .long x1), (3, .long x3)]) b.1 b.2.1 dX3_become_18 hl (by decide) rfl (fun ls hl => ?_)
  exact wfX3_become_20 b hlk hr zs zk  FU h x0 x1 x3 s0 x3 0 _ _ _ hf hE (lv_sub hl [3, 4, 5, 2, 1, 0] rfl)
def fX3_become_0  (h : PH) (x0 : Nat) (x1 : Int64) (x3 : Int64) : Option (PH) :=
  if 0 ≤ (lg_cmp x1 0) then (fX3_become_12  h x0 x1 x3 x1) else (fX3_become_12  h x0 x1 x3 (-x1))
set_option maxHeartbeats 4000000 in
theorem wfX3_become_0 {args : Array Value} (b : Bd p s m c cX3_become 12 RX3 D aC) (hlk : meth.locks = false) (hr : meth.sig.returnType = none) {Z : State → Prop} (zs : Z s) (zk : ZOK Z (Rg ad)) {hz : PH} {h : PH} {x0 : Nat} {x1 : Int64} {x3 : Int64}  {H : Heap} {locs : List Loc} {ls : Array Slot} (hf : fX3_become_0 h x0 x1 x3 = some hz) (hE : CE (EX D aC ad h) (Rg ad) s H locs) (hl : lv_has ls 12 [(0, .ref (ad x0)), (1, .long x1), (3, .long x3)]) : W p l e (RM 0 0 0 0) s m args below meth c H locs 0 0 (MQ below (PQ (EX D aC ad hz) (Rg ad) none) args s 0 0 (Rg ad)) (F0 m 0 ls []) := by
  unfold fX3_become_0 at hf
  refine lv_lload_n b.1 b.2.1 dX3_become_0 rfl (lv_at hl 1 rfl) ?_
  refine lv_lconst (v := 0) b.1 b.2.1 dX3_become_1 rfl ?_
  refine W.lcmp b.1 b.2.1 dX3_become_2 ?_
  refine lv_if_ge (tgt := 11) b.1 b.2.1 dX3_become_3 (by decide) (fun c24 => ?_) (fun c24 => ?_)
  · have hf := oI_t c24 hf
    refine lv_lload_n b.1 b.2.1 dX3_become_11 rfl (lv_at hl 1 rfl) ?_
    exact wfX3_become_12 b hlk hr zs zk  hf hE (lv_sub hl [0, 1, 2] rfl)
  · have hf := oI_f c24 hf
    refine lv_lload_n b.1 b.2.1 dX3_become_6 rfl (lv_at hl 1 rfl) ?_
    refine lv_lneg b.1 b.2.1 dX3_become_7 ?_
    refine lv_goto (tgt := 12) b.1 b.2.1 dX3_become_8 (by decide) ?_
    exact wfX3_become_12 b hlk hr zs zk  hf hE (lv_sub hl [0, 1, 2] rfl)
def fX3_become (h : PH) (x0 : Nat) (x1 : Int64) (x3 : Int64) : Option (PH) := fX3_become_0 h x0 x1 x3
set_option maxHeartbeats 4000000 in
theorem CX3_become (l : Launch) (D : va_G) (aC : Nat → ClassId) (ad : Nat → Nat) {Z : State → Prop} (zk : ZOK Z (Rg ad)) {h : PH} {x0 : Nat} {x1 : Int64} {x3 : Int64} {hz : PH} (hf : fX3_become h x0 x1 x3 = some hz) : CM l D aC Z yX3_become cX3_become 12 (none) 0 0 0 0 (EX D aC ad h) [.ref (ad x0), .long x1, .long x3] (EX D aC ad hz) none (Rg ad) := by
  refine CM.of rfl ?_
  intro p e s m below meth c b hr hlk hin2 zs hE
  refine k_ent (Nat.le_of_ble_eq_true rfl) (fun ls hl => ?_)
  exact wfX3_become_0 b hlk hr zs zk hf hE (lv_sub hl [0, 1, 2] rfl)
theorem dX3_copy_0 : decode cX3_copy 0 = .ok (.aload_n 0, 1) := by decide +kernel
theorem dX3_copy_1 : decode cX3_copy 1 = .ok (.aload_n 1, 1) := by decide +kernel
theorem dX3_copy_2 : decode cX3_copy 2 = .ok (.getfield 13, 3) := by decide +kernel
theorem dX3_copy_5 : decode cX3_copy 5 = .ok (.putfield 13, 3) := by decide +kernel
theorem dX3_copy_8 : decode cX3_copy 8 = .ok (.aload_n 0, 1) := by decide +kernel
theorem dX3_copy_9 : decode cX3_copy 9 = .ok (.aload_n 1, 1) := by decide +kernel
theorem dX3_copy_10 : decode cX3_copy 10 = .ok (.getfield 7, 3) := by decide +kernel
theorem dX3_copy_13 : decode cX3_copy 13 = .ok (.putfield 7, 3) := by decide +kernel
theorem dX3_copy_16 : decode cX3_copy 16 = .ok (.aload_n 0, 1) := by decide +kernel
theorem dX3_copy_17 : decode cX3_copy 17 = .ok (.aload_n 1, 1) := by decide +kernel
theorem dX3_copy_18 : decode cX3_copy 18 = .ok (.getfield 20, 3) := by decide +kernel
theorem dX3_copy_21 : decode cX3_copy 21 = .ok (.putfield 20, 3) := by decide +kernel
theorem dX3_copy_24 : decode cX3_copy 24 = .ok (.return_, 1) := by decide +kernel
def fX3_copy_0  (h : PH) (x0 : Nat) (x1 : Option Nat) : Option (PH) :=
  oN x1 (fun a1 => oC (decide (hT h a1 = 4)) (oC (decide (hT h x0 = 4)) (oL (sL h 384 x0 (hL h 384 a1)) (fun h4 => oL (sL h4 385 x0 (hL h4 385 a1)) (fun h7 => oC (isB (hI h7 386 a1)) (oL (sI h7 386 x0 (hI h7 386 a1)) (fun h11 => some (h11))))))))
set_option maxHeartbeats 4000000 in
theorem wfX3_copy_0 {args : Array Value} (b : Bd p s m c cX3_copy 2 RX3 D aC) (hlk : meth.locks = false) (hr : meth.sig.returnType = none) {Z : State → Prop} (zs : Z s) (zk : ZOK Z (Rg ad)) {hz : PH} {h : PH} {x0 : Nat} {x1 : Option Nat}  {H : Heap} {locs : List Loc} {ls : Array Slot} (hf : fX3_copy_0 h x0 x1 = some hz) (hE : CE (EX D aC ad h) (Rg ad) s H locs) (hl : lv_has ls 2 [(0, .ref (ad x0)), (1, va_rf (Option.map ad x1))]) : W p l e (RM 0 0 0 0) s m args below meth c H locs 0 0 (MQ below (PQ (EX D aC ad hz) (Rg ad) none) args s 0 0 (Rg ad)) (F0 m 0 ls []) := by
  unfold fX3_copy_0 at hf
  refine lv_aload_n b.1 b.2.1 dX3_copy_0 rfl (lv_at hl 0 rfl) ?_
  refine k_aload_n (x := Option.map ad x1) b dX3_copy_1 rfl (lv_at hl 1 rfl) ?_
  obtain ⟨a1, ea1, hf⟩ := oN_s hf
  obtain ⟨t2, hf⟩ := oC_s hf
  have t2 := of_decide_eq_true t2
  refine gX3_13 (x := x1) b hE ea1 t2 dX3_copy_2 ?_
  obtain ⟨t3, hf⟩ := oC_s hf
  have t3 := of_decide_eq_true t3
  obtain ⟨h4, eh4, hf⟩ := oL_s hf
  refine pX3_13 (x := (some x0)) b hE rfl t3 eh4 dX3_copy_5 (fun H locs hE => ?_)
  refine lv_aload_n b.1 b.2.1 dX3_copy_8 rfl (lv_at hl 0 rfl) ?_
  refine k_aload_n (x := Option.map ad x1) b dX3_copy_9 rfl (lv_at hl 1 rfl) ?_
  have t5 := tg_sL eh4 t2
  refine gX3_7 (x := x1) b hE ea1 t5 dX3_copy_10 ?_
  have t6 := tg_sL eh4 t3
  obtain ⟨h7, eh7, hf⟩ := oL_s hf
  refine pX3_7 (x := (some x0)) b hE rfl t6 eh7 dX3_copy_13 (fun H locs hE => ?_)
  refine lv_aload_n b.1 b.2.1 dX3_copy_16 rfl (lv_at hl 0 rfl) ?_
  refine k_aload_n (x := Option.map ad x1) b dX3_copy_17 rfl (lv_at hl 1 rfl) ?_
  have t8 := tg_sL eh7 t5
  refine gX3_20 (x := x1) b hE ea1 t8 dX3_copy_18 ?_
  obtain ⟨g9, hf⟩ := oC_s hf
  have t10 := tg_sL eh7 t6
  obtain ⟨h11, eh11, hf⟩ := oL_s hf
  refine pX3_20 (x := (some x0)) b hE rfl t10 g9 eh11 dX3_copy_21 (fun H locs hE => ?_)
  cases hf
  exact k_vret b hlk hr hE (Nat.le_refl _) (Nat.le_refl _) dX3_copy_24
def fX3_copy (h : PH) (x0 : Nat) (x1 : Option Nat) : Option (PH) := fX3_copy_0 h x0 x1
set_option maxHeartbeats 4000000 in
theorem CX3_copy (l : Launch) (D : va_G) (aC : Nat → ClassId) (ad : Nat → Nat) {Z : State → Prop} (zk : ZOK Z (Rg ad)) {h : PH} {x0 : Nat} {x1 : Option Nat} {hz : PH} (hf : fX3_copy h x0 x1 = some hz) : CM l D aC Z yX3_copy cX3_copy 2 (none) 0 0 0 0 (EX D aC ad h) [.ref (ad x0), va_rf (Option.map ad x1)] (EX D aC ad hz) none (Rg ad) := by
  refine CM.of rfl ?_
  intro p e s m below meth c b hr hlk hin2 zs hE
  cases x1 <;> (
    refine k_ent (Nat.le_of_ble_eq_true rfl) (fun ls hl => ?_)
    exact wfX3_copy_0 b hlk hr zs zk hf hE (lv_sub hl [0, 1] rfl))
theorem dX3_negate_0 : decode cX3_negate 0 = .ok (.aload_n 0, 1) := by decide +kernel
theorem dX3_negate_1 : decode cX3_negate 1 = .ok (.aload_n 0, 1) := by decide +kernel
theorem dX3_negate_2 : decode cX3_negate 2 = .ok (.getfield 13, 3) := by decide +kernel
theorem dX3_negate_5 : decode cX3_negate 5 = .ok (.lneg, 1) := by decide +kernel
theorem dX3_negate_6 : decode cX3_negate 6 = .ok (.putfield 13, 3) := by decide +kernel
theorem dX3_negate_9 : decode cX3_negate 9 = .ok (.return_, 1) := by decide +kernel
def fX3_negate_0  (h : PH) (x0 : Nat) : Option (PH) :=
  oC (decide (hT h x0 = 4)) (oL (sL h 384 x0 (-(hL h 384 x0))) (fun h2 => some (h2)))
set_option maxHeartbeats 4000000 in
theorem wfX3_negate_0 {args : Array Value} (b : Bd p s m c cX3_negate 1 RX3 D aC) (hlk : meth.locks = false) (hr : meth.sig.returnType = none) {Z : State → Prop} (zs : Z s) (zk : ZOK Z (Rg ad)) {hz : PH} {h : PH} {x0 : Nat}  {H : Heap} {locs : List Loc} {ls : Array Slot} (hf : fX3_negate_0 h x0 = some hz) (hE : CE (EX D aC ad h) (Rg ad) s H locs) (hl : lv_has ls 1 [(0, .ref (ad x0))]) : W p l e (RM 0 0 0 0) s m args below meth c H locs 0 0 (MQ below (PQ (EX D aC ad hz) (Rg ad) none) args s 0 0 (Rg ad)) (F0 m 0 ls []) := by
  unfold fX3_negate_0 at hf
  refine lv_aload_n b.1 b.2.1 dX3_negate_0 rfl (lv_at hl 0 rfl) ?_
  refine lv_aload_n b.1 b.2.1 dX3_negate_1 rfl (lv_at hl 0 rfl) ?_
  obtain ⟨t1, hf⟩ := oC_s hf
  have t1 := of_decide_eq_true t1
  refine gX3_13 (x := (some x0)) b hE rfl t1 dX3_negate_2 ?_
  refine lv_lneg b.1 b.2.1 dX3_negate_5 ?_
  obtain ⟨h2, eh2, hf⟩ := oL_s hf
  refine pX3_13 (x := (some x0)) b hE rfl t1 eh2 dX3_negate_6 (fun H locs hE => ?_)
  cases hf
  exact k_vret b hlk hr hE (Nat.le_refl _) (Nat.le_refl _) dX3_negate_9
def fX3_negate (h : PH) (x0 : Nat) : Option (PH) := fX3_negate_0 h x0
set_option maxHeartbeats 4000000 in
theorem CX3_negate (l : Launch) (D : va_G) (aC : Nat → ClassId) (ad : Nat → Nat) {Z : State → Prop} (zk : ZOK Z (Rg ad)) {h : PH} {x0 : Nat} {hz : PH} (hf : fX3_negate h x0 = some hz) : CM l D aC Z yX3_negate cX3_negate 1 (none) 0 0 0 0 (EX D aC ad h) [.ref (ad x0)] (EX D aC ad hz) none (Rg ad) := by
  refine CM.of rfl ?_
  intro p e s m below meth c b hr hlk hin2 zs hE
  refine k_ent (Nat.le_of_ble_eq_true rfl) (fun ls hl => ?_)
  exact wfX3_negate_0 b hlk hr zs zk hf hE (lv_sub hl [0] rfl)
theorem dX3_add_0 : decode cX3_add 0 = .ok (.aload_n 0, 1) := by decide +kernel
theorem dX3_add_1 : decode cX3_add 1 = .ok (.getfield 20, 3) := by decide +kernel
theorem dX3_add_4 : decode cX3_add 4 = .ok (.ifCond .ne 10, 3) := by decide +kernel
theorem dX3_add_7 : decode cX3_add 7 = .ok (.aload_n 1, 1) := by decide +kernel
theorem dX3_add_8 : decode cX3_add 8 = .ok (.getfield 20, 3) := by decide +kernel
theorem dX3_add_11 : decode cX3_add 11 = .ok (.ifCond .eq 9, 3) := by decide +kernel
theorem dX3_add_14 : decode cX3_add 14 = .ok (.aload_n 0, 1) := by decide +kernel
theorem dX3_add_15 : decode cX3_add 15 = .ok (.iconst 1, 1) := by decide +kernel
theorem dX3_add_16 : decode cX3_add 16 = .ok (.putfield 20, 3) := by decide +kernel
theorem dX3_add_19 : decode cX3_add 19 = .ok (.return_, 1) := by decide +kernel
theorem dX3_add_20 : decode cX3_add 20 = .ok (.aload_n 0, 1) := by decide +kernel
theorem dX3_add_21 : decode cX3_add 21 = .ok (.aload_n 0, 1) := by decide +kernel
theorem dX3_add_22 : decode cX3_add 22 = .ok (.getfield 13, 3) := by decide +kernel
theorem dX3_add_25 : decode cX3_add 25 = .ok (.aload_n 1, 1) := by decide +kernel
theorem dX3_add_26 : decode cX3_add 26 = .ok (.getfield 7, 3) := by decide +kernel
theorem dX3_add_29 : decode cX3_add 29 = .ok (.lmul, 1) := by decide +kernel
theorem dX3_add_30 : decode cX3_add 30 = .ok (.iload_n 2, 1) := by decide +kernel
theorem dX3_add_31 : decode cX3_add 31 = .ok (.i2l, 1) := by decide +kernel
theorem dX3_add_32 : decode cX3_add 32 = .ok (.aload_n 1, 1) := by decide +kernel
theorem dX3_add_33 : decode cX3_add 33 = .ok (.getfield 13, 3) := by decide +kernel
theorem dX3_add_36 : decode cX3_add 36 = .ok (.lmul, 1) := by decide +kernel
theorem dX3_add_37 : decode cX3_add 37 = .ok (.aload_n 0, 1) := by decide +kernel
theorem dX3_add_38 : decode cX3_add 38 = .ok (.getfield 7, 3) := by decide +kernel
theorem dX3_add_41 : decode cX3_add 41 = .ok (.lmul, 1) := by decide +kernel
theorem dX3_add_42 : decode cX3_add 42 = .ok (.ladd, 1) := by decide +kernel
theorem dX3_add_43 : decode cX3_add 43 = .ok (.aload_n 0, 1) := by decide +kernel
theorem dX3_add_44 : decode cX3_add 44 = .ok (.getfield 7, 3) := by decide +kernel
theorem dX3_add_47 : decode cX3_add 47 = .ok (.aload_n 1, 1) := by decide +kernel
theorem dX3_add_48 : decode cX3_add 48 = .ok (.getfield 7, 3) := by decide +kernel
theorem dX3_add_51 : decode cX3_add 51 = .ok (.lmul, 1) := by decide +kernel
theorem dX3_add_52 : decode cX3_add 52 = .ok (.invokevirtual 24, 3) := by decide +kernel
theorem dX3_add_55 : decode cX3_add 55 = .ok (.return_, 1) := by decide +kernel
def fX3_add_14  (h : PH) (x0 : Nat) : Option (PH) :=
  oC (decide (hT h x0 = 4)) (oL (sI h 386 x0 1) (fun h2 => some (h2)))
set_option maxHeartbeats 4000000 in
theorem wfX3_add_14 {args : Array Value} (b : Bd p s m c cX3_add 3 RX3 D aC) (hlk : meth.locks = false) (hr : meth.sig.returnType = none) {Z : State → Prop} (zs : Z s) (zk : ZOK Z (Rg ad)) {hz : PH} {h : PH} {x0 : Nat}  {H : Heap} {locs : List Loc} {ls : Array Slot} (hf : fX3_add_14 h x0 = some hz) (hE : CE (EX D aC ad h) (Rg ad) s H locs) (hl : lv_has ls 3 [(0, .ref (ad x0))]) : W p l e (RM 1 31 0 0) s m args below meth c H locs 0 0 (MQ below (PQ (EX D aC ad hz) (Rg ad) none) args s 0 0 (Rg ad)) (F0 m 14 ls []) := by
  unfold fX3_add_14 at hf
  refine lv_aload_n b.1 b.2.1 dX3_add_14 rfl (lv_at hl 0 rfl) ?_
  refine lv_iconst (v := 1) b.1 b.2.1 dX3_add_15 (by decide) ?_
  obtain ⟨t1, hf⟩ := oC_s hf
  have t1 := of_decide_eq_true t1
  obtain ⟨h2, eh2, hf⟩ := oL_s hf
  refine pX3_20 (x := (some x0)) b hE rfl t1 (by decide) eh2 dX3_add_16 (fun H locs hE => ?_)
  cases hf
  exact k_vret b hlk hr hE (Nat.le_refl _) (Nat.le_refl _) dX3_add_19
def fX3_add_0  (h : PH) (x0 : Nat) (x1 : Option Nat) (x2 : Int32) : Option (PH) :=
  oC (decide (hT h x0 = 4)) (if (hI h 386 x0) = 0 then (oN x1 (fun a5 => oC (decide (hT h a5 = 4)) (if (hI h 386 a5) = 0 then (oB (fX3_become h x0 (((hL h 384 x0) * (hL h 385 a5)) + (((Int32.toInt64 x2) * (hL h 384 a5)) * (hL h 385 x0))) ((hL h 385 x0) * (hL h 385 a5))) (fun h9 => some (h9))) else (fX3_add_14  h x0)))) else (fX3_add_14  h x0))
set_option maxHeartbeats 4000000 in
theorem wfX3_add_0 {args : Array Value} (b : Bd p s m c cX3_add 3 RX3 D aC) (hlk : meth.locks = false) (hr : meth.sig.returnType = none) {Z : State → Prop} (zs : Z s) (zk : ZOK Z (Rg ad)) {hz : PH} {h : PH} {x0 : Nat} {x1 : Option Nat} {x2 : Int32}  {H : Heap} {locs : List Loc} {ls : Array Slot} (hf : fX3_add_0 h x0 x1 x2 = some hz) (hE : CE (EX D aC ad h) (Rg ad) s H locs) (hl : lv_has ls 3 [(0, .ref (ad x0)), (1, va_rf (Option.map ad x1)), (2, .int x2)]) : W p l e (RM 1 31 0 0) s m args below meth c H locs 0 0 (MQ below (PQ (EX D aC ad hz) (Rg ad) none) args s 0 0 (Rg ad)) (F0 m 0 ls []) := by
  unfold fX3_add_0 at hf
  refine lv_aload_n b.1 b.2.1 dX3_add_0 rfl (lv_at hl 0 rfl) ?_
  obtain ⟨t3, hf⟩ := oC_s hf
  have t3 := of_decide_eq_true t3
  refine gX3_20 (x := (some x0)) b hE rfl t3 dX3_add_1 ?_
  refine lv_if_ne (tgt := 14) b.1 b.2.1 dX3_add_4 (by decide) (fun c4 => ?_) (fun c4 => ?_)
  · have hf := oI_f c4 hf
    exact wfX3_add_14 b hlk hr zs zk  hf hE (lv_sub hl [0] rfl)
  · have hf := oI_t c4 hf
    refine k_aload_n (x := Option.map ad x1) b dX3_add_7 rfl (lv_at hl 1 rfl) ?_
    obtain ⟨a5, ea5, hf⟩ := oN_s hf
    obtain ⟨t6, hf⟩ := oC_s hf
    have t6 := of_decide_eq_true t6
    refine gX3_20 (x := x1) b hE ea5 t6 dX3_add_8 ?_
    refine lv_if_eq (tgt := 20) b.1 b.2.1 dX3_add_11 (by decide) (fun c7 => ?_) (fun c7 => ?_)
    · have hf := oI_t c7 hf
      refine lv_aload_n b.1 b.2.1 dX3_add_20 rfl (lv_at hl 0 rfl) ?_
      refine lv_aload_n b.1 b.2.1 dX3_add_21 rfl (lv_at hl 0 rfl) ?_
      refine gX3_13 (x := (some x0)) b hE rfl t3 dX3_add_22 ?_
      refine k_aload_n (x := Option.map ad x1) b dX3_add_25 rfl (lv_at hl 1 rfl) ?_
      refine gX3_7 (x := x1) b hE ea5 t6 dX3_add_26 ?_
      refine lv_lmul b.1 b.2.1 dX3_add_29 ?_
      refine lv_iload_n b.1 b.2.1 dX3_add_30 rfl (lv_at hl 2 rfl) ?_
      refine lv_i2l b.1 b.2.1 dX3_add_31 rfl ?_
      refine k_aload_n (x := Option.map ad x1) b dX3_add_32 rfl (lv_at hl 1 rfl) ?_
      refine gX3_13 (x := x1) b hE ea5 t6 dX3_add_33 ?_
      refine lv_lmul b.1 b.2.1 dX3_add_36 ?_
      refine lv_aload_n b.1 b.2.1 dX3_add_37 rfl (lv_at hl 0 rfl) ?_
      refine gX3_7 (x := (some x0)) b hE rfl t3 dX3_add_38 ?_
      refine lv_lmul b.1 b.2.1 dX3_add_41 ?_
      refine lv_ladd b.1 b.2.1 dX3_add_42 ?_
      refine lv_aload_n b.1 b.2.1 dX3_add_43 rfl (lv_at hl 0 rfl) ?_
      refine gX3_7 (x := (some x0)) b hE rfl t3 dX3_add_44 ?_
      refine k_aload_n (x := Option.map ad x1) b dX3_add_47 rfl (lv_at hl 1 rfl) ?_
      refine gX3_7 (x := x1) b hE ea5 t6 dX3_add_48 ?_
      refine lv_lmul b.1 b.2.1 dX3_add_51 ?_
      obtain ⟨h9, hc8, hf⟩ := oB_s hf
      refine k_callV0 (C := RX3) b zs zk hE (CX3_become l D aC ad zk hc8) mc_X3_become (in4 228 rfl rfl) mi_X3_become ms_X3_become ini_RX3 ok_X3_become (x_recv b hE (ci := 3) rfl (by decide) t3) ⟨Nat.le_of_ble_eq_true rfl, Nat.le_of_ble_eq_true rfl⟩ rfl hl.1 rfl (k_room _ (by exact Nat.le_of_ble_eq_true rfl)) ⟨Nat.le_refl _, Nat.le_refl _⟩ dX3_add_52 (fun H locs hE => ?_)
      cases hf
      exact k_vret b hlk hr hE (Nat.le_refl _) (Nat.le_refl _) dX3_add_55
    · have hf := oI_f c7 hf
      exact wfX3_add_14 b hlk hr zs zk  hf hE (lv_sub hl [0] rfl)
def fX3_add (h : PH) (x0 : Nat) (x1 : Option Nat) (x2 : Int32) : Option (PH) := fX3_add_0 h x0 x1 x2
set_option maxHeartbeats 4000000 in
theorem CX3_add (l : Launch) (D : va_G) (aC : Nat → ClassId) (ad : Nat → Nat) {Z : State → Prop} (zk : ZOK Z (Rg ad)) {h : PH} {x0 : Nat} {x1 : Option Nat} {x2 : Int32} {hz : PH} (hf : fX3_add h x0 x1 x2 = some hz) : CM l D aC Z yX3_add cX3_add 3 (none) 1 31 0 0 (EX D aC ad h) [.ref (ad x0), va_rf (Option.map ad x1), .int x2] (EX D aC ad hz) none (Rg ad) := by
  refine CM.of rfl ?_
  intro p e s m below meth c b hr hlk hin2 zs hE
  cases x1 <;> (
    refine k_ent (Nat.le_of_ble_eq_true rfl) (fun ls hl => ?_)
    exact wfX3_add_0 b hlk hr zs zk hf hE (lv_sub hl [0, 1, 2] rfl))
theorem dX3_multiply_0 : decode cX3_multiply 0 = .ok (.aload_n 0, 1) := by decide +kernel
theorem dX3_multiply_1 : decode cX3_multiply 1 = .ok (.getfield 20, 3) := by decide +kernel
theorem dX3_multiply_4 : decode cX3_multiply 4 = .ok (.ifCond .ne 8, 3) := by decide +kernel
theorem dX3_multiply_7 : decode cX3_multiply 7 = .ok (.iload 5, 2) := by decide +kernel
theorem dX3_multiply_9 : decode cX3_multiply 9 = .ok (.ifCond .eq 9, 3) := by decide +kernel
theorem dX3_multiply_12 : decode cX3_multiply 12 = .ok (.aload_n 0, 1) := by decide +kernel
theorem dX3_multiply_13 : decode cX3_multiply 13 = .ok (.iconst 1, 1) := by decide +kernel
theorem dX3_multiply_14 : decode cX3_multiply 14 = .ok (.putfield 20, 3) := by decide +kernel
theorem dX3_multiply_17 : decode cX3_multiply 17 = .ok (.return_, 1) := by decide +kernel
theorem dX3_multiply_18 : decode cX3_multiply 18 = .ok (.aload_n 0, 1) := by decide +kernel
theorem dX3_multiply_19 : decode cX3_multiply 19 = .ok (.aload_n 0, 1) := by decide +kernel
theorem dX3_multiply_20 : decode cX3_multiply 20 = .ok (.getfield 13, 3) := by decide +kernel
theorem dX3_multiply_23 : decode cX3_multiply 23 = .ok (.lload_n 1, 1) := by decide +kernel
theorem dX3_multiply_24 : decode cX3_multiply 24 = .ok (.lmul, 1) := by decide +kernel
theorem dX3_multiply_25 : decode cX3_multiply 25 = .ok (.aload_n 0, 1) := by decide +kernel
theorem dX3_multiply_26 : decode cX3_multiply 26 = .ok (.getfield 7, 3) := by decide +kernel
theorem dX3_multiply_29 : decode cX3_multiply 29 = .ok (.lload_n 3, 1) := by decide +kernel
theorem dX3_multiply_30 : decode cX3_multiply 30 = .ok (.lmul, 1) := by decide +kernel
theorem dX3_multiply_31 : decode cX3_multiply 31 = .ok (.invokevirtual 24, 3) := by decide +kernel
theorem dX3_multiply_34 : decode cX3_multiply 34 = .ok (.return_, 1) := by decide +kernel
def fX3_multiply_12  (h : PH) (x0 : Nat) : Option (PH) :=
  oC (decide (hT h x0 = 4)) (oL (sI h 386 x0 1) (fun h2 => some (h2)))
set_option maxHeartbeats 4000000 in
theorem wfX3_multiply_12 {args : Array Value} (b : Bd p s m c cX3_multiply 6 RX3 D aC) (hlk : meth.locks = false) (hr : meth.sig.returnType = none) {Z : State → Prop} (zs : Z s) (zk : ZOK Z (Rg ad)) {hz : PH} {h : PH} {x0 : Nat}  {H : Heap} {locs : List Loc} {ls : Array Slot} (hf : fX3_multiply_12 h x0 = some hz) (hE : CE (EX D aC ad h) (Rg ad) s H locs) (hl : lv_has ls 6 [(0, .ref (ad x0))]) : W p l e (RM 1 31 0 0) s m args below meth c H locs 0 0 (MQ below (PQ (EX D aC ad hz) (Rg ad) none) args s 0 0 (Rg ad)) (F0 m 12 ls []) := by
  unfold fX3_multiply_12 at hf
  refine lv_aload_n b.1 b.2.1 dX3_multiply_12 rfl (lv_at hl 0 rfl) ?_
  refine lv_iconst (v := 1) b.1 b.2.1 dX3_multiply_13 (by decide) ?_
  obtain ⟨t1, hf⟩ := oC_s hf
  have t1 := of_decide_eq_true t1
  obtain ⟨h2, eh2, hf⟩ := oL_s hf
  refine pX3_20 (x := (some x0)) b hE rfl t1 (by decide) eh2 dX3_multiply_14 (fun H locs hE => ?_)
  cases hf
  exact k_vret b hlk hr hE (Nat.le_refl _) (Nat.le_refl _) dX3_multiply_17
def fX3_multiply_0  (h : PH) (x0 : Nat) (x1 : Int64) (x3 : Int64) (x5 : Int32) : Option (PH) :=
  oC (decide (hT h x0 = 4)) (if (hI h 386 x0) = 0 then (if x5 = 0 then (oB (fX3_become h x0 ((hL h 384 x0) * x1) ((hL h 385 x0) * x3)) (fun h7 => some (h7))) else (fX3_multiply_12  h x0)) else (fX3_multiply_12  h x0))
set_option maxHeartbeats 4000000 in
theorem wfX3_multiply_0 {args : Array Value} (b : Bd p s m c cX3_multiply 6 RX3 D aC) (hlk : meth.locks = false) (hr : meth.sig.returnType = none) {Z : State → Prop} (zs : Z s) (zk : ZOK Z (Rg ad)) {hz : PH} {h : PH} {x0 : Nat} {x1 : Int64} {x3 : Int64} {x5 : Int32}  {H : Heap} {locs : List Loc} {ls : Array Slot} (hf : fX3_multiply_0 h x0 x1 x3 x5 = some hz) (hE : CE (EX D aC ad h) (Rg ad) s H locs) (hl : lv_has ls 6 [(0, .ref (ad x0)), (1, .long x1), (3, .long x3), (5, .int x5)]) : W p l e (RM 1 31 0 0) s m args below meth c H locs 0 0 (MQ below (PQ (EX D aC ad hz) (Rg ad) none) args s 0 0 (Rg ad)) (F0 m 0 ls []) := by
  unfold fX3_multiply_0 at hf
  refine lv_aload_n b.1 b.2.1 dX3_multiply_0 rfl (lv_at hl 0 rfl) ?_
  obtain ⟨t3, hf⟩ := oC_s hf
  have t3 := of_decide_eq_true t3
  refine gX3_20 (x := (some x0)) b hE rfl t3 dX3_multiply_1 ?_
  refine lv_if_ne (tgt := 12) b.1 b.2.1 dX3_multiply_4 (by decide) (fun c4 => ?_) (fun c4 => ?_)
  · have hf := oI_f c4 hf
    exact wfX3_multiply_12 b hlk hr zs zk  hf hE (lv_sub hl [0] rfl)
  · have hf := oI_t c4 hf
    refine lv_iload b.1 b.2.1 dX3_multiply_7 (lv_at hl 3 rfl) ?_
    refine lv_if_eq (tgt := 18) b.1 b.2.1 dX3_multiply_9 (by decide) (fun c5 => ?_) (fun c5 => ?_)
    · have hf := oI_t c5 hf
      refine lv_aload_n b.1 b.2.1 dX3_multiply_18 rfl (lv_at hl 0 rfl) ?_
      refine lv_aload_n b.1 b.2.1 dX3_multiply_19 rfl (lv_at hl 0 rfl) ?_
      refine gX3_13 (x := (some x0)) b hE rfl t3 dX3_multiply_20 ?_
      refine lv_lload_n b.1 b.2.1 dX3_multiply_23 rfl (lv_at hl 1 rfl) ?_
      refine lv_lmul b.1 b.2.1 dX3_multiply_24 ?_
      refine lv_aload_n b.1 b.2.1 dX3_multiply_25 rfl (lv_at hl 0 rfl) ?_
      refine gX3_7 (x := (some x0)) b hE rfl t3 dX3_multiply_26 ?_
      refine lv_lload_n b.1 b.2.1 dX3_multiply_29 rfl (lv_at hl 2 rfl) ?_
      refine lv_lmul b.1 b.2.1 dX3_multiply_30 ?_
      obtain ⟨h7, hc6, hf⟩ := oB_s hf
      refine k_callV0 (C := RX3) b zs zk hE (CX3_become l D aC ad zk hc6) mc_X3_become (in4 228 rfl rfl) mi_X3_become ms_X3_become ini_RX3 ok_X3_become (x_recv b hE (ci := 3) rfl (by decide) t3) ⟨Nat.le_of_ble_eq_true rfl, Nat.le_of_ble_eq_true rfl⟩ rfl hl.1 rfl (k_room _ (by exact Nat.le_of_ble_eq_true rfl)) ⟨Nat.le_refl _, Nat.le_refl _⟩ dX3_multiply_31 (fun H locs hE => ?_)
      cases hf
      exact k_vret b hlk hr hE (Nat.le_refl _) (Nat.le_refl _) dX3_multiply_34
    · have hf := oI_f c5 hf
      exact wfX3_multiply_12 b hlk hr zs zk  hf hE (lv_sub hl [0] rfl)
def fX3_multiply (h : PH) (x0 : Nat) (x1 : Int64) (x3 : Int64) (x5 : Int32) : Option (PH) := fX3_multiply_0 h x0 x1 x3 x5
set_option maxHeartbeats 4000000 in
theorem CX3_multiply (l : Launch) (D : va_G) (aC : Nat → ClassId) (ad : Nat → Nat) {Z : State → Prop} (zk : ZOK Z (Rg ad)) {h : PH} {x0 : Nat} {x1 : Int64} {x3 : Int64} {x5 : Int32} {hz : PH} (hf : fX3_multiply h x0 x1 x3 x5 = some hz) : CM l D aC Z yX3_multiply cX3_multiply 6 (none) 1 31 0 0 (EX D aC ad h) [.ref (ad x0), .long x1, .long x3, .int x5] (EX D aC ad hz) none (Rg ad) := by
  refine CM.of rfl ?_
  intro p e s m below meth c b hr hlk hin2 zs hE
  refine k_ent (Nat.le_of_ble_eq_true rfl) (fun ls hl => ?_)
  exact wfX3_multiply_0 b hlk hr zs zk hf hE (lv_sub hl [0, 1, 2, 3] rfl)
theorem dX3_against_0 : decode cX3_against 0 = .ok (.aload_n 0, 1) := by decide +kernel
theorem dX3_against_1 : decode cX3_against 1 = .ok (.getfield 13, 3) := by decide +kernel
theorem dX3_against_4 : decode cX3_against 4 = .ok (.aload_n 1, 1) := by decide +kernel
theorem dX3_against_5 : decode cX3_against 5 = .ok (.getfield 7, 3) := by decide +kernel
theorem dX3_against_8 : decode cX3_against 8 = .ok (.lmul, 1) := by decide +kernel
theorem dX3_against_9 : decode cX3_against 9 = .ok (.aload_n 1, 1) := by decide +kernel
theorem dX3_against_10 : decode cX3_against 10 = .ok (.getfield 13, 3) := by decide +kernel
theorem dX3_against_13 : decode cX3_against 13 = .ok (.aload_n 0, 1) := by decide +kernel
theorem dX3_against_14 : decode cX3_against 14 = .ok (.getfield 7, 3) := by decide +kernel
theorem dX3_against_17 : decode cX3_against 17 = .ok (.lmul, 1) := by decide +kernel
theorem dX3_against_18 : decode cX3_against 18 = .ok (.invokestatic 28, 3) := by decide +kernel
theorem dX3_against_21 : decode cX3_against 21 = .ok (.ireturn, 1) := by decide +kernel
def fX3_against_0  (h : PH) (x0 : Nat) (x1 : Option Nat) : Option (Int32) :=
  oC (decide (hT h x0 = 4)) (oN x1 (fun a2 => oC (decide (hT h a2 = 4)) (oB (fJ13_compare_74951 ((hL h 384 x0) * (hL h 385 a2)) ((hL h 384 a2) * (hL h 385 x0))) (fun r5 => some (r5)))))
set_option maxHeartbeats 4000000 in
theorem wfX3_against_0 {args : Array Value} (b : Bd p s m c cX3_against 2 RX3 D aC) (hlk : meth.locks = false) (hr : meth.sig.returnType = some .int) {Z : State → Prop} (zs : Z s) (zk : ZOK Z (Rg ad)) {rz : Int32} {h : PH} {x0 : Nat} {x1 : Option Nat}  {H : Heap} {locs : List Loc} {ls : Array Slot} (hf : fX3_against_0 h x0 x1 = some rz) (hE : CE (EX D aC ad h) (Rg ad) s H locs) (hl : lv_has ls 2 [(0, .ref (ad x0)), (1, va_rf (Option.map ad x1))]) : W p l e (RM 1 23 0 0) s m args below meth c H locs 0 0 (MQ below (PQ (EX D aC ad h) (Rg ad) (some (.int rz))) args s 0 0 (Rg ad)) (F0 m 0 ls []) := by
  unfold fX3_against_0 at hf
  refine lv_aload_n b.1 b.2.1 dX3_against_0 rfl (lv_at hl 0 rfl) ?_
  obtain ⟨t1, hf⟩ := oC_s hf
  have t1 := of_decide_eq_true t1
  refine gX3_13 (x := (some x0)) b hE rfl t1 dX3_against_1 ?_
  refine k_aload_n (x := Option.map ad x1) b dX3_against_4 rfl (lv_at hl 1 rfl) ?_
  obtain ⟨a2, ea2, hf⟩ := oN_s hf
  obtain ⟨t3, hf⟩ := oC_s hf
  have t3 := of_decide_eq_true t3
  refine gX3_7 (x := x1) b hE ea2 t3 dX3_against_5 ?_
  refine lv_lmul b.1 b.2.1 dX3_against_8 ?_
  refine k_aload_n (x := Option.map ad x1) b dX3_against_9 rfl (lv_at hl 1 rfl) ?_
  refine gX3_13 (x := x1) b hE ea2 t3 dX3_against_10 ?_
  refine lv_aload_n b.1 b.2.1 dX3_against_13 rfl (lv_at hl 0 rfl) ?_
  refine gX3_7 (x := (some x0)) b hE rfl t1 dX3_against_14 ?_
  refine lv_lmul b.1 b.2.1 dX3_against_17 ?_
  obtain ⟨r5, hc4, hf⟩ := oB_s hf
  refine k_callS0 b zs zk hE (CJ13_compare_74951 l D aC zk hc4) mc_J13_compare_74951 (in5 8 rfl rfl) mt_J13_compare_74951 ini_RJ13 ok_J13_compare_74951 ⟨Nat.le_of_ble_eq_true rfl, Nat.le_of_ble_eq_true rfl⟩ rfl hl.1 rfl (k_room _ (by exact Nat.le_of_ble_eq_true rfl)) ⟨Nat.le_refl _, Nat.le_refl _⟩ dX3_against_18 (fun H locs hE => ?_)
  cases hf
  exact k_iret b hlk hr hE (Nat.le_refl _) (Nat.le_refl _) dX3_against_21
def fX3_against (h : PH) (x0 : Nat) (x1 : Option Nat) : Option (Int32) := fX3_against_0 h x0 x1
set_option maxHeartbeats 4000000 in
theorem CX3_against (l : Launch) (D : va_G) (aC : Nat → ClassId) (ad : Nat → Nat) {Z : State → Prop} (zk : ZOK Z (Rg ad)) {h : PH} {x0 : Nat} {x1 : Option Nat} {rz : Int32} (hf : fX3_against h x0 x1 = some rz) : CM l D aC Z yX3_against cX3_against 2 (some .int) 1 23 0 0 (EX D aC ad h) [.ref (ad x0), va_rf (Option.map ad x1)] (EX D aC ad h) (some (.int rz)) (Rg ad) := by
  refine CM.of rfl ?_
  intro p e s m below meth c b hr hlk hin2 zs hE
  cases x1 <;> (
    refine k_ent (Nat.le_of_ble_eq_true rfl) (fun ls hl => ?_)
    exact wfX3_against_0 b hlk hr zs zk hf hE (lv_sub hl [0, 1] rfl))
theorem dX10_init_0 : decode cX10_init 0 = .ok (.aload_n 0, 1) := by decide +kernel
theorem dX10_init_1 : decode cX10_init 1 = .ok (.invokespecial 5, 3) := by decide +kernel
theorem dX10_init_4 : decode cX10_init 4 = .ok (.aload_n 0, 1) := by decide +kernel
theorem dX10_init_5 : decode cX10_init 5 = .ok (.bipush 18, 2) := by decide +kernel
theorem dX10_init_7 : decode cX10_init 7 = .ok (.newarray .long, 2) := by decide +kernel
theorem dX10_init_9 : decode cX10_init 9 = .ok (.putfield 11, 3) := by decide +kernel
theorem dX10_init_12 : decode cX10_init 12 = .ok (.aload_n 0, 1) := by decide +kernel
theorem dX10_init_13 : decode cX10_init 13 = .ok (.iconst 0, 1) := by decide +kernel
theorem dX10_init_14 : decode cX10_init 14 = .ok (.newarray .int, 2) := by decide +kernel
theorem dX10_init_16 : decode cX10_init 16 = .ok (.putfield 15, 3) := by decide +kernel
theorem dX10_init_19 : decode cX10_init 19 = .ok (.aload_n 0, 1) := by decide +kernel
theorem dX10_init_20 : decode cX10_init 20 = .ok (.iconst 0, 1) := by decide +kernel
theorem dX10_init_21 : decode cX10_init 21 = .ok (.newarray .int, 2) := by decide +kernel
theorem dX10_init_23 : decode cX10_init 23 = .ok (.putfield 19, 3) := by decide +kernel
theorem dX10_init_26 : decode cX10_init 26 = .ok (.aload_n 0, 1) := by decide +kernel
theorem dX10_init_27 : decode cX10_init 27 = .ok (.iconst 0, 1) := by decide +kernel
theorem dX10_init_28 : decode cX10_init 28 = .ok (.newarray .long, 2) := by decide +kernel
theorem dX10_init_30 : decode cX10_init 30 = .ok (.putfield 22, 3) := by decide +kernel
theorem dX10_init_33 : decode cX10_init 33 = .ok (.iconst 0, 1) := by decide +kernel
theorem dX10_init_34 : decode cX10_init 34 = .ok (.istore_n 1, 1) := by decide +kernel
theorem dX10_init_35 : decode cX10_init 35 = .ok (.iconst 0, 1) := by decide +kernel
theorem dX10_init_36 : decode cX10_init 36 = .ok (.istore_n 2, 1) := by decide +kernel
theorem dX10_init_37 : decode cX10_init 37 = .ok (.iload_n 2, 1) := by decide +kernel
theorem dX10_init_38 : decode cX10_init 38 = .ok (.ldc 25, 2) := by decide +kernel
theorem dX10_init_40 : decode cX10_init 40 = .ok (.invokevirtual 27, 3) := by decide +kernel
theorem dX10_init_43 : decode cX10_init 43 = .ok (.if_icmp .ge 57, 3) := by decide +kernel
theorem dX10_init_46 : decode cX10_init 46 = .ok (.ldc 25, 2) := by decide +kernel
theorem dX10_init_48 : decode cX10_init 48 = .ok (.iload_n 2, 1) := by decide +kernel
theorem dX10_init_49 : decode cX10_init 49 = .ok (.invokevirtual 33, 3) := by decide +kernel
theorem dX10_init_52 : decode cX10_init 52 = .ok (.istore_n 3, 1) := by decide +kernel
theorem dX10_init_53 : decode cX10_init 53 = .ok (.iload_n 3, 1) := by decide +kernel
theorem dX10_init_54 : decode cX10_init 54 = .ok (.bipush 32, 2) := by decide +kernel
theorem dX10_init_56 : decode cX10_init 56 = .ok (.if_icmp .ne 9, 3) := by decide +kernel
theorem dX10_init_59 : decode cX10_init 59 = .ok (.iinc 1 1, 3) := by decide +kernel
theorem dX10_init_62 : decode cX10_init 62 = .ok (.goto 32, 3) := by decide +kernel
theorem dX10_init_65 : decode cX10_init 65 = .ok (.iload_n 1, 1) := by decide +kernel
theorem dX10_init_66 : decode cX10_init 66 = .ok (.bipush 18, 2) := by decide +kernel
theorem dX10_init_68 : decode cX10_init 68 = .ok (.if_icmp .ge 26, 3) := by decide +kernel
theorem dX10_init_71 : decode cX10_init 71 = .ok (.aload_n 0, 1) := by decide +kernel
theorem dX10_init_72 : decode cX10_init 72 = .ok (.getfield 11, 3) := by decide +kernel
theorem dX10_init_75 : decode cX10_init 75 = .ok (.iload_n 1, 1) := by decide +kernel
theorem dX10_init_76 : decode cX10_init 76 = .ok (.aload_n 0, 1) := by decide +kernel
theorem dX10_init_77 : decode cX10_init 77 = .ok (.getfield 11, 3) := by decide +kernel
theorem dX10_init_80 : decode cX10_init 80 = .ok (.iload_n 1, 1) := by decide +kernel
theorem dX10_init_81 : decode cX10_init 81 = .ok (.laload, 1) := by decide +kernel
theorem dX10_init_82 : decode cX10_init 82 = .ok (.bipush 6, 2) := by decide +kernel
theorem dX10_init_84 : decode cX10_init 84 = .ok (.lshl, 1) := by decide +kernel
theorem dX10_init_85 : decode cX10_init 85 = .ok (.iload_n 3, 1) := by decide +kernel
theorem dX10_init_86 : decode cX10_init 86 = .ok (.bipush 97, 2) := by decide +kernel
theorem dX10_init_88 : decode cX10_init 88 = .ok (.isub, 1) := by decide +kernel
theorem dX10_init_89 : decode cX10_init 89 = .ok (.iconst 1, 1) := by decide +kernel
theorem dX10_init_90 : decode cX10_init 90 = .ok (.iadd, 1) := by decide +kernel
theorem dX10_init_91 : decode cX10_init 91 = .ok (.i2l, 1) := by decide +kernel
theorem dX10_init_92 : decode cX10_init 92 = .ok (.lor, 1) := by decide +kernel
theorem dX10_init_93 : decode cX10_init 93 = .ok (.lastore, 1) := by decide +kernel
theorem dX10_init_94 : decode cX10_init 94 = .ok (.iinc 2 1, 3) := by decide +kernel
theorem dX10_init_97 : decode cX10_init 97 = .ok (.goto (-60), 3) := by decide +kernel
theorem dX10_init_100 : decode cX10_init 100 = .ok (.return_, 1) := by decide +kernel
def fX10_init_94 (k37 : PH → Nat → Int32 → Int32 → Option (PH × Nat × Nat)) (h : PH) (x0 : Nat) (x1 : Int32) (x2 : Int32) : Option (PH × Nat × Nat) :=
  oL (x2 + 1) (fun y1 => k37 h x0 x1 y1)
set_option maxHeartbeats 4000000 in
theorem wfX10_init_94 {mc ms cells slots : Nat} {args : Array Value} (b : Bd p s m c cX10_init 4 RX10 D aC) (hlk : meth.locks = false) (hr : meth.sig.returnType = none) {Z : State → Prop} (zs : Z s) (zk : ZOK Z (Rg ad)) {adK adV : Nat → Nat} (hStr : ∀ U : State, Z U → ZS adK adV (Rg ad) U) (hin2 : meth.name = "<init>") {hz : PH} {k37 : PH → Nat → Int32 → Int32 → Option (PH × Nat × Nat)} (H37 : ∀ (h : PH) (x0 : Nat) (x1 : Int32) (x2 : Int32), ∀ (cells slots kz mz : Nat) (H : Heap) (locs : List Loc) (ls : Array Slot), k37 h x0 x1 x2 = some (hz, kz, mz) → cells + kz ≤ mc → slots + mz ≤ ms → CE (EX D aC ad h) (Rg ad) s H locs → lv_has ls 4 [(0, .ref (ad x0)), (1, .int x1), (2, .int x2)] → W p l e (RM 4 85 mc ms) s m args below meth c H locs cells slots (MQ below (PQ (EX D aC ad hz) (Rg ad) none) args s mc ms (Rg ad)) (F0 m 37 ls [])) {h : PH} {x0 : Nat} {x1 : Int32} {x2 : Int32} {kz : Nat} {mz : Nat}  {H : Heap} {locs : List Loc} {ls : Array Slot} (hf : fX10_init_94 k37 h x0 x1 x2 = some (hz, kz, mz)) (hk : cells + kz ≤ mc) (hs : slots + mz ≤ ms) (hE : CE (EX D aC ad h) (Rg ad) s H locs) (hl : lv_has ls 4 [(0, .ref (ad x0)), (1, .int x1), (2, .int x2)]) : W p l e (RM 4 85 mc ms) s m args below meth c H locs cells slots (MQ below (PQ (EX D aC ad hz) (Rg ad) none) args s mc ms (Rg ad)) (F0 m 94 ls []) := by
  unfold fX10_init_94 at hf
  obtain ⟨y1, ey1, hf⟩ := oL_s hf
  refine lv_iinc (v := y1) (lv' := [(2, .int y1), (0, .ref (ad x0)), (1, .int x1)]) b.1 b.2.1 dX10_init_94 hl (k := 2) rfl (by rw [ey1]; rfl) (by decide) rfl (fun ls hl => ?_)
  refine lv_goto (tgt := 37) b.1 b.2.1 dX10_init_97 (by decide) ?_
  exact H37 h x0 x1 y1 _ _ _ _ _ _ _ hf hk hs hE (lv_sub hl [1, 2, 0] rfl)
def fX10_init_37F (k37 : PH → Nat → Int32 → Int32 → Option (PH × Nat × Nat)) (h : PH) (x0 : Nat) (x1 : Int32) (x2 : Int32) : Option (PH × Nat × Nat) :=
  oB (fJ0_length_8abf5 5) (fun r3 => if r3 ≤ x2 then (some (h, 0, 0)) else (oB (fJ0_charAt_5068e 5 x2) (fun r6 => if r6 = 32 then (oL (x1 + 1) (fun y15 => fX10_init_94 k37 h x0 y15 x2)) else (if 18 ≤ x1 then (fX10_init_94 k37 h x0 x1 x2) else (oC (decide (hT h x0 = 11)) (oN (hR h 1280 x0) (fun a10 => oC (decide (hT h a10 = 102)) (oC (ix x1 (hN h a10)) (oC (ix x1 (hN h a10)) (oL (sB h a10 (Int32.toNatClampNeg x1) (((hB h a10 (Int32.toNatClampNeg x1)) <<< ((6 : Int32).toInt64 &&& 63)) ||| (Int32.toInt64 ((r6 - 97) + 1)))) (fun h14 => fX10_init_94 k37 h14 x0 x1 x2)))))))))))
set_option maxHeartbeats 4000000 in
theorem wfX10_init_37F {mc ms cells slots : Nat} {args : Array Value} (b : Bd p s m c cX10_init 4 RX10 D aC) (hlk : meth.locks = false) (hr : meth.sig.returnType = none) {Z : State → Prop} (zs : Z s) (zk : ZOK Z (Rg ad)) {adK adV : Nat → Nat} (hStr : ∀ U : State, Z U → ZS adK adV (Rg ad) U) (hin2 : meth.name = "<init>") {hz : PH} {k37 : PH → Nat → Int32 → Int32 → Option (PH × Nat × Nat)} (H37 : ∀ (h : PH) (x0 : Nat) (x1 : Int32) (x2 : Int32), ∀ (cells slots kz mz : Nat) (H : Heap) (locs : List Loc) (ls : Array Slot), k37 h x0 x1 x2 = some (hz, kz, mz) → cells + kz ≤ mc → slots + mz ≤ ms → CE (EX D aC ad h) (Rg ad) s H locs → lv_has ls 4 [(0, .ref (ad x0)), (1, .int x1), (2, .int x2)] → W p l e (RM 4 85 mc ms) s m args below meth c H locs cells slots (MQ below (PQ (EX D aC ad hz) (Rg ad) none) args s mc ms (Rg ad)) (F0 m 37 ls [])) {h : PH} {x0 : Nat} {x1 : Int32} {x2 : Int32} {kz : Nat} {mz : Nat}  {H : Heap} {locs : List Loc} {ls : Array Slot} (hf : fX10_init_37F k37 h x0 x1 x2 = some (hz, kz, mz)) (hk : cells + kz ≤ mc) (hs : slots + mz ≤ ms) (hE : CE (EX D aC ad h) (Rg ad) s H locs) (hl : lv_has ls 4 [(0, .ref (ad x0)), (1, .int x1), (2, .int x2)]) : W p l e (RM 4 85 mc ms) s m args below meth c H locs cells slots (MQ below (PQ (EX D aC ad hz) (Rg ad) none) args s mc ms (Rg ad)) (F0 m 37 ls []) := by
  unfold fX10_init_37F at hf
  refine lv_iload_n b.1 b.2.1 dX10_init_37 rfl (lv_at hl 2 rfl) ?_
  refine k_ldcS5 b (hStr s zs) dX10_init_38 ?_
  obtain ⟨r3, hc2, hf⟩ := oB_s hf
  refine k_callV0 (C := RJ0) b zs zk hE (CJ0_length_8abf5 l D aC zk hStr hc2) mc_J0_length_8abf5 (in1 161 rfl rfl) mi_J0_length_8abf5 ms_J0_length_8abf5 ini_RJ0 ok_J0_length_8abf5 (vk_recv (hStr s zs).1 (sl_lt hc2) hE.2) ⟨Nat.le_of_ble_eq_true rfl, Nat.le_of_ble_eq_true rfl⟩ rfl hl.1 rfl (k_room _ (by exact Nat.le_of_ble_eq_true rfl)) ⟨le_0 hk, le_0 hs⟩ dX10_init_40 (fun H locs hE => ?_)
  refine lv_icmp_ge (tgt := 100) b.1 b.2.1 dX10_init_43 (by decide) (fun c4 => ?_) (fun c4 => ?_)
  · have hf := oI_t c4 hf
    cases hf
    exact k_vret b hlk hr hE (le_c hk) (le_c hs) dX10_init_100
  · have hf := oI_f c4 hf
    refine k_ldcS5 b (hStr s zs) dX10_init_46 ?_
    refine lv_iload_n b.1 b.2.1 dX10_init_48 rfl (lv_at hl 2 rfl) ?_
    obtain ⟨r6, hc5, hf⟩ := oB_s hf
    refine k_callV0 (C := RJ0) b zs zk hE (CJ0_charAt_5068e l D aC zk hStr hc5) mc_J0_charAt_5068e (in1 171 rfl rfl) mi_J0_charAt_5068e ms_J0_charAt_5068e ini_RJ0 ok_J0_charAt_5068e (vk_recv (hStr s zs).1 (sc_lt hc5) hE.2) ⟨Nat.le_of_ble_eq_true rfl, Nat.le_of_ble_eq_true rfl⟩ rfl hl.1 rfl (k_room _ (by exact Nat.le_of_ble_eq_true rfl)) ⟨le_0 hk, le_0 hs⟩ dX10_init_49 (fun H locs hE => ?_)
    refine lv_istore_n (lv' := [(3, .int r6), (0, .ref (ad x0)), (1, .int x1), (2, .int x2)]) b.1 b.2.1 dX10_init_52 rfl hl (by decide) rfl (fun ls hl => ?_)
    refine lv_iload_n b.1 b.2.1 dX10_init_53 rfl (lv_at hl 0 rfl) ?_
    refine lv_bipush (v := 32) b.1 b.2.1 dX10_init_54 (by decide) ?_
    refine lv_icmp_ne (tgt := 65) b.1 b.2.1 dX10_init_56 (by decide) (fun c7 => ?_) (fun c7 => ?_)
    · have hf := oI_f c7 hf
      refine lv_iload_n b.1 b.2.1 dX10_init_65 rfl (lv_at hl 2 rfl) ?_
      refine lv_bipush (v := 18) b.1 b.2.1 dX10_init_66 (by decide) ?_
      refine lv_icmp_ge (tgt := 94) b.1 b.2.1 dX10_init_68 (by decide) (fun c8 => ?_) (fun c8 => ?_)
      · have hf := oI_t c8 hf
        exact wfX10_init_94 b hlk hr zs zk hStr hin2 H37 hf hk hs hE (lv_sub hl [1, 2, 3] rfl)
      · have hf := oI_f c8 hf
        refine lv_aload_n b.1 b.2.1 dX10_init_71 rfl (lv_at hl 1 rfl) ?_
        obtain ⟨t9, hf⟩ := oC_s hf
        have t9 := of_decide_eq_true t9
        refine gX10_11 (x := (some x0)) b hE rfl t9 dX10_init_72 ?_
        refine lv_iload_n b.1 b.2.1 dX10_init_75 rfl (lv_at hl 2 rfl) ?_
        refine lv_aload_n b.1 b.2.1 dX10_init_76 rfl (lv_at hl 1 rfl) ?_
        refine gX10_11 (x := (some x0)) b hE rfl t9 dX10_init_77 ?_
        refine lv_iload_n b.1 b.2.1 dX10_init_80 rfl (lv_at hl 2 rfl) ?_
        obtain ⟨a10, ea10, hf⟩ := oN_s hf
        obtain ⟨t11, hf⟩ := oC_s hf
        have t11 := of_decide_eq_true t11
        obtain ⟨g12, hf⟩ := oC_s hf
        refine q_lald (x := (hR h 1280 x0)) b hE ea10 t11 g12 dX10_init_81 ?_
        refine lv_bipush (v := 6) b.1 b.2.1 dX10_init_82 (by decide) ?_
        refine lv_lshl b.1 b.2.1 dX10_init_84 rfl ?_
        refine lv_iload_n b.1 b.2.1 dX10_init_85 rfl (lv_at hl 0 rfl) ?_
        refine lv_bipush (v := 97) b.1 b.2.1 dX10_init_86 (by decide) ?_
        refine lv_isub b.1 b.2.1 dX10_init_88 ?_
        refine lv_iconst (v := 1) b.1 b.2.1 dX10_init_89 (by decide) ?_
        refine lv_iadd b.1 b.2.1 dX10_init_90 ?_
        refine lv_i2l b.1 b.2.1 dX10_init_91 rfl ?_
        refine lv_lor b.1 b.2.1 dX10_init_92 ?_
        obtain ⟨g13, hf⟩ := oC_s hf
        obtain ⟨h14, eh14, hf⟩ := oL_s hf
        refine q_last (x := (hR h 1280 x0)) b hE ea10 t11 g13 eh14 dX10_init_93 (fun H locs hE => ?_)
        exact wfX10_init_94 b hlk hr zs zk hStr hin2 H37 hf hk hs hE (lv_sub hl [1, 2, 3] rfl)
    · have hf := oI_t c7 hf
      obtain ⟨y15, ey15, hf⟩ := oL_s hf
      refine lv_iinc (v := y15) (lv' := [(1, .int y15), (3, .int r6), (0, .ref (ad x0)), (2, .int x2)]) b.1 b.2.1 dX10_init_59 hl (k := 2) rfl (by rw [ey15]; rfl) (by decide) rfl (fun ls hl => ?_)
      refine lv_goto (tgt := 94) b.1 b.2.1 dX10_init_62 (by decide) ?_
      exact wfX10_init_94 b hlk hr zs zk hStr hin2 H37 hf hk hs hE (lv_sub hl [2, 0, 3] rfl)
def fX10_init_37  : Nat → PH → Nat → Int32 → Int32 → Option (PH × Nat × Nat)
  | 0 => fun _ _ _ _ => none
  | n + 1 => fX10_init_37F  (fX10_init_37  n)
set_option maxHeartbeats 4000000 in
theorem wfX10_init_37 {mc ms : Nat} {args : Array Value} (b : Bd p s m c cX10_init 4 RX10 D aC) (hlk : meth.locks = false) (hr : meth.sig.returnType = none) {Z : State → Prop} (zs : Z s) (zk : ZOK Z (Rg ad)) {adK adV : Nat → Nat} (hStr : ∀ U : State, Z U → ZS adK adV (Rg ad) U) (hin2 : meth.name = "<init>") {hz : PH} : ∀ n : Nat, ∀ (h : PH) (x0 : Nat) (x1 : Int32) (x2 : Int32), ∀ (cells slots kz mz : Nat) (H : Heap) (locs : List Loc) (ls : Array Slot), fX10_init_37  n h x0 x1 x2 = some (hz, kz, mz) → cells + kz ≤ mc → slots + mz ≤ ms → CE (EX D aC ad h) (Rg ad) s H locs → lv_has ls 4 [(0, .ref (ad x0)), (1, .int x1), (2, .int x2)] → W p l e (RM 4 85 mc ms) s m args below meth c H locs cells slots (MQ below (PQ (EX D aC ad hz) (Rg ad) none) args s mc ms (Rg ad)) (F0 m 37 ls []) := by
  intro n
  induction n with
  | zero =>
    intro h x0 x1 x2 cells slots kz mz H locs ls hf
    have hf : (none : Option (PH × Nat × Nat)) = some _ := hf
    cases hf
  | succ n ih =>
    intro h x0 x1 x2 cells slots kz mz H locs ls hf hk hs hE hl
    exact wfX10_init_37F b hlk hr zs zk hStr hin2  ih hf hk hs hE hl
def fX10_init_0  (h : PH) (x0 : Nat) : Option (PH × Nat × Nat) :=
  oL (nA h 102 (Int32.toNatClampNeg 18)) (fun h18 => oK3 1 (Int32.toNatClampNeg 18) (oC (decide (hT h18 x0 = 11)) (oL (sR h18 1280 x0 (some (hZ h))) (fun h21 => oL (nA h21 101 (Int32.toNatClampNeg 0)) (fun h26 => oK3 1 (Int32.toNatClampNeg 0) (oL (sR h26 1281 x0 (some (hZ h21))) (fun h30 => oL (nA h30 101 (Int32.toNatClampNeg 0)) (fun h36 => oK3 1 (Int32.toNatClampNeg 0) (oL (sR h36 1282 x0 (some (hZ h30))) (fun h41 => oL (nA h41 102 (Int32.toNatClampNeg 0)) (fun h48 => oK3 1 (Int32.toNatClampNeg 0) (oL (sR h48 1283 x0 (some (hZ h41))) (fun h54 => fX10_init_37  FU h54 x0 0 0)))))))))))))
set_option maxHeartbeats 4000000 in
theorem wfX10_init_0 {mc ms cells slots : Nat} {args : Array Value} (b : Bd p s m c cX10_init 4 RX10 D aC) (hlk : meth.locks = false) (hr : meth.sig.returnType = none) {Z : State → Prop} (zs : Z s) (zk : ZOK Z (Rg ad)) {adK adV : Nat → Nat} (hStr : ∀ U : State, Z U → ZS adK adV (Rg ad) U) (hin2 : meth.name = "<init>") {hz : PH} {h : PH} {x0 : Nat} {kz : Nat} {mz : Nat}  {H : Heap} {locs : List Loc} {ls : Array Slot} (hf : fX10_init_0 h x0 = some (hz, kz, mz)) (hk : cells + kz ≤ mc) (hs : slots + mz ≤ ms) (hE : CE (EX D aC ad h) (Rg ad) s H locs) (hl : lv_has ls 4 [(0, .ref (ad x0))]) : W p l e (RM 4 85 mc ms) s m args below meth c H locs cells slots (MQ below (PQ (EX D aC ad hz) (Rg ad) none) args s mc ms (Rg ad)) (F0 m 0 ls []) := by
  unfold fX10_init_0 at hf
  refine lv_aload_n b.1 b.2.1 dX10_init_0 rfl (lv_at hl 0 rfl) ?_
  refine k_objInit b (in1 159 rfl rfl) objI objC hl.1 ⟨Nat.le_of_ble_eq_true rfl, Nat.le_of_ble_eq_true rfl⟩ (Nat.le_of_ble_eq_true rfl) dX10_init_1 ?_
  refine lv_aload_n b.1 b.2.1 dX10_init_4 rfl (lv_at hl 0 rfl) ?_
  refine lv_bipush (v := 18) b.1 b.2.1 dX10_init_5 (by decide) ?_
  obtain ⟨h18, eh18, hf⟩ := oL_s hf
  obtain ⟨i16, j17, ei16, ej17, hf⟩ := oK3_s hf
  have t19 := tg_nA0 eh18
  refine q_newa2 b hE (in1 74 rfl rfl) (by decide) (by decide) (le_room hk ei16) (le_room hs ej17) eh18 dX10_init_7 (fun H hE => ?_)
  have hk := le_step hk ei16
  have hs := le_step hs ej17
  obtain ⟨t20, hf⟩ := oC_s hf
  have t20 := of_decide_eq_true t20
  obtain ⟨h21, eh21, hf⟩ := oL_s hf
  refine pX10_11 (x := (some x0)) (v := (some (hZ h))) b hin2 hE rfl t20 eh21 dX10_init_9 (fun H locs hE => ?_)
  refine lv_aload_n b.1 b.2.1 dX10_init_12 rfl (lv_at hl 0 rfl) ?_
  refine lv_iconst (v := 0) b.1 b.2.1 dX10_init_13 (by decide) ?_
  have t22 := tg_sR eh21 t19
  have t23 := tg_sR eh21 t20
  obtain ⟨h26, eh26, hf⟩ := oL_s hf
  obtain ⟨i24, j25, ei24, ej25, hf⟩ := oK3_s hf
  have t27 := tg_nA (t := 101) hE eh26 t22
  have t28 := tg_nA (t := 10) hE eh26 t23
  have t29 := tg_nA0 eh26
  refine q_newa1 b hE (in1 147 rfl rfl) (by decide) (by decide) (le_room hk ei24) (le_room hs ej25) eh26 dX10_init_14 (fun H hE => ?_)
  have hk := le_step hk ei24
  have hs := le_step hs ej25
  obtain ⟨h30, eh30, hf⟩ := oL_s hf
  refine pX10_15 (x := (some x0)) (v := (some (hZ h21))) b hE rfl t28 eh30 dX10_init_16 (fun H locs hE => ?_)
  refine lv_aload_n b.1 b.2.1 dX10_init_19 rfl (lv_at hl 0 rfl) ?_
  refine lv_iconst (v := 0) b.1 b.2.1 dX10_init_20 (by decide) ?_
  have t31 := tg_sR eh30 t27
  have t32 := tg_sR eh30 t28
  have t33 := tg_sR eh30 t29
  obtain ⟨h36, eh36, hf⟩ := oL_s hf
  obtain ⟨i34, j35, ei34, ej35, hf⟩ := oK3_s hf
  have t37 := tg_nA (t := 101) hE eh36 t31
  have t38 := tg_nA (t := 10) hE eh36 t32
  have t39 := tg_nA (t := 100) hE eh36 t33
  have t40 := tg_nA0 eh36
  refine q_newa1 b hE (in1 147 rfl rfl) (by decide) (by decide) (le_room hk ei34) (le_room hs ej35) eh36 dX10_init_21 (fun H hE => ?_)
  have hk := le_step hk ei34
  have hs := le_step hs ej35
  obtain ⟨h41, eh41, hf⟩ := oL_s hf
  refine pX10_19 (x := (some x0)) (v := (some (hZ h30))) b hE rfl t38 eh41 dX10_init_23 (fun H locs hE => ?_)
  refine lv_aload_n b.1 b.2.1 dX10_init_26 rfl (lv_at hl 0 rfl) ?_
  refine lv_iconst (v := 0) b.1 b.2.1 dX10_init_27 (by decide) ?_
  have t42 := tg_sR eh41 t37
  have t43 := tg_sR eh41 t38
  have t44 := tg_sR eh41 t39
  have t45 := tg_sR eh41 t40
  obtain ⟨h48, eh48, hf⟩ := oL_s hf
  obtain ⟨i46, j47, ei46, ej47, hf⟩ := oK3_s hf
  have t49 := tg_nA (t := 101) hE eh48 t42
  have t50 := tg_nA (t := 10) hE eh48 t43
  have t51 := tg_nA (t := 100) hE eh48 t44
  have t52 := tg_nA (t := 100) hE eh48 t45
  have t53 := tg_nA0 eh48
  refine q_newa2 b hE (in1 74 rfl rfl) (by decide) (by decide) (le_room hk ei46) (le_room hs ej47) eh48 dX10_init_28 (fun H hE => ?_)
  have hk := le_step hk ei46
  have hs := le_step hs ej47
  obtain ⟨h54, eh54, hf⟩ := oL_s hf
  refine pX10_22 (x := (some x0)) (v := (some (hZ h41))) b hE rfl t50 eh54 dX10_init_30 (fun H locs hE => ?_)
  refine lv_iconst (v := 0) b.1 b.2.1 dX10_init_33 (by decide) ?_
  refine lv_istore_n (lv' := [(1, .int 0), (0, .ref (ad x0))]) b.1 b.2.1 dX10_init_34 rfl hl (by decide) rfl (fun ls hl => ?_)
  refine lv_iconst (v := 0) b.1 b.2.1 dX10_init_35 (by decide) ?_
  refine lv_istore_n (lv' := [(2, .int 0), (1, .int 0), (0, .ref (ad x0))]) b.1 b.2.1 dX10_init_36 rfl hl (by decide) rfl (fun ls hl => ?_)
  exact wfX10_init_37 b hlk hr zs zk hStr hin2  FU h54 x0 0 0 _ _ _ _ _ _ _ hf hk hs hE (lv_sub hl [2, 1, 0] rfl)
def fX10_init (h : PH) (x0 : Nat) : Option (PH × Nat × Nat) := fX10_init_0 h x0
set_option maxHeartbeats 4000000 in
theorem CX10_init (l : Launch) (D : va_G) (aC : Nat → ClassId) (ad : Nat → Nat) {Z : State → Prop} (zk : ZOK Z (Rg ad)) {adK adV : Nat → Nat} (hStr : ∀ U : State, Z U → ZS adK adV (Rg ad) U) {h : PH} {x0 : Nat} {hz : PH} {kz : Nat} {mz : Nat} (hf : fX10_init h x0 = some (hz, kz, mz)) : CM l D aC Z yX10_init cX10_init 4 (none) 4 85 kz mz (EX D aC ad h) [.ref (ad x0)] (EX D aC ad hz) none (Rg ad) := by
  refine CM.of rfl ?_
  intro p e s m below meth c b hr hlk hin2 zs hE
  refine k_ent (Nat.le_of_ble_eq_true rfl) (fun ls hl => ?_)
  exact wfX10_init_0 b hlk hr zs zk hStr hin2 hf (by omega) (by omega) hE (lv_sub hl [0] rfl)
end
