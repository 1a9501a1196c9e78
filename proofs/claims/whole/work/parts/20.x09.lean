section
variable {p : Program} {l : Launch} {e : Env} {s : State} {m : MethodId} {below : List Frame} {meth : Method} {c : Code} {D : va_G} {aC : Nat → ClassId} {ad : Nat → Nat}
theorem dX4_literal_0 : decode cX4_literal 0 = .ok (.aload_n 1, 1) := by decide +kernel
theorem dX4_literal_1 : decode cX4_literal 1 = .ok (.sipush 260, 3) := by decide +kernel
theorem dX4_literal_4 : decode cX4_literal 4 = .ok (.putfield 225, 3) := by decide +kernel
theorem dX4_literal_7 : decode cX4_literal 7 = .ok (.aload_n 1, 1) := by decide +kernel
theorem dX4_literal_8 : decode cX4_literal 8 = .ok (.aload_n 0, 1) := by decide +kernel
theorem dX4_literal_9 : decode cX4_literal 9 = .ok (.sipush 317, 3) := by decide +kernel
theorem dX4_literal_12 : decode cX4_literal 12 = .ok (.invokevirtual 120, 3) := by decide +kernel
theorem dX4_literal_15 : decode cX4_literal 15 = .ok (.ifCond .ne 7, 3) := by decide +kernel
theorem dX4_literal_18 : decode cX4_literal 18 = .ok (.iconst 1, 1) := by decide +kernel
theorem dX4_literal_19 : decode cX4_literal 19 = .ok (.goto 4, 3) := by decide +kernel
theorem dX4_literal_22 : decode cX4_literal 22 = .ok (.iconst 0, 1) := by decide +kernel
theorem dX4_literal_23 : decode cX4_literal 23 = .ok (.putfield 228, 3) := by decide +kernel
theorem dX4_literal_26 : decode cX4_literal 26 = .ok (.aload_n 0, 1) := by decide +kernel
theorem dX4_literal_27 : decode cX4_literal 27 = .ok (.getfield 155, 3) := by decide +kernel
theorem dX4_literal_30 : decode cX4_literal 30 = .ok (.istore_n 2, 1) := by decide +kernel
theorem dX4_literal_31 : decode cX4_literal 31 = .ok (.aload_n 0, 1) := by decide +kernel
theorem dX4_literal_32 : decode cX4_literal 32 = .ok (.aload_n 0, 1) := by decide +kernel
theorem dX4_literal_33 : decode cX4_literal 33 = .ok (.getfield 25, 3) := by decide +kernel
theorem dX4_literal_36 : decode cX4_literal 36 = .ok (.getfield 183, 3) := by decide +kernel
theorem dX4_literal_39 : decode cX4_literal 39 = .ok (.invokevirtual 231, 3) := by decide +kernel
theorem dX4_literal_42 : decode cX4_literal 42 = .ok (.istore_n 3, 1) := by decide +kernel
theorem dX4_literal_43 : decode cX4_literal 43 = .ok (.iconst 0, 1) := by decide +kernel
theorem dX4_literal_44 : decode cX4_literal 44 = .ok (.istore 4, 2) := by decide +kernel
theorem dX4_literal_46 : decode cX4_literal 46 = .ok (.aload_n 1, 1) := by decide +kernel
theorem dX4_literal_47 : decode cX4_literal 47 = .ok (.iload_n 3, 1) := by decide +kernel
theorem dX4_literal_48 : decode cX4_literal 48 = .ok (.putfield 234, 3) := by decide +kernel
theorem dX4_literal_51 : decode cX4_literal 51 = .ok (.aload_n 1, 1) := by decide +kernel
theorem dX4_literal_52 : decode cX4_literal 52 = .ok (.iconst 0, 1) := by decide +kernel
theorem dX4_literal_53 : decode cX4_literal 53 = .ok (.putfield 237, 3) := by decide +kernel
theorem dX4_literal_56 : decode cX4_literal 56 = .ok (.aload_n 1, 1) := by decide +kernel
theorem dX4_literal_57 : decode cX4_literal 57 = .ok (.iconst 0, 1) := by decide +kernel
theorem dX4_literal_58 : decode cX4_literal 58 = .ok (.putfield 240, 3) := by decide +kernel
theorem dX4_literal_61 : decode cX4_literal 61 = .ok (.aload_n 0, 1) := by decide +kernel
theorem dX4_literal_62 : decode cX4_literal 62 = .ok (.bipush 40, 2) := by decide +kernel
theorem dX4_literal_64 : decode cX4_literal 64 = .ok (.invokevirtual 120, 3) := by decide +kernel
theorem dX4_literal_67 : decode cX4_literal 67 = .ok (.ifCond .eq 41, 3) := by decide +kernel
theorem dX4_literal_70 : decode cX4_literal 70 = .ok (.aload_n 1, 1) := by decide +kernel
theorem dX4_literal_71 : decode cX4_literal 71 = .ok (.aload_n 0, 1) := by decide +kernel
theorem dX4_literal_72 : decode cX4_literal 72 = .ok (.invokevirtual 243, 3) := by decide +kernel
theorem dX4_literal_75 : decode cX4_literal 75 = .ok (.putfield 237, 3) := by decide +kernel
theorem dX4_literal_78 : decode cX4_literal 78 = .ok (.iconst 1, 1) := by decide +kernel
theorem dX4_literal_79 : decode cX4_literal 79 = .ok (.istore 4, 2) := by decide +kernel
theorem dX4_literal_81 : decode cX4_literal 81 = .ok (.aload_n 0, 1) := by decide +kernel
theorem dX4_literal_82 : decode cX4_literal 82 = .ok (.bipush 44, 2) := by decide +kernel
theorem dX4_literal_84 : decode cX4_literal 84 = .ok (.invokevirtual 120, 3) := by decide +kernel
theorem dX4_literal_87 : decode cX4_literal 87 = .ok (.ifCond .eq 14, 3) := by decide +kernel
theorem dX4_literal_90 : decode cX4_literal 90 = .ok (.aload_n 1, 1) := by decide +kernel
theorem dX4_literal_91 : decode cX4_literal 91 = .ok (.aload_n 0, 1) := by decide +kernel
theorem dX4_literal_92 : decode cX4_literal 92 = .ok (.invokevirtual 243, 3) := by decide +kernel
theorem dX4_literal_95 : decode cX4_literal 95 = .ok (.putfield 240, 3) := by decide +kernel
theorem dX4_literal_98 : decode cX4_literal 98 = .ok (.iconst 2, 1) := by decide +kernel
theorem dX4_literal_99 : decode cX4_literal 99 = .ok (.istore 4, 2) := by decide +kernel
theorem dX4_literal_101 : decode cX4_literal 101 = .ok (.aload_n 0, 1) := by decide +kernel
theorem dX4_literal_102 : decode cX4_literal 102 = .ok (.bipush 41, 2) := by decide +kernel
theorem dX4_literal_104 : decode cX4_literal 104 = .ok (.invokevirtual 63, 3) := by decide +kernel
theorem dX4_literal_107 : decode cX4_literal 107 = .ok (.pop, 1) := by decide +kernel
theorem dX4_literal_108 : decode cX4_literal 108 = .ok (.iload_n 3, 1) := by decide +kernel
theorem dX4_literal_109 : decode cX4_literal 109 = .ok (.iconst (-1), 1) := by decide +kernel
theorem dX4_literal_110 : decode cX4_literal 110 = .ok (.if_icmp .eq 22, 3) := by decide +kernel
theorem dX4_literal_113 : decode cX4_literal 113 = .ok (.aload_n 0, 1) := by decide +kernel
theorem dX4_literal_114 : decode cX4_literal 114 = .ok (.getfield 25, 3) := by decide +kernel
theorem dX4_literal_117 : decode cX4_literal 117 = .ok (.iload_n 3, 1) := by decide +kernel
theorem dX4_literal_118 : decode cX4_literal 118 = .ok (.invokevirtual 247, 3) := by decide +kernel
theorem dX4_literal_121 : decode cX4_literal 121 = .ok (.iload 4, 2) := by decide +kernel
theorem dX4_literal_123 : decode cX4_literal 123 = .ok (.if_icmp .eq 9, 3) := by decide +kernel
theorem dX4_literal_126 : decode cX4_literal 126 = .ok (.aload_n 0, 1) := by decide +kernel
theorem dX4_literal_127 : decode cX4_literal 127 = .ok (.iconst 5, 1) := by decide +kernel
theorem dX4_literal_128 : decode cX4_literal 128 = .ok (.iload_n 2, 1) := by decide +kernel
theorem dX4_literal_129 : decode cX4_literal 129 = .ok (.invokevirtual 166, 3) := by decide +kernel
theorem dX4_literal_132 : decode cX4_literal 132 = .ok (.return_, 1) := by decide +kernel
def fX4_literal_108  (h : PH) (x0 : Nat) (x2 : Int32) (x3 : Int32) (x4 : Int32) : Option (PH) :=
  if x3 = (-1) then (some (h)) else (oC (decide (hT h x0 = 5)) (oN (hR h 512 x0) (fun a3 => oC (decide (hT h a3 = 2)) (oB (fX1_placesOf h a3 x3) (fun r6 => if r6 = x4 then (some (h)) else (oB (fX4_note h x0 5 x2) (fun h9 => some (h9))))))))
set_option maxHeartbeats 4000000 in
theorem wfX4_literal_108 {args : Array Value} (b : Bd p s m c cX4_literal 5 RX4 D aC) (hlk : meth.locks = false) (hr : meth.sig.returnType = none) {Z : State → Prop} (zs : Z s) (zk : ZOK Z (Rg ad)) {hz : PH} {h : PH} {x0 : Nat} {x2 : Int32} {x3 : Int32} {x4 : Int32}  {H : Heap} {locs : List Loc} {ls : Array Slot} (hf : fX4_literal_108 h x0 x2 x3 x4 = some hz) (hE : CE (EX D aC ad h) (Rg ad) s H locs) (hl : lv_has ls 5 [(0, .ref (ad x0)), (2, .int x2), (3, .int x3), (4, .int x4)]) : W p l e (RM 3 66 0 0) s m args below meth c H locs 0 0 (MQ below (PQ (EX D aC ad hz) (Rg ad) none) args s 0 0 (Rg ad)) (F0 m 108 ls []) := by
  unfold fX4_literal_108 at hf
  refine lv_iload_n b.1 b.2.1 dX4_literal_108 rfl (lv_at hl 2 rfl) ?_
  refine lv_iconst (v := (-1)) b.1 b.2.1 dX4_literal_109 (by decide) ?_
  refine lv_icmp_eq (tgt := 132) b.1 b.2.1 dX4_literal_110 (by decide) (fun c1 => ?_) (fun c1 => ?_)
  · have hf := oI_t c1 hf
    cases hf
    exact k_vret b hlk hr hE (Nat.le_refl _) (Nat.le_refl _) dX4_literal_132
  · have hf := oI_f c1 hf
    refine lv_aload_n b.1 b.2.1 dX4_literal_113 rfl (lv_at hl 0 rfl) ?_
    obtain ⟨t2, hf⟩ := oC_s hf
    have t2 := of_decide_eq_true t2
    refine gX4_25 (x := (some x0)) b hE rfl t2 dX4_literal_114 ?_
    refine lv_iload_n b.1 b.2.1 dX4_literal_117 rfl (lv_at hl 2 rfl) ?_
    obtain ⟨a3, ea3, hf⟩ := oN_s hf
    obtain ⟨t4, hf⟩ := oC_s hf
    have t4 := of_decide_eq_true t4
    obtain ⟨r6, hc5, hf⟩ := oB_s hf
    refine k_stk [.int x3] ea3 ?_
    refine k_callV0 (C := RX1) b zs zk hE (CX1_placesOf l D aC ad zk hc5) mc_X1_placesOf (in3 115 rfl rfl) mi_X1_placesOf ms_X1_placesOf ini_RX1 ok_X1_placesOf (x_recv b hE (ci := 1) rfl (by decide) t4) ⟨Nat.le_of_ble_eq_true rfl, Nat.le_of_ble_eq_true rfl⟩ rfl hl.1 rfl (k_room _ (by exact Nat.le_of_ble_eq_true rfl)) ⟨Nat.le_refl _, Nat.le_refl _⟩ dX4_literal_118 (fun H locs hE => ?_)
    refine lv_iload b.1 b.2.1 dX4_literal_121 (lv_at hl 3 rfl) ?_
    refine lv_icmp_eq (tgt := 132) b.1 b.2.1 dX4_literal_123 (by decide) (fun c7 => ?_) (fun c7 => ?_)
    · have hf := oI_t c7 hf
      cases hf
      exact k_vret b hlk hr hE (Nat.le_refl _) (Nat.le_refl _) dX4_literal_132
    · have hf := oI_f c7 hf
      refine lv_aload_n b.1 b.2.1 dX4_literal_126 rfl (lv_at hl 0 rfl) ?_
      refine lv_iconst (v := 5) b.1 b.2.1 dX4_literal_127 (by decide) ?_
      refine lv_iload_n b.1 b.2.1 dX4_literal_128 rfl (lv_at hl 1 rfl) ?_
      obtain ⟨h9, hc8, hf⟩ := oB_s hf
      refine k_callV0 (C := RX4) b zs zk hE (CX4_note l D aC ad zk hc8) mc_X4_note (in2 199 rfl rfl) mi_X4_note ms_X4_note ini_RX4 ok_X4_note (x_recv b hE (ci := 4) rfl (by decide) t2) ⟨Nat.le_of_ble_eq_true rfl, Nat.le_of_ble_eq_true rfl⟩ rfl hl.1 rfl (k_room _ (by exact Nat.le_of_ble_eq_true rfl)) ⟨Nat.le_refl _, Nat.le_refl _⟩ dX4_literal_129 (fun H locs hE => ?_)
      cases hf
      exact k_vret b hlk hr hE (Nat.le_refl _) (Nat.le_refl _) dX4_literal_132
def fX4_literal_101  (h : PH) (x0 : Nat) (x2 : Int32) (x3 : Int32) (x4 : Int32) : Option (PH) :=
  oC (decide (hT h x0 = 5)) (oB2 (fX4_expect h x0 41) (fun h13 r12 => fX4_literal_108  h13 x0 x2 x3 x4))
set_option maxHeartbeats 4000000 in
theorem wfX4_literal_101 {args : Array Value} (b : Bd p s m c cX4_literal 5 RX4 D aC) (hlk : meth.locks = false) (hr : meth.sig.returnType = none) {Z : State → Prop} (zs : Z s) (zk : ZOK Z (Rg ad)) {hz : PH} {h : PH} {x0 : Nat} {x2 : Int32} {x3 : Int32} {x4 : Int32}  {H : Heap} {locs : List Loc} {ls : Array Slot} (hf : fX4_literal_101 h x0 x2 x3 x4 = some hz) (hE : CE (EX D aC ad h) (Rg ad) s H locs) (hl : lv_has ls 5 [(0, .ref (ad x0)), (2, .int x2), (3, .int x3), (4, .int x4)]) : W p l e (RM 3 66 0 0) s m args below meth c H locs 0 0 (MQ below (PQ (EX D aC ad hz) (Rg ad) none) args s 0 0 (Rg ad)) (F0 m 101 ls []) := by
  unfold fX4_literal_101 at hf
  refine lv_aload_n b.1 b.2.1 dX4_literal_101 rfl (lv_at hl 0 rfl) ?_
  refine lv_bipush (v := 41) b.1 b.2.1 dX4_literal_102 (by decide) ?_
  obtain ⟨t10, hf⟩ := oC_s hf
  have t10 := of_decide_eq_true t10
  obtain ⟨h13, r12, hc11, hf⟩ := oB2_s hf
  refine k_callV0 (C := RX4) b zs zk hE (CX4_expect l D aC ad zk hc11) mc_X4_expect (in2 179 rfl rfl) mi_X4_expect ms_X4_expect ini_RX4 ok_X4_expect (x_recv b hE (ci := 4) rfl (by decide) t10) ⟨Nat.le_of_ble_eq_true rfl, Nat.le_of_ble_eq_true rfl⟩ rfl hl.1 rfl (k_room _ (by exact Nat.le_of_ble_eq_true rfl)) ⟨Nat.le_refl _, Nat.le_refl _⟩ dX4_literal_104 (fun H locs hE => ?_)
  refine lv_pop b.1 b.2.1 dX4_literal_107 rfl ?_
  exact wfX4_literal_108 b hlk hr zs zk  hf hE (lv_sub hl [0, 1, 2, 3] rfl)
def fX4_literal_23  (h : PH) (x0 : Nat) (x1 : Option Nat) (s0 : Int32) (s1 : Option Nat) : Option (PH) :=
  oC (isB s0) (oN s1 (fun a15 => oC (decide (hT h a15 = 3)) (oL (sI h 258 a15 s0) (fun h17 => oC (decide (hT h17 x0 = 5)) (oL (hI h17 522 x0) (fun y19 => oN (hR h17 512 x0) (fun a20 => oC (decide (hT h17 a20 = 2)) (oB2 (fX4_knownName h17 x0 (hR h17 129 a20)) (fun h24 r23 => oN x1 (fun a25 => oC (decide (hT h24 a25 = 3)) (oL (sI h24 257 a25 r23) (fun h27 => oL (sI h27 259 a25 0) (fun h29 => oL (sI h29 260 a25 0) (fun h31 => oC (decide (hT h31 x0 = 5)) (oB2 (fX4_skip h31 x0 40) (fun h35 r34 => if r34 = 0 then (fX4_literal_108  h35 x0 y19 r23 0) else (oC (decide (hT h35 x0 = 5)) (oB2 (fX4_term h35 x0) (fun h40 r39 => oC (decide (hT h40 a25 = 3)) (oL (sI h40 259 a25 r39) (fun h42 => oC (decide (hT h42 x0 = 5)) (oB2 (fX4_skip h42 x0 44) (fun h46 r45 => if r45 = 0 then (fX4_literal_101  h46 x0 y19 r23 1) else (oC (decide (hT h46 x0 = 5)) (oB2 (fX4_term h46 x0) (fun h51 r50 => oC (decide (hT h51 a25 = 3)) (oL (sI h51 260 a25 r50) (fun h53 => fX4_literal_101  h53 x0 y19 r23 2))))))))))))))))))))))))))))
set_option maxHeartbeats 4000000 in
theorem wfX4_literal_23 {args : Array Value} (b : Bd p s m c cX4_literal 5 RX4 D aC) (hlk : meth.locks = false) (hr : meth.sig.returnType = none) {Z : State → Prop} (zs : Z s) (zk : ZOK Z (Rg ad)) {hz : PH} {h : PH} {x0 : Nat} {x1 : Option Nat} {s0 : Int32} {s1 : Option Nat}  {H : Heap} {locs : List Loc} {ls : Array Slot} (hf : fX4_literal_23 h x0 x1 s0 s1 = some hz) (hE : CE (EX D aC ad h) (Rg ad) s H locs) (hl : lv_has ls 5 [(0, .ref (ad x0)), (1, va_rf (Option.map ad x1))]) : W p l e (RM 3 66 0 0) s m args below meth c H locs 0 0 (MQ below (PQ (EX D aC ad hz) (Rg ad) none) args s 0 0 (Rg ad)) (F0 m 23 ls [.int s0, va_rf (Option.map ad s1)]) := by
  unfold fX4_literal_23 at hf
  obtain ⟨g14, hf⟩ := oC_s hf
  obtain ⟨a15, ea15, hf⟩ := oN_s hf
  obtain ⟨t16, hf⟩ := oC_s hf
  have t16 := of_decide_eq_true t16
  obtain ⟨h17, eh17, hf⟩ := oL_s hf
  refine pX4_228 (x := s1) b hE ea15 t16 g14 eh17 dX4_literal_23 (fun H locs hE => ?_)
  refine lv_aload_n b.1 b.2.1 dX4_literal_26 rfl (lv_at hl 0 rfl) ?_
  obtain ⟨t18, hf⟩ := oC_s hf
  have t18 := of_decide_eq_true t18
  refine gX4_155 (x := (some x0)) b hE rfl t18 dX4_literal_27 ?_
  obtain ⟨y19, ey19, hf⟩ := oL_s hf
  refine k_nmI ey19 ?_
  refine lv_istore_n (lv' := [(2, .int y19), (0, .ref (ad x0)), (1, va_rf (Option.map ad x1))]) b.1 b.2.1 dX4_literal_30 rfl hl (by decide) (by cases x1 <;> rfl) (fun ls hl => ?_)
  refine lv_aload_n b.1 b.2.1 dX4_literal_31 rfl (lv_at hl 1 rfl) ?_
  refine lv_aload_n b.1 b.2.1 dX4_literal_32 rfl (lv_at hl 1 rfl) ?_
  refine gX4_25 (x := (some x0)) b hE rfl t18 dX4_literal_33 ?_
  obtain ⟨a20, ea20, hf⟩ := oN_s hf
  obtain ⟨t21, hf⟩ := oC_s hf
  have t21 := of_decide_eq_true t21
  refine gX4_183 (x := (hR h17 512 x0)) b hE ea20 t21 dX4_literal_36 ?_
  obtain ⟨h24, r23, hc22, hf⟩ := oB2_s hf
  refine k_callV0 (C := RX4) b zs zk hE (CX4_knownName l D aC ad zk hc22) mc_X4_knownName (in3 111 rfl rfl) mi_X4_knownName ms_X4_knownName ini_RX4 ok_X4_knownName (x_recv b hE (ci := 4) rfl (by decide) t18) ⟨Nat.le_of_ble_eq_true rfl, Nat.le_of_ble_eq_true rfl⟩ rfl hl.1 rfl (k_room _ (by exact Nat.le_of_ble_eq_true rfl)) ⟨Nat.le_refl _, Nat.le_refl _⟩ dX4_literal_39 (fun H locs hE => ?_)
  refine lv_istore_n (lv' := [(3, .int r23), (2, .int y19), (0, .ref (ad x0)), (1, va_rf (Option.map ad x1))]) b.1 b.2.1 dX4_literal_42 rfl hl (by decide) rfl (fun ls hl => ?_)
  refine lv_iconst (v := 0) b.1 b.2.1 dX4_literal_43 (by decide) ?_
  refine lv_istore (lv' := [(4, .int 0), (3, .int r23), (2, .int y19), (0, .ref (ad x0)), (1, va_rf (Option.map ad x1))]) b.1 b.2.1 dX4_literal_44 hl (by decide) rfl (fun ls hl => ?_)
  refine k_aload_n (x := Option.map ad x1) b dX4_literal_46 rfl (lv_at hl 4 rfl) ?_
  refine lv_iload_n b.1 b.2.1 dX4_literal_47 rfl (lv_at hl 1 rfl) ?_
  obtain ⟨a25, ea25, hf⟩ := oN_s hf
  obtain ⟨t26, hf⟩ := oC_s hf
  have t26 := of_decide_eq_true t26
  obtain ⟨h27, eh27, hf⟩ := oL_s hf
  refine pX4_234 (x := x1) b hE ea25 t26 eh27 dX4_literal_48 (fun H locs hE => ?_)
  refine k_aload_n (x := Option.map ad x1) b dX4_literal_51 rfl (lv_at hl 4 rfl) ?_
  refine lv_iconst (v := 0) b.1 b.2.1 dX4_literal_52 (by decide) ?_
  have t28 := tg_sI eh27 t26
  obtain ⟨h29, eh29, hf⟩ := oL_s hf
  refine pX4_237 (x := x1) b hE ea25 t28 eh29 dX4_literal_53 (fun H locs hE => ?_)
  refine k_aload_n (x := Option.map ad x1) b dX4_literal_56 rfl (lv_at hl 4 rfl) ?_
  refine lv_iconst (v := 0) b.1 b.2.1 dX4_literal_57 (by decide) ?_
  have t30 := tg_sI eh29 t28
  obtain ⟨h31, eh31, hf⟩ := oL_s hf
  refine pX4_240 (x := x1) b hE ea25 t30 eh31 dX4_literal_58 (fun H locs hE => ?_)
  refine lv_aload_n b.1 b.2.1 dX4_literal_61 rfl (lv_at hl 3 rfl) ?_
  refine lv_bipush (v := 40) b.1 b.2.1 dX4_literal_62 (by decide) ?_
  obtain ⟨t32, hf⟩ := oC_s hf
  have t32 := of_decide_eq_true t32
  obtain ⟨h35, r34, hc33, hf⟩ := oB2_s hf
  refine k_callV0 (C := RX4) b zs zk hE (CX4_skip l D aC ad zk hc33) mc_X4_skip (in3 69 rfl rfl) mi_X4_skip ms_X4_skip ini_RX4 ok_X4_skip (x_recv b hE (ci := 4) rfl (by decide) t32) ⟨Nat.le_of_ble_eq_true rfl, Nat.le_of_ble_eq_true rfl⟩ rfl hl.1 rfl (k_room _ (by exact Nat.le_of_ble_eq_true rfl)) ⟨Nat.le_refl _, Nat.le_refl _⟩ dX4_literal_64 (fun H locs hE => ?_)
  refine lv_if_eq (tgt := 108) b.1 b.2.1 dX4_literal_67 (by decide) (fun c36 => ?_) (fun c36 => ?_)
  · have hf := oI_t c36 hf
    exact wfX4_literal_108 b hlk hr zs zk  hf hE (lv_sub hl [3, 2, 1, 0] rfl)
  · have hf := oI_f c36 hf
    refine k_aload_n (x := Option.map ad x1) b dX4_literal_70 rfl (lv_at hl 4 rfl) ?_
    refine lv_aload_n b.1 b.2.1 dX4_literal_71 rfl (lv_at hl 3 rfl) ?_
    obtain ⟨t37, hf⟩ := oC_s hf
    have t37 := of_decide_eq_true t37
    obtain ⟨h40, r39, hc38, hf⟩ := oB2_s hf
    refine k_callV0 (C := RX4) b zs zk hE (CX4_term l D aC ad zk hc38) mc_X4_term (in3 94 rfl rfl) mi_X4_term ms_X4_term ini_RX4 ok_X4_term (x_recv b hE (ci := 4) rfl (by decide) t37) ⟨Nat.le_of_ble_eq_true rfl, Nat.le_of_ble_eq_true rfl⟩ rfl hl.1 rfl (k_room _ (by exact Nat.le_of_ble_eq_true rfl)) ⟨Nat.le_refl _, Nat.le_refl _⟩ dX4_literal_72 (fun H locs hE => ?_)
    obtain ⟨t41, hf⟩ := oC_s hf
    have t41 := of_decide_eq_true t41
    obtain ⟨h42, eh42, hf⟩ := oL_s hf
    refine pX4_237 (x := x1) b hE ea25 t41 eh42 dX4_literal_75 (fun H locs hE => ?_)
    refine lv_iconst (v := 1) b.1 b.2.1 dX4_literal_78 (by decide) ?_
    refine lv_istore (lv' := [(4, .int 1), (3, .int r23), (2, .int y19), (0, .ref (ad x0)), (1, va_rf (Option.map ad x1))]) b.1 b.2.1 dX4_literal_79 hl (by decide) rfl (fun ls hl => ?_)
    refine lv_aload_n b.1 b.2.1 dX4_literal_81 rfl (lv_at hl 3 rfl) ?_
    refine lv_bipush (v := 44) b.1 b.2.1 dX4_literal_82 (by decide) ?_
    obtain ⟨t43, hf⟩ := oC_s hf
    have t43 := of_decide_eq_true t43
    obtain ⟨h46, r45, hc44, hf⟩ := oB2_s hf
    refine k_callV0 (C := RX4) b zs zk hE (CX4_skip l D aC ad zk hc44) mc_X4_skip (in3 69 rfl rfl) mi_X4_skip ms_X4_skip ini_RX4 ok_X4_skip (x_recv b hE (ci := 4) rfl (by decide) t43) ⟨Nat.le_of_ble_eq_true rfl, Nat.le_of_ble_eq_true rfl⟩ rfl hl.1 rfl (k_room _ (by exact Nat.le_of_ble_eq_true rfl)) ⟨Nat.le_refl _, Nat.le_refl _⟩ dX4_literal_84 (fun H locs hE => ?_)
    refine lv_if_eq (tgt := 101) b.1 b.2.1 dX4_literal_87 (by decide) (fun c47 => ?_) (fun c47 => ?_)
    · have hf := oI_t c47 hf
      exact wfX4_literal_101 b hlk hr zs zk  hf hE (lv_sub hl [3, 2, 1, 0] rfl)
    · have hf := oI_f c47 hf
      refine k_aload_n (x := Option.map ad x1) b dX4_literal_90 rfl (lv_at hl 4 rfl) ?_
      refine lv_aload_n b.1 b.2.1 dX4_literal_91 rfl (lv_at hl 3 rfl) ?_
      obtain ⟨t48, hf⟩ := oC_s hf
      have t48 := of_decide_eq_true t48
      obtain ⟨h51, r50, hc49, hf⟩ := oB2_s hf
      refine k_callV0 (C := RX4) b zs zk hE (CX4_term l D aC ad zk hc49) mc_X4_term (in3 94 rfl rfl) mi_X4_term ms_X4_term ini_RX4 ok_X4_term (x_recv b hE (ci := 4) rfl (by decide) t48) ⟨Nat.le_of_ble_eq_true rfl, Nat.le_of_ble_eq_true rfl⟩ rfl hl.1 rfl (k_room _ (by exact Nat.le_of_ble_eq_true rfl)) ⟨Nat.le_refl _, Nat.le_refl _⟩ dX4_literal_92 (fun H locs hE => ?_)
      obtain ⟨t52, hf⟩ := oC_s hf
      have t52 := of_decide_eq_true t52
      obtain ⟨h53, eh53, hf⟩ := oL_s hf
      refine pX4_240 (x := x1) b hE ea25 t52 eh53 dX4_literal_95 (fun H locs hE => ?_)
      refine lv_iconst (v := 2) b.1 b.2.1 dX4_literal_98 (by decide) ?_
      refine lv_istore (lv' := [(4, .int 2), (3, .int r23), (2, .int y19), (0, .ref (ad x0)), (1, va_rf (Option.map ad x1))]) b.1 b.2.1 dX4_literal_99 hl (by decide) rfl (fun ls hl => ?_)
      have hl := lv_sub (l' := [(4, .int 2), (3, .int r23), (2, .int y19), (0, .ref (ad x0))]) hl [0, 1, 2, 3] rfl
      exact wfX4_literal_101 b hlk hr zs zk  hf hE (lv_sub hl [3, 2, 1, 0] rfl)
def fX4_literal_0  (h : PH) (x0 : Nat) (x1 : Option Nat) : Option (PH) :=
  oN x1 (fun a54 => oC (decide (hT h a54 = 3)) (oL (sI h 256 a54 260) (fun h56 => oC (decide (hT h56 x0 = 5)) (oB2 (fX4_skip h56 x0 317) (fun h60 r59 => if r59 = 0 then (fX4_literal_23  h60 x0 x1 1 x1) else (fX4_literal_23  h60 x0 x1 0 x1))))))
set_option maxHeartbeats 4000000 in
theorem wfX4_literal_0 {args : Array Value} (b : Bd p s m c cX4_literal 5 RX4 D aC) (hlk : meth.locks = false) (hr : meth.sig.returnType = none) {Z : State → Prop} (zs : Z s) (zk : ZOK Z (Rg ad)) {hz : PH} {h : PH} {x0 : Nat} {x1 : Option Nat}  {H : Heap} {locs : List Loc} {ls : Array Slot} (hf : fX4_literal_0 h x0 x1 = some hz) (hE : CE (EX D aC ad h) (Rg ad) s H locs) (hl : lv_has ls 5 [(0, .ref (ad x0)), (1, va_rf (Option.map ad x1))]) : W p l e (RM 3 66 0 0) s m args below meth c H locs 0 0 (MQ below (PQ (EX D aC ad hz) (Rg ad) none) args s 0 0 (Rg ad)) (F0 m 0 ls []) := by
  unfold fX4_literal_0 at hf
  refine k_aload_n (x := Option.map ad x1) b dX4_literal_0 rfl (lv_at hl 1 rfl) ?_
  refine lv_sipush (v := 260) b.1 b.2.1 dX4_literal_1 (by decide) ?_
  obtain ⟨a54, ea54, hf⟩ := oN_s hf
  obtain ⟨t55, hf⟩ := oC_s hf
  have t55 := of_decide_eq_true t55
  obtain ⟨h56, eh56, hf⟩ := oL_s hf
  refine pX4_225 (x := x1) b hE ea54 t55 eh56 dX4_literal_4 (fun H locs hE => ?_)
  refine k_aload_n (x := Option.map ad x1) b dX4_literal_7 rfl (lv_at hl 1 rfl) ?_
  refine lv_aload_n b.1 b.2.1 dX4_literal_8 rfl (lv_at hl 0 rfl) ?_
  refine lv_sipush (v := 317) b.1 b.2.1 dX4_literal_9 (by decide) ?_
  obtain ⟨t57, hf⟩ := oC_s hf
  have t57 := of_decide_eq_true t57
  obtain ⟨h60, r59, hc58, hf⟩ := oB2_s hf
  refine k_callV0 (C := RX4) b zs zk hE (CX4_skip l D aC ad zk hc58) mc_X4_skip (in3 69 rfl rfl) mi_X4_skip ms_X4_skip ini_RX4 ok_X4_skip (x_recv b hE (ci := 4) rfl (by decide) t57) ⟨Nat.le_of_ble_eq_true rfl, Nat.le_of_ble_eq_true rfl⟩ rfl hl.1 rfl (k_room _ (by exact Nat.le_of_ble_eq_true rfl)) ⟨Nat.le_refl _, Nat.le_refl _⟩ dX4_literal_12 (fun H locs hE => ?_)
  refine lv_if_ne (tgt := 22) b.1 b.2.1 dX4_literal_15 (by decide) (fun c61 => ?_) (fun c61 => ?_)
  · have hf := oI_f c61 hf
    refine lv_iconst (v := 0) b.1 b.2.1 dX4_literal_22 (by decide) ?_
    exact wfX4_literal_23 b hlk hr zs zk  hf hE (lv_sub hl [0, 1] rfl)
  · have hf := oI_t c61 hf
    refine lv_iconst (v := 1) b.1 b.2.1 dX4_literal_18 (by decide) ?_
    refine lv_goto (tgt := 23) b.1 b.2.1 dX4_literal_19 (by decide) ?_
    exact wfX4_literal_23 b hlk hr zs zk  hf hE (lv_sub hl [0, 1] rfl)
def fX4_literal (h : PH) (x0 : Nat) (x1 : Option Nat) : Option (PH) := fX4_literal_0 h x0 x1
set_option maxHeartbeats 4000000 in
theorem CX4_literal (l : Launch) (D : va_G) (aC : Nat → ClassId) (ad : Nat → Nat) {Z : State → Prop} (zk : ZOK Z (Rg ad)) {h : PH} {x0 : Nat} {x1 : Option Nat} {hz : PH} (hf : fX4_literal h x0 x1 = some hz) : CM l D aC Z yX4_literal cX4_literal 5 (none) 3 66 0 0 (EX D aC ad h) [.ref (ad x0), va_rf (Option.map ad x1)] (EX D aC ad hz) none (Rg ad) := by
  refine CM.of rfl ?_
  intro p e s m below meth c b hr hlk hin2 zs hE
  cases x1 <;> (
    refine k_ent (Nat.le_of_ble_eq_true rfl) (fun ls hl => ?_)
    exact wfX4_literal_0 b hlk hr zs zk hf hE (lv_sub hl [0, 1] rfl))
theorem dX4_takeHead_0 : decode cX4_takeHead 0 = .ok (.aload_n 1, 1) := by decide +kernel
theorem dX4_takeHead_1 : decode cX4_takeHead 1 = .ok (.iconst 1, 1) := by decide +kernel
theorem dX4_takeHead_2 : decode cX4_takeHead 2 = .ok (.putfield 228, 3) := by decide +kernel
theorem dX4_takeHead_5 : decode cX4_takeHead 5 = .ok (.aload_n 1, 1) := by decide +kernel
theorem dX4_takeHead_6 : decode cX4_takeHead 6 = .ok (.aload_n 0, 1) := by decide +kernel
theorem dX4_takeHead_7 : decode cX4_takeHead 7 = .ok (.aload_n 0, 1) := by decide +kernel
theorem dX4_takeHead_8 : decode cX4_takeHead 8 = .ok (.getfield 25, 3) := by decide +kernel
theorem dX4_takeHead_11 : decode cX4_takeHead 11 = .ok (.getfield 77, 3) := by decide +kernel
theorem dX4_takeHead_14 : decode cX4_takeHead 14 = .ok (.invokevirtual 231, 3) := by decide +kernel
theorem dX4_takeHead_17 : decode cX4_takeHead 17 = .ok (.putfield 234, 3) := by decide +kernel
theorem dX4_takeHead_20 : decode cX4_takeHead 20 = .ok (.aload_n 0, 1) := by decide +kernel
theorem dX4_takeHead_21 : decode cX4_takeHead 21 = .ok (.bipush 40, 2) := by decide +kernel
theorem dX4_takeHead_23 : decode cX4_takeHead 23 = .ok (.invokevirtual 63, 3) := by decide +kernel
theorem dX4_takeHead_26 : decode cX4_takeHead 26 = .ok (.pop, 1) := by decide +kernel
theorem dX4_takeHead_27 : decode cX4_takeHead 27 = .ok (.aload_n 1, 1) := by decide +kernel
theorem dX4_takeHead_28 : decode cX4_takeHead 28 = .ok (.aload_n 0, 1) := by decide +kernel
theorem dX4_takeHead_29 : decode cX4_takeHead 29 = .ok (.invokevirtual 243, 3) := by decide +kernel
theorem dX4_takeHead_32 : decode cX4_takeHead 32 = .ok (.putfield 237, 3) := by decide +kernel
theorem dX4_takeHead_35 : decode cX4_takeHead 35 = .ok (.aload_n 0, 1) := by decide +kernel
theorem dX4_takeHead_36 : decode cX4_takeHead 36 = .ok (.bipush 41, 2) := by decide +kernel
theorem dX4_takeHead_38 : decode cX4_takeHead 38 = .ok (.invokevirtual 63, 3) := by decide +kernel
theorem dX4_takeHead_41 : decode cX4_takeHead 41 = .ok (.pop, 1) := by decide +kernel
theorem dX4_takeHead_42 : decode cX4_takeHead 42 = .ok (.aload_n 1, 1) := by decide +kernel
theorem dX4_takeHead_43 : decode cX4_takeHead 43 = .ok (.aload_n 0, 1) := by decide +kernel
theorem dX4_takeHead_44 : decode cX4_takeHead 44 = .ok (.getfield 60, 3) := by decide +kernel
theorem dX4_takeHead_47 : decode cX4_takeHead 47 = .ok (.putfield 225, 3) := by decide +kernel
theorem dX4_takeHead_50 : decode cX4_takeHead 50 = .ok (.aload_n 1, 1) := by decide +kernel
theorem dX4_takeHead_51 : decode cX4_takeHead 51 = .ok (.getfield 225, 3) := by decide +kernel
theorem dX4_takeHead_54 : decode cX4_takeHead 54 = .ok (.lookupswitch 54 #[(42, 42), (43, 42), (312, 42), (313, 42)], 42) := by decide +kernel
theorem dX4_takeHead_96 : decode cX4_takeHead 96 = .ok (.aload_n 0, 1) := by decide +kernel
theorem dX4_takeHead_97 : decode cX4_takeHead 97 = .ok (.aload_n 1, 1) := by decide +kernel
theorem dX4_takeHead_98 : decode cX4_takeHead 98 = .ok (.getfield 225, 3) := by decide +kernel
theorem dX4_takeHead_101 : decode cX4_takeHead 101 = .ok (.invokevirtual 63, 3) := by decide +kernel
theorem dX4_takeHead_104 : decode cX4_takeHead 104 = .ok (.pop, 1) := by decide +kernel
theorem dX4_takeHead_105 : decode cX4_takeHead 105 = .ok (.goto 8, 3) := by decide +kernel
theorem dX4_takeHead_108 : decode cX4_takeHead 108 = .ok (.aload_n 0, 1) := by decide +kernel
theorem dX4_takeHead_109 : decode cX4_takeHead 109 = .ok (.iconst 1, 1) := by decide +kernel
theorem dX4_takeHead_110 : decode cX4_takeHead 110 = .ok (.invokevirtual 89, 3) := by decide +kernel
theorem dX4_takeHead_113 : decode cX4_takeHead 113 = .ok (.aload_n 1, 1) := by decide +kernel
theorem dX4_takeHead_114 : decode cX4_takeHead 114 = .ok (.aload_n 0, 1) := by decide +kernel
theorem dX4_takeHead_115 : decode cX4_takeHead 115 = .ok (.getfield 25, 3) := by decide +kernel
theorem dX4_takeHead_118 : decode cX4_takeHead 118 = .ok (.getfield 250, 3) := by decide +kernel
theorem dX4_takeHead_121 : decode cX4_takeHead 121 = .ok (.putfield 253, 3) := by decide +kernel
theorem dX4_takeHead_124 : decode cX4_takeHead 124 = .ok (.aload_n 0, 1) := by decide +kernel
theorem dX4_takeHead_125 : decode cX4_takeHead 125 = .ok (.iconst 0, 1) := by decide +kernel
theorem dX4_takeHead_126 : decode cX4_takeHead 126 = .ok (.invokevirtual 256, 3) := by decide +kernel
theorem dX4_takeHead_129 : decode cX4_takeHead 129 = .ok (.aload_n 1, 1) := by decide +kernel
theorem dX4_takeHead_130 : decode cX4_takeHead 130 = .ok (.aload_n 0, 1) := by decide +kernel
theorem dX4_takeHead_131 : decode cX4_takeHead 131 = .ok (.getfield 25, 3) := by decide +kernel
theorem dX4_takeHead_134 : decode cX4_takeHead 134 = .ok (.getfield 250, 3) := by decide +kernel
theorem dX4_takeHead_137 : decode cX4_takeHead 137 = .ok (.putfield 262, 3) := by decide +kernel
theorem dX4_takeHead_140 : decode cX4_takeHead 140 = .ok (.return_, 1) := by decide +kernel
def fX4_takeHead_113  (h : PH) (x0 : Nat) (x1 : Option Nat) : Option (PH × Nat × Nat) :=
  oC (decide (hT h x0 = 5)) (oN (hR h 512 x0) (fun a2 => oC (decide (hT h a2 = 2)) (oN x1 (fun a4 => oC (decide (hT h a4 = 3)) (oL (sI h 261 a4 (hI h 142 a2)) (fun h6 => oB3 (fX4_formula 12 h6 x0 0) (fun h9 i10 j11 => oK3 i10 j11 (oC (decide (hT h9 x0 = 5)) (oN (hR h9 512 x0) (fun a15 => oC (decide (hT h9 a15 = 2)) (oC (decide (hT h9 a4 = 3)) (oL (sI h9 263 a4 (hI h9 142 a15)) (fun h18 => some (h18, 0, 0))))))))))))))
set_option maxHeartbeats 4000000 in
theorem wfX4_takeHead_113 {mc ms cells slots : Nat} {args : Array Value} (b : Bd p s m c cX4_takeHead 2 RX4 D aC) (hlk : meth.locks = false) (hr : meth.sig.returnType = none) {Z : State → Prop} (zs : Z s) (zk : ZOK Z (Rg ad)) {hz : PH} {h : PH} {x0 : Nat} {x1 : Option Nat} {kz : Nat} {mz : Nat}  {H : Heap} {locs : List Loc} {ls : Array Slot} (hf : fX4_takeHead_113 h x0 x1 = some (hz, kz, mz)) (hk : cells + kz ≤ mc) (hs : slots + mz ≤ ms) (hE : CE (EX D aC ad h) (Rg ad) s H locs) (hl : lv_has ls 2 [(0, .ref (ad x0)), (1, va_rf (Option.map ad x1))]) : W p l e (RM 28 693 mc ms) s m args below meth c H locs cells slots (MQ below (PQ (EX D aC ad hz) (Rg ad) none) args s mc ms (Rg ad)) (F0 m 113 ls []) := by
  unfold fX4_takeHead_113 at hf
  refine k_aload_n (x := Option.map ad x1) b dX4_takeHead_113 rfl (lv_at hl 1 rfl) ?_
  refine lv_aload_n b.1 b.2.1 dX4_takeHead_114 rfl (lv_at hl 0 rfl) ?_
  obtain ⟨t1, hf⟩ := oC_s hf
  have t1 := of_decide_eq_true t1
  refine gX4_25 (x := (some x0)) b hE rfl t1 dX4_takeHead_115 ?_
  obtain ⟨a2, ea2, hf⟩ := oN_s hf
  obtain ⟨t3, hf⟩ := oC_s hf
  have t3 := of_decide_eq_true t3
  refine gX4_250 (x := (hR h 512 x0)) b hE ea2 t3 dX4_takeHead_118 ?_
  obtain ⟨a4, ea4, hf⟩ := oN_s hf
  obtain ⟨t5, hf⟩ := oC_s hf
  have t5 := of_decide_eq_true t5
  obtain ⟨h6, eh6, hf⟩ := oL_s hf
  refine pX4_253 (x := x1) b hE ea4 t5 eh6 dX4_takeHead_121 (fun H locs hE => ?_)
  refine lv_aload_n b.1 b.2.1 dX4_takeHead_124 rfl (lv_at hl 0 rfl) ?_
  refine lv_iconst (v := 0) b.1 b.2.1 dX4_takeHead_125 (by decide) ?_
  have t7 := tg_sI eh6 t1
  obtain ⟨h9, i10, j11, hc8, hf⟩ := oB3_s hf
  obtain ⟨i12, j13, ei12, ej13, hf⟩ := oK3_s hf
  refine k_callV (C := RX4) b zs zk hE (CX4_formula l D aC ad zk 12 hc8) mc_X4_formula (in3 65 rfl rfl) mi_X4_formula ms_X4_formula ini_RX4 ok_X4_formula (x_recv b hE (ci := 4) rfl (by decide) t7) ⟨Nat.le_of_ble_eq_true rfl, Nat.le_of_ble_eq_true rfl⟩ rfl hl.1 rfl (k_room _ (by exact Nat.le_of_ble_eq_true rfl)) ⟨le_room hk ei12, le_room hs ej13⟩ dX4_takeHead_126 (fun H locs hE => ?_)
  have hk := le_step hk ei12
  have hs := le_step hs ej13
  refine k_aload_n (x := Option.map ad x1) b dX4_takeHead_129 rfl (lv_at hl 1 rfl) ?_
  refine lv_aload_n b.1 b.2.1 dX4_takeHead_130 rfl (lv_at hl 0 rfl) ?_
  obtain ⟨t14, hf⟩ := oC_s hf
  have t14 := of_decide_eq_true t14
  refine gX4_25 (x := (some x0)) b hE rfl t14 dX4_takeHead_131 ?_
  obtain ⟨a15, ea15, hf⟩ := oN_s hf
  obtain ⟨t16, hf⟩ := oC_s hf
  have t16 := of_decide_eq_true t16
  refine gX4_250 (x := (hR h9 512 x0)) b hE ea15 t16 dX4_takeHead_134 ?_
  obtain ⟨t17, hf⟩ := oC_s hf
  have t17 := of_decide_eq_true t17
  obtain ⟨h18, eh18, hf⟩ := oL_s hf
  refine pX4_262 (x := x1) b hE ea4 t17 eh18 dX4_takeHead_137 (fun H locs hE => ?_)
  cases hf
  exact k_vret b hlk hr hE (le_c hk) (le_c hs) dX4_takeHead_140
def fX4_takeHead_96  (h : PH) (x0 : Nat) (x1 : Option Nat) : Option (PH × Nat × Nat) :=
  oN x1 (fun a19 => oC (decide (hT h a19 = 3)) (oC (decide (hT h x0 = 5)) (oB2 (fX4_expect h x0 (hI h 256 a19)) (fun h24 r23 => fX4_takeHead_113  h24 x0 x1))))
set_option maxHeartbeats 4000000 in
theorem wfX4_takeHead_96 {mc ms cells slots : Nat} {args : Array Value} (b : Bd p s m c cX4_takeHead 2 RX4 D aC) (hlk : meth.locks = false) (hr : meth.sig.returnType = none) {Z : State → Prop} (zs : Z s) (zk : ZOK Z (Rg ad)) {hz : PH} {h : PH} {x0 : Nat} {x1 : Option Nat} {kz : Nat} {mz : Nat}  {H : Heap} {locs : List Loc} {ls : Array Slot} (hf : fX4_takeHead_96 h x0 x1 = some (hz, kz, mz)) (hk : cells + kz ≤ mc) (hs : slots + mz ≤ ms) (hE : CE (EX D aC ad h) (Rg ad) s H locs) (hl : lv_has ls 2 [(0, .ref (ad x0)), (1, va_rf (Option.map ad x1))]) : W p l e (RM 28 693 mc ms) s m args below meth c H locs cells slots (MQ below (PQ (EX D aC ad hz) (Rg ad) none) args s mc ms (Rg ad)) (F0 m 96 ls []) := by
  unfold fX4_takeHead_96 at hf
  refine lv_aload_n b.1 b.2.1 dX4_takeHead_96 rfl (lv_at hl 0 rfl) ?_
  refine k_aload_n (x := Option.map ad x1) b dX4_takeHead_97 rfl (lv_at hl 1 rfl) ?_
  obtain ⟨a19, ea19, hf⟩ := oN_s hf
  obtain ⟨t20, hf⟩ := oC_s hf
  have t20 := of_decide_eq_true t20
  refine gX4_225 (x := x1) b hE ea19 t20 dX4_takeHead_98 ?_
  obtain ⟨t21, hf⟩ := oC_s hf
  have t21 := of_decide_eq_true t21
  obtain ⟨h24, r23, hc22, hf⟩ := oB2_s hf
  refine k_callV0 (C := RX4) b zs zk hE (CX4_expect l D aC ad zk hc22) mc_X4_expect (in2 179 rfl rfl) mi_X4_expect ms_X4_expect ini_RX4 ok_X4_expect (x_recv b hE (ci := 4) rfl (by decide) t21) ⟨Nat.le_of_ble_eq_true rfl, Nat.le_of_ble_eq_true rfl⟩ rfl hl.1 rfl (k_room _ (by exact Nat.le_of_ble_eq_true rfl)) ⟨le_0 hk, le_0 hs⟩ dX4_takeHead_101 (fun H locs hE => ?_)
  refine lv_pop b.1 b.2.1 dX4_takeHead_104 rfl ?_
  refine lv_goto (tgt := 113) b.1 b.2.1 dX4_takeHead_105 (by decide) ?_
  exact wfX4_takeHead_113 b hlk hr zs zk  hf hk hs hE (lv_sub hl [0, 1] rfl)
def fX4_takeHead_0  (h : PH) (x0 : Nat) (x1 : Option Nat) : Option (PH × Nat × Nat) :=
  oN x1 (fun a25 => oC (decide (hT h a25 = 3)) (oL (sI h 258 a25 1) (fun h27 => oC (decide (hT h27 x0 = 5)) (oN (hR h27 512 x0) (fun a29 => oC (decide (hT h27 a29 = 2)) (oB2 (fX4_knownName h27 x0 (hR h27 130 a29)) (fun h33 r32 => oC (decide (hT h33 a25 = 3)) (oL (sI h33 257 a25 r32) (fun h35 => oC (decide (hT h35 x0 = 5)) (oB2 (fX4_expect h35 x0 40) (fun h39 r38 => oC (decide (hT h39 x0 = 5)) (oB2 (fX4_term h39 x0) (fun h43 r42 => oC (decide (hT h43 a25 = 3)) (oL (sI h43 259 a25 r42) (fun h45 => oC (decide (hT h45 x0 = 5)) (oB2 (fX4_expect h45 x0 41) (fun h49 r48 => oC (decide (hT h49 x0 = 5)) (oC (decide (hT h49 a25 = 3)) (oL (sI h49 256 a25 (hI h49 521 x0)) (fun h52 => oL (hI h52 256 a25) (fun y54 => if y54 = 42 then (fX4_takeHead_96  h52 x0 x1) else (if y54 = 43 then (fX4_takeHead_96  h52 x0 x1) else (if y54 = 312 then (fX4_takeHead_96  h52 x0 x1) else (if y54 = 313 then (fX4_takeHead_96  h52 x0 x1) else (oB (fX4_stopAt h52 x0 1) (fun h61 => fX4_takeHead_113  h61 x0 x1))))))))))))))))))))))))))
set_option maxHeartbeats 4000000 in
theorem wfX4_takeHead_0 {mc ms cells slots : Nat} {args : Array Value} (b : Bd p s m c cX4_takeHead 2 RX4 D aC) (hlk : meth.locks = false) (hr : meth.sig.returnType = none) {Z : State → Prop} (zs : Z s) (zk : ZOK Z (Rg ad)) {hz : PH} {h : PH} {x0 : Nat} {x1 : Option Nat} {kz : Nat} {mz : Nat}  {H : Heap} {locs : List Loc} {ls : Array Slot} (hf : fX4_takeHead_0 h x0 x1 = some (hz, kz, mz)) (hk : cells + kz ≤ mc) (hs : slots + mz ≤ ms) (hE : CE (EX D aC ad h) (Rg ad) s H locs) (hl : lv_has ls 2 [(0, .ref (ad x0)), (1, va_rf (Option.map ad x1))]) : W p l e (RM 28 693 mc ms) s m args below meth c H locs cells slots (MQ below (PQ (EX D aC ad hz) (Rg ad) none) args s mc ms (Rg ad)) (F0 m 0 ls []) := by
  unfold fX4_takeHead_0 at hf
  refine k_aload_n (x := Option.map ad x1) b dX4_takeHead_0 rfl (lv_at hl 1 rfl) ?_
  refine lv_iconst (v := 1) b.1 b.2.1 dX4_takeHead_1 (by decide) ?_
  obtain ⟨a25, ea25, hf⟩ := oN_s hf
  obtain ⟨t26, hf⟩ := oC_s hf
  have t26 := of_decide_eq_true t26
  obtain ⟨h27, eh27, hf⟩ := oL_s hf
  refine pX4_228 (x := x1) b hE ea25 t26 (by decide) eh27 dX4_takeHead_2 (fun H locs hE => ?_)
  refine k_aload_n (x := Option.map ad x1) b dX4_takeHead_5 rfl (lv_at hl 1 rfl) ?_
  refine lv_aload_n b.1 b.2.1 dX4_takeHead_6 rfl (lv_at hl 0 rfl) ?_
  refine lv_aload_n b.1 b.2.1 dX4_takeHead_7 rfl (lv_at hl 0 rfl) ?_
  obtain ⟨t28, hf⟩ := oC_s hf
  have t28 := of_decide_eq_true t28
  refine gX4_25 (x := (some x0)) b hE rfl t28 dX4_takeHead_8 ?_
  obtain ⟨a29, ea29, hf⟩ := oN_s hf
  obtain ⟨t30, hf⟩ := oC_s hf
  have t30 := of_decide_eq_true t30
  refine gX4_77 (x := (hR h27 512 x0)) b hE ea29 t30 dX4_takeHead_11 ?_
  obtain ⟨h33, r32, hc31, hf⟩ := oB2_s hf
  refine k_callV0 (C := RX4) b zs zk hE (CX4_knownName l D aC ad zk hc31) mc_X4_knownName (in3 111 rfl rfl) mi_X4_knownName ms_X4_knownName ini_RX4 ok_X4_knownName (x_recv b hE (ci := 4) rfl (by decide) t28) ⟨Nat.le_of_ble_eq_true rfl, Nat.le_of_ble_eq_true rfl⟩ rfl hl.1 rfl (k_room _ (by exact Nat.le_of_ble_eq_true rfl)) ⟨le_0 hk, le_0 hs⟩ dX4_takeHead_14 (fun H locs hE => ?_)
  obtain ⟨t34, hf⟩ := oC_s hf
  have t34 := of_decide_eq_true t34
  obtain ⟨h35, eh35, hf⟩ := oL_s hf
  refine pX4_234 (x := x1) b hE ea25 t34 eh35 dX4_takeHead_17 (fun H locs hE => ?_)
  refine lv_aload_n b.1 b.2.1 dX4_takeHead_20 rfl (lv_at hl 0 rfl) ?_
  refine lv_bipush (v := 40) b.1 b.2.1 dX4_takeHead_21 (by decide) ?_
  obtain ⟨t36, hf⟩ := oC_s hf
  have t36 := of_decide_eq_true t36
  obtain ⟨h39, r38, hc37, hf⟩ := oB2_s hf
  refine k_callV0 (C := RX4) b zs zk hE (CX4_expect l D aC ad zk hc37) mc_X4_expect (in2 179 rfl rfl) mi_X4_expect ms_X4_expect ini_RX4 ok_X4_expect (x_recv b hE (ci := 4) rfl (by decide) t36) ⟨Nat.le_of_ble_eq_true rfl, Nat.le_of_ble_eq_true rfl⟩ rfl hl.1 rfl (k_room _ (by exact Nat.le_of_ble_eq_true rfl)) ⟨le_0 hk, le_0 hs⟩ dX4_takeHead_23 (fun H locs hE => ?_)
  refine lv_pop b.1 b.2.1 dX4_takeHead_26 rfl ?_
  refine k_aload_n (x := Option.map ad x1) b dX4_takeHead_27 rfl (lv_at hl 1 rfl) ?_
  refine lv_aload_n b.1 b.2.1 dX4_takeHead_28 rfl (lv_at hl 0 rfl) ?_
  obtain ⟨t40, hf⟩ := oC_s hf
  have t40 := of_decide_eq_true t40
  obtain ⟨h43, r42, hc41, hf⟩ := oB2_s hf
  refine k_callV0 (C := RX4) b zs zk hE (CX4_term l D aC ad zk hc41) mc_X4_term (in3 94 rfl rfl) mi_X4_term ms_X4_term ini_RX4 ok_X4_term (x_recv b hE (ci := 4) rfl (by decide) t40) ⟨Nat.le_of_ble_eq_true rfl, Nat.le_of_ble_eq_true rfl⟩ rfl hl.1 rfl (k_room _ (by exact Nat.le_of_ble_eq_true rfl)) ⟨le_0 hk, le_0 hs⟩ dX4_takeHead_29 (fun H locs hE => ?_)
  obtain ⟨t44, hf⟩ := oC_s hf
  have t44 := of_decide_eq_true t44
  obtain ⟨h45, eh45, hf⟩ := oL_s hf
  refine pX4_237 (x := x1) b hE ea25 t44 eh45 dX4_takeHead_32 (fun H locs hE => ?_)
  refine lv_aload_n b.1 b.2.1 dX4_takeHead_35 rfl (lv_at hl 0 rfl) ?_
  refine lv_bipush (v := 41) b.1 b.2.1 dX4_takeHead_36 (by decide) ?_
  obtain ⟨t46, hf⟩ := oC_s hf
  have t46 := of_decide_eq_true t46
  obtain ⟨h49, r48, hc47, hf⟩ := oB2_s hf
  refine k_callV0 (C := RX4) b zs zk hE (CX4_expect l D aC ad zk hc47) mc_X4_expect (in2 179 rfl rfl) mi_X4_expect ms_X4_expect ini_RX4 ok_X4_expect (x_recv b hE (ci := 4) rfl (by decide) t46) ⟨Nat.le_of_ble_eq_true rfl, Nat.le_of_ble_eq_true rfl⟩ rfl hl.1 rfl (k_room _ (by exact Nat.le_of_ble_eq_true rfl)) ⟨le_0 hk, le_0 hs⟩ dX4_takeHead_38 (fun H locs hE => ?_)
  refine lv_pop b.1 b.2.1 dX4_takeHead_41 rfl ?_
  refine k_aload_n (x := Option.map ad x1) b dX4_takeHead_42 rfl (lv_at hl 1 rfl) ?_
  refine lv_aload_n b.1 b.2.1 dX4_takeHead_43 rfl (lv_at hl 0 rfl) ?_
  obtain ⟨t50, hf⟩ := oC_s hf
  have t50 := of_decide_eq_true t50
  refine gX4_60 (x := (some x0)) b hE rfl t50 dX4_takeHead_44 ?_
  obtain ⟨t51, hf⟩ := oC_s hf
  have t51 := of_decide_eq_true t51
  obtain ⟨h52, eh52, hf⟩ := oL_s hf
  refine pX4_225 (x := x1) b hE ea25 t51 eh52 dX4_takeHead_47 (fun H locs hE => ?_)
  refine k_aload_n (x := Option.map ad x1) b dX4_takeHead_50 rfl (lv_at hl 1 rfl) ?_
  have t53 := tg_sI eh52 t51
  refine gX4_225 (x := x1) b hE ea25 t53 dX4_takeHead_51 ?_
  obtain ⟨y54, ey54, hf⟩ := oL_s hf
  refine k_nmI ey54 ?_
  rcases Decidable.em (y54 = 42) with c55 | c55
  · have hf := oI_t c55 hf
    refine lv_lookup (tgt := 96) (off := 42) b.1 b.2.1 dX4_takeHead_54 (by decide) (by rw [c55] <;> rfl) (by decide) ?_
    exact wfX4_takeHead_96 b hlk hr zs zk  hf hk hs hE (lv_sub hl [0, 1] rfl)
  have hf := oI_f c55 hf
  rcases Decidable.em (y54 = 43) with c56 | c56
  · have hf := oI_t c56 hf
    refine lv_lookup (tgt := 96) (off := 42) b.1 b.2.1 dX4_takeHead_54 (by decide) (by rw [c56] <;> rfl) (by decide) ?_
    exact wfX4_takeHead_96 b hlk hr zs zk  hf hk hs hE (lv_sub hl [0, 1] rfl)
  have hf := oI_f c56 hf
  rcases Decidable.em (y54 = 312) with c57 | c57
  · have hf := oI_t c57 hf
    refine lv_lookup (tgt := 96) (off := 42) b.1 b.2.1 dX4_takeHead_54 (by decide) (by rw [c57] <;> rfl) (by decide) ?_
    exact wfX4_takeHead_96 b hlk hr zs zk  hf hk hs hE (lv_sub hl [0, 1] rfl)
  have hf := oI_f c57 hf
  rcases Decidable.em (y54 = 313) with c58 | c58
  · have hf := oI_t c58 hf
    refine lv_lookup (tgt := 96) (off := 42) b.1 b.2.1 dX4_takeHead_54 (by decide) (by rw [c58] <;> rfl) (by decide) ?_
    exact wfX4_takeHead_96 b hlk hr zs zk  hf hk hs hE (lv_sub hl [0, 1] rfl)
  have hf := oI_f c58 hf
  refine lv_lookup (tgt := 108) (off := 54) b.1 b.2.1 dX4_takeHead_54 (by decide) (by rw [lv_osw c55 (by decide), lv_osw c56 (by decide), lv_osw c57 (by decide), lv_osw c58 (by decide)] <;> rfl) (by decide) ?_
  refine lv_aload_n b.1 b.2.1 dX4_takeHead_108 rfl (lv_at hl 0 rfl) ?_
  refine lv_iconst (v := 1) b.1 b.2.1 dX4_takeHead_109 (by decide) ?_
  have t59 := tg_sI eh52 t50
  obtain ⟨h61, hc60, hf⟩ := oB_s hf
  refine k_callV0 (C := RX4) b zs zk hE (CX4_stopAt l D aC ad zk hc60) mc_X4_stopAt (in2 183 rfl rfl) mi_X4_stopAt ms_X4_stopAt ini_RX4 ok_X4_stopAt (x_recv b hE (ci := 4) rfl (by decide) t59) ⟨Nat.le_of_ble_eq_true rfl, Nat.le_of_ble_eq_true rfl⟩ rfl hl.1 rfl (k_room _ (by exact Nat.le_of_ble_eq_true rfl)) ⟨le_0 hk, le_0 hs⟩ dX4_takeHead_110 (fun H locs hE => ?_)
  exact wfX4_takeHead_113 b hlk hr zs zk  hf hk hs hE (lv_sub hl [0, 1] rfl)
def fX4_takeHead (h : PH) (x0 : Nat) (x1 : Option Nat) : Option (PH × Nat × Nat) := fX4_takeHead_0 h x0 x1
set_option maxHeartbeats 4000000 in
theorem CX4_takeHead (l : Launch) (D : va_G) (aC : Nat → ClassId) (ad : Nat → Nat) {Z : State → Prop} (zk : ZOK Z (Rg ad)) {h : PH} {x0 : Nat} {x1 : Option Nat} {hz : PH} {kz : Nat} {mz : Nat} (hf : fX4_takeHead h x0 x1 = some (hz, kz, mz)) : CM l D aC Z yX4_takeHead cX4_takeHead 2 (none) 28 693 kz mz (EX D aC ad h) [.ref (ad x0), va_rf (Option.map ad x1)] (EX D aC ad hz) none (Rg ad) := by
  refine CM.of rfl ?_
  intro p e s m below meth c b hr hlk hin2 zs hE
  cases x1 <;> (
    refine k_ent (Nat.le_of_ble_eq_true rfl) (fun ls hl => ?_)
    exact wfX4_takeHead_0 b hlk hr zs zk hf (by omega) (by omega) hE (lv_sub hl [0, 1] rfl))
theorem dX4_tellRule_0 : decode cX4_tellRule 0 = .ok (.aload_n 0, 1) := by decide +kernel
theorem dX4_tellRule_1 : decode cX4_tellRule 1 = .ok (.getfield 60, 3) := by decide +kernel
theorem dX4_tellRule_4 : decode cX4_tellRule 4 = .ok (.istore_n 1, 1) := by decide +kernel
theorem dX4_tellRule_5 : decode cX4_tellRule 5 = .ok (.aload_n 0, 1) := by decide +kernel
theorem dX4_tellRule_6 : decode cX4_tellRule 6 = .ok (.iconst 0, 1) := by decide +kernel
theorem dX4_tellRule_7 : decode cX4_tellRule 7 = .ok (.putfield 92, 3) := by decide +kernel
theorem dX4_tellRule_10 : decode cX4_tellRule 10 = .ok (.aload_n 0, 1) := by decide +kernel
theorem dX4_tellRule_11 : decode cX4_tellRule 11 = .ok (.iload_n 1, 1) := by decide +kernel
theorem dX4_tellRule_12 : decode cX4_tellRule 12 = .ok (.invokevirtual 63, 3) := by decide +kernel
theorem dX4_tellRule_15 : decode cX4_tellRule 15 = .ok (.pop, 1) := by decide +kernel
theorem dX4_tellRule_16 : decode cX4_tellRule 16 = .ok (.aload_n 0, 1) := by decide +kernel
theorem dX4_tellRule_17 : decode cX4_tellRule 17 = .ok (.getfield 25, 3) := by decide +kernel
theorem dX4_tellRule_20 : decode cX4_tellRule 20 = .ok (.aload_n 0, 1) := by decide +kernel
theorem dX4_tellRule_21 : decode cX4_tellRule 21 = .ok (.aload_n 0, 1) := by decide +kernel
theorem dX4_tellRule_22 : decode cX4_tellRule 22 = .ok (.getfield 25, 3) := by decide +kernel
theorem dX4_tellRule_25 : decode cX4_tellRule 25 = .ok (.getfield 95, 3) := by decide +kernel
theorem dX4_tellRule_28 : decode cX4_tellRule 28 = .ok (.invokevirtual 98, 3) := by decide +kernel
theorem dX4_tellRule_31 : decode cX4_tellRule 31 = .ok (.iload_n 1, 1) := by decide +kernel
theorem dX4_tellRule_32 : decode cX4_tellRule 32 = .ok (.sipush 309, 3) := by decide +kernel
theorem dX4_tellRule_35 : decode cX4_tellRule 35 = .ok (.isub, 1) := by decide +kernel
theorem dX4_tellRule_36 : decode cX4_tellRule 36 = .ok (.invokevirtual 102, 3) := by decide +kernel
theorem dX4_tellRule_39 : decode cX4_tellRule 39 = .ok (.astore_n 2, 1) := by decide +kernel
theorem dX4_tellRule_40 : decode cX4_tellRule 40 = .ok (.aload_n 2, 1) := by decide +kernel
theorem dX4_tellRule_41 : decode cX4_tellRule 41 = .ok (.ifnonnull 4, 3) := by decide +kernel
theorem dX4_tellRule_44 : decode cX4_tellRule 44 = .ok (.return_, 1) := by decide +kernel
theorem dX4_tellRule_45 : decode cX4_tellRule 45 = .ok (.aload_n 0, 1) := by decide +kernel
theorem dX4_tellRule_46 : decode cX4_tellRule 46 = .ok (.bipush 58, 2) := by decide +kernel
theorem dX4_tellRule_48 : decode cX4_tellRule 48 = .ok (.invokevirtual 63, 3) := by decide +kernel
theorem dX4_tellRule_51 : decode cX4_tellRule 51 = .ok (.pop, 1) := by decide +kernel
theorem dX4_tellRule_52 : decode cX4_tellRule 52 = .ok (.aload_n 0, 1) := by decide +kernel
theorem dX4_tellRule_53 : decode cX4_tellRule 53 = .ok (.getfield 60, 3) := by decide +kernel
theorem dX4_tellRule_56 : decode cX4_tellRule 56 = .ok (.sipush 256, 3) := by decide +kernel
theorem dX4_tellRule_59 : decode cX4_tellRule 59 = .ok (.if_icmp .eq 7, 3) := by decide +kernel
theorem dX4_tellRule_62 : decode cX4_tellRule 62 = .ok (.iconst 1, 1) := by decide +kernel
theorem dX4_tellRule_63 : decode cX4_tellRule 63 = .ok (.goto 4, 3) := by decide +kernel
theorem dX4_tellRule_66 : decode cX4_tellRule 66 = .ok (.iconst 0, 1) := by decide +kernel
theorem dX4_tellRule_67 : decode cX4_tellRule 67 = .ok (.istore_n 3, 1) := by decide +kernel
theorem dX4_tellRule_68 : decode cX4_tellRule 68 = .ok (.iconst 0, 1) := by decide +kernel
theorem dX4_tellRule_69 : decode cX4_tellRule 69 = .ok (.istore 4, 2) := by decide +kernel
theorem dX4_tellRule_71 : decode cX4_tellRule 71 = .ok (.iload 4, 2) := by decide +kernel
theorem dX4_tellRule_73 : decode cX4_tellRule 73 = .ok (.bipush 6, 2) := by decide +kernel
theorem dX4_tellRule_75 : decode cX4_tellRule 75 = .ok (.if_icmp .gt 86, 3) := by decide +kernel
theorem dX4_tellRule_78 : decode cX4_tellRule 78 = .ok (.iload_n 3, 1) := by decide +kernel
theorem dX4_tellRule_79 : decode cX4_tellRule 79 = .ok (.ifCond .eq 82, 3) := by decide +kernel
theorem dX4_tellRule_82 : decode cX4_tellRule 82 = .ok (.aload_n 0, 1) := by decide +kernel
theorem dX4_tellRule_83 : decode cX4_tellRule 83 = .ok (.aload_n 2, 1) := by decide +kernel
theorem dX4_tellRule_84 : decode cX4_tellRule 84 = .ok (.invokevirtual 106, 3) := by decide +kernel
theorem dX4_tellRule_87 : decode cX4_tellRule 87 = .ok (.astore 5, 2) := by decide +kernel
theorem dX4_tellRule_89 : decode cX4_tellRule 89 = .ok (.aload 5, 2) := by decide +kernel
theorem dX4_tellRule_91 : decode cX4_tellRule 91 = .ok (.ifnonnull 4, 3) := by decide +kernel
theorem dX4_tellRule_94 : decode cX4_tellRule 94 = .ok (.return_, 1) := by decide +kernel
theorem dX4_tellRule_95 : decode cX4_tellRule 95 = .ok (.aload_n 0, 1) := by decide +kernel
theorem dX4_tellRule_96 : decode cX4_tellRule 96 = .ok (.getfield 60, 3) := by decide +kernel
theorem dX4_tellRule_99 : decode cX4_tellRule 99 = .ok (.tableswitch 43 314 316 #[34, 34, 25], 25) := by decide +kernel
theorem dX4_tellRule_124 : decode cX4_tellRule 124 = .ok (.aload_n 0, 1) := by decide +kernel
theorem dX4_tellRule_125 : decode cX4_tellRule 125 = .ok (.aload 5, 2) := by decide +kernel
theorem dX4_tellRule_127 : decode cX4_tellRule 127 = .ok (.invokevirtual 110, 3) := by decide +kernel
theorem dX4_tellRule_130 : decode cX4_tellRule 130 = .ok (.goto 18, 3) := by decide +kernel
theorem dX4_tellRule_133 : decode cX4_tellRule 133 = .ok (.aload_n 0, 1) := by decide +kernel
theorem dX4_tellRule_134 : decode cX4_tellRule 134 = .ok (.aload 5, 2) := by decide +kernel
theorem dX4_tellRule_136 : decode cX4_tellRule 136 = .ok (.invokevirtual 114, 3) := by decide +kernel
theorem dX4_tellRule_139 : decode cX4_tellRule 139 = .ok (.goto 9, 3) := by decide +kernel
theorem dX4_tellRule_142 : decode cX4_tellRule 142 = .ok (.aload_n 0, 1) := by decide +kernel
theorem dX4_tellRule_143 : decode cX4_tellRule 143 = .ok (.aload 5, 2) := by decide +kernel
theorem dX4_tellRule_145 : decode cX4_tellRule 145 = .ok (.invokevirtual 117, 3) := by decide +kernel
theorem dX4_tellRule_148 : decode cX4_tellRule 148 = .ok (.aload_n 0, 1) := by decide +kernel
theorem dX4_tellRule_149 : decode cX4_tellRule 149 = .ok (.bipush 44, 2) := by decide +kernel
theorem dX4_tellRule_151 : decode cX4_tellRule 151 = .ok (.invokevirtual 120, 3) := by decide +kernel
theorem dX4_tellRule_154 : decode cX4_tellRule 154 = .ok (.istore_n 3, 1) := by decide +kernel
theorem dX4_tellRule_155 : decode cX4_tellRule 155 = .ok (.iinc 4 1, 3) := by decide +kernel
theorem dX4_tellRule_158 : decode cX4_tellRule 158 = .ok (.goto (-87), 3) := by decide +kernel
theorem dX4_tellRule_161 : decode cX4_tellRule 161 = .ok (.aload_n 0, 1) := by decide +kernel
theorem dX4_tellRule_162 : decode cX4_tellRule 162 = .ok (.sipush 256, 3) := by decide +kernel
theorem dX4_tellRule_165 : decode cX4_tellRule 165 = .ok (.invokevirtual 63, 3) := by decide +kernel
theorem dX4_tellRule_168 : decode cX4_tellRule 168 = .ok (.pop, 1) := by decide +kernel
theorem dX4_tellRule_169 : decode cX4_tellRule 169 = .ok (.iload_n 1, 1) := by decide +kernel
theorem dX4_tellRule_170 : decode cX4_tellRule 170 = .ok (.sipush 311, 3) := by decide +kernel
theorem dX4_tellRule_173 : decode cX4_tellRule 173 = .ok (.if_icmp .ne 14, 3) := by decide +kernel
theorem dX4_tellRule_176 : decode cX4_tellRule 176 = .ok (.aload_n 0, 1) := by decide +kernel
theorem dX4_tellRule_177 : decode cX4_tellRule 177 = .ok (.aload_n 2, 1) := by decide +kernel
theorem dX4_tellRule_178 : decode cX4_tellRule 178 = .ok (.getfield 123, 3) := by decide +kernel
theorem dX4_tellRule_181 : decode cX4_tellRule 181 = .ok (.invokevirtual 129, 3) := by decide +kernel
theorem dX4_tellRule_184 : decode cX4_tellRule 184 = .ok (.goto 11, 3) := by decide +kernel
theorem dX4_tellRule_187 : decode cX4_tellRule 187 = .ok (.aload_n 0, 1) := by decide +kernel
theorem dX4_tellRule_188 : decode cX4_tellRule 188 = .ok (.aload_n 2, 1) := by decide +kernel
theorem dX4_tellRule_189 : decode cX4_tellRule 189 = .ok (.getfield 123, 3) := by decide +kernel
theorem dX4_tellRule_192 : decode cX4_tellRule 192 = .ok (.invokevirtual 117, 3) := by decide +kernel
theorem dX4_tellRule_195 : decode cX4_tellRule 195 = .ok (.aload_n 0, 1) := by decide +kernel
theorem dX4_tellRule_196 : decode cX4_tellRule 196 = .ok (.bipush 59, 2) := by decide +kernel
theorem dX4_tellRule_198 : decode cX4_tellRule 198 = .ok (.invokevirtual 63, 3) := by decide +kernel
theorem dX4_tellRule_201 : decode cX4_tellRule 201 = .ok (.pop, 1) := by decide +kernel
theorem dX4_tellRule_202 : decode cX4_tellRule 202 = .ok (.aload_n 2, 1) := by decide +kernel
theorem dX4_tellRule_203 : decode cX4_tellRule 203 = .ok (.aload_n 0, 1) := by decide +kernel
theorem dX4_tellRule_204 : decode cX4_tellRule 204 = .ok (.getfield 92, 3) := by decide +kernel
theorem dX4_tellRule_207 : decode cX4_tellRule 207 = .ok (.putfield 132, 3) := by decide +kernel
theorem dX4_tellRule_210 : decode cX4_tellRule 210 = .ok (.return_, 1) := by decide +kernel
def fX4_tellRule_195  (h : PH) (x0 : Nat) (x2 : Option Nat) : Option (PH × Nat × Nat) :=
  oC (decide (hT h x0 = 5)) (oB2 (fX4_expect h x0 59) (fun h4 r3 => oC (decide (hT h4 x0 = 5)) (oN x2 (fun a6 => oC (decide (hT h4 a6 = 9)) (oL (sI h4 1026 a6 (hI h4 516 x0)) (fun h8 => some (h8, 0, 0)))))))
set_option maxHeartbeats 4000000 in
theorem wfX4_tellRule_195 {mc ms cells slots : Nat} {args : Array Value} (b : Bd p s m c cX4_tellRule 6 RX4 D aC) (hlk : meth.locks = false) (hr : meth.sig.returnType = none) {Z : State → Prop} (zs : Z s) (zk : ZOK Z (Rg ad)) {hz : PH} {h : PH} {x0 : Nat} {x2 : Option Nat} {kz : Nat} {mz : Nat}  {H : Heap} {locs : List Loc} {ls : Array Slot} (hf : fX4_tellRule_195 h x0 x2 = some (hz, kz, mz)) (hk : cells + kz ≤ mc) (hs : slots + mz ≤ ms) (hE : CE (EX D aC ad h) (Rg ad) s H locs) (hl : lv_has ls 6 [(0, .ref (ad x0)), (2, va_rf (Option.map ad x2))]) : W p l e (RM 29 714 mc ms) s m args below meth c H locs cells slots (MQ below (PQ (EX D aC ad hz) (Rg ad) none) args s mc ms (Rg ad)) (F0 m 195 ls []) := by
  unfold fX4_tellRule_195 at hf
  refine lv_aload_n b.1 b.2.1 dX4_tellRule_195 rfl (lv_at hl 0 rfl) ?_
  refine lv_bipush (v := 59) b.1 b.2.1 dX4_tellRule_196 (by decide) ?_
  obtain ⟨t1, hf⟩ := oC_s hf
  have t1 := of_decide_eq_true t1
  obtain ⟨h4, r3, hc2, hf⟩ := oB2_s hf
  refine k_callV0 (C := RX4) b zs zk hE (CX4_expect l D aC ad zk hc2) mc_X4_expect (in2 179 rfl rfl) mi_X4_expect ms_X4_expect ini_RX4 ok_X4_expect (x_recv b hE (ci := 4) rfl (by decide) t1) ⟨Nat.le_of_ble_eq_true rfl, Nat.le_of_ble_eq_true rfl⟩ rfl hl.1 rfl (k_room _ (by exact Nat.le_of_ble_eq_true rfl)) ⟨le_0 hk, le_0 hs⟩ dX4_tellRule_198 (fun H locs hE => ?_)
  refine lv_pop b.1 b.2.1 dX4_tellRule_201 rfl ?_
  refine k_aload_n (x := Option.map ad x2) b dX4_tellRule_202 rfl (lv_at hl 1 rfl) ?_
  refine lv_aload_n b.1 b.2.1 dX4_tellRule_203 rfl (lv_at hl 0 rfl) ?_
  obtain ⟨t5, hf⟩ := oC_s hf
  have t5 := of_decide_eq_true t5
  refine gX4_92 (x := (some x0)) b hE rfl t5 dX4_tellRule_204 ?_
  obtain ⟨a6, ea6, hf⟩ := oN_s hf
  obtain ⟨t7, hf⟩ := oC_s hf
  have t7 := of_decide_eq_true t7
  obtain ⟨h8, eh8, hf⟩ := oL_s hf
  refine pX4_132 (x := x2) b hE ea6 t7 eh8 dX4_tellRule_207 (fun H locs hE => ?_)
  cases hf
  exact k_vret b hlk hr hE (le_c hk) (le_c hs) dX4_tellRule_210
def fX4_tellRule_161  (h : PH) (x0 : Nat) (x1 : Int32) (x2 : Option Nat) : Option (PH × Nat × Nat) :=
  oC (decide (hT h x0 = 5)) (oB2 (fX4_expect h x0 256) (fun h12 r11 => if x1 = 311 then (oN x2 (fun a19 => oC (decide (hT h12 a19 = 9)) (oC (decide (hT h12 x0 = 5)) (oB3 (fX4_takeHead h12 x0 (hR h12 1029 a19)) (fun h23 i24 j25 => oK3 i24 j25 (fX4_tellRule_195  h23 x0 x2)))))) else (oN x2 (fun a14 => oC (decide (hT h12 a14 = 9)) (oC (decide (hT h12 x0 = 5)) (oB (fX4_literal h12 x0 (hR h12 1029 a14)) (fun h18 => fX4_tellRule_195  h18 x0 x2)))))))
set_option maxHeartbeats 4000000 in
theorem wfX4_tellRule_161 {mc ms cells slots : Nat} {args : Array Value} (b : Bd p s m c cX4_tellRule 6 RX4 D aC) (hlk : meth.locks = false) (hr : meth.sig.returnType = none) {Z : State → Prop} (zs : Z s) (zk : ZOK Z (Rg ad)) {hz : PH} {h : PH} {x0 : Nat} {x1 : Int32} {x2 : Option Nat} {kz : Nat} {mz : Nat}  {H : Heap} {locs : List Loc} {ls : Array Slot} (hf : fX4_tellRule_161 h x0 x1 x2 = some (hz, kz, mz)) (hk : cells + kz ≤ mc) (hs : slots + mz ≤ ms) (hE : CE (EX D aC ad h) (Rg ad) s H locs) (hl : lv_has ls 6 [(0, .ref (ad x0)), (1, .int x1), (2, va_rf (Option.map ad x2))]) : W p l e (RM 29 714 mc ms) s m args below meth c H locs cells slots (MQ below (PQ (EX D aC ad hz) (Rg ad) none) args s mc ms (Rg ad)) (F0 m 161 ls []) := by
  unfold fX4_tellRule_161 at hf
  refine lv_aload_n b.1 b.2.1 dX4_tellRule_161 rfl (lv_at hl 0 rfl) ?_
  refine lv_sipush (v := 256) b.1 b.2.1 dX4_tellRule_162 (by decide) ?_
  obtain ⟨t9, hf⟩ := oC_s hf
  have t9 := of_decide_eq_true t9
  obtain ⟨h12, r11, hc10, hf⟩ := oB2_s hf
  refine k_callV0 (C := RX4) b zs zk hE (CX4_expect l D aC ad zk hc10) mc_X4_expect (in2 179 rfl rfl) mi_X4_expect ms_X4_expect ini_RX4 ok_X4_expect (x_recv b hE (ci := 4) rfl (by decide) t9) ⟨Nat.le_of_ble_eq_true rfl, Nat.le_of_ble_eq_true rfl⟩ rfl hl.1 rfl (k_room _ (by exact Nat.le_of_ble_eq_true rfl)) ⟨le_0 hk, le_0 hs⟩ dX4_tellRule_165 (fun H locs hE => ?_)
  refine lv_pop b.1 b.2.1 dX4_tellRule_168 rfl ?_
  refine lv_iload_n b.1 b.2.1 dX4_tellRule_169 rfl (lv_at hl 1 rfl) ?_
  refine lv_sipush (v := 311) b.1 b.2.1 dX4_tellRule_170 (by decide) ?_
  refine lv_icmp_ne (tgt := 187) b.1 b.2.1 dX4_tellRule_173 (by decide) (fun c13 => ?_) (fun c13 => ?_)
  · have hf := oI_f c13 hf
    refine lv_aload_n b.1 b.2.1 dX4_tellRule_187 rfl (lv_at hl 0 rfl) ?_
    refine k_aload_n (x := Option.map ad x2) b dX4_tellRule_188 rfl (lv_at hl 2 rfl) ?_
    obtain ⟨a14, ea14, hf⟩ := oN_s hf
    obtain ⟨t15, hf⟩ := oC_s hf
    have t15 := of_decide_eq_true t15
    refine gX4_123 (x := x2) b hE ea14 t15 dX4_tellRule_189 ?_
    obtain ⟨t16, hf⟩ := oC_s hf
    have t16 := of_decide_eq_true t16
    obtain ⟨h18, hc17, hf⟩ := oB_s hf
    refine k_callV0 (C := RX4) b zs zk hE (CX4_literal l D aC ad zk hc17) mc_X4_literal (in3 107 rfl rfl) mi_X4_literal ms_X4_literal ini_RX4 ok_X4_literal (x_recv b hE (ci := 4) rfl (by decide) t16) ⟨Nat.le_of_ble_eq_true rfl, Nat.le_of_ble_eq_true rfl⟩ rfl hl.1 rfl (k_room _ (by exact Nat.le_of_ble_eq_true rfl)) ⟨le_0 hk, le_0 hs⟩ dX4_tellRule_192 (fun H locs hE => ?_)
    exact wfX4_tellRule_195 b hlk hr zs zk  hf hk hs hE (lv_sub hl [0, 2] rfl)
  · have hf := oI_t c13 hf
    refine lv_aload_n b.1 b.2.1 dX4_tellRule_176 rfl (lv_at hl 0 rfl) ?_
    refine k_aload_n (x := Option.map ad x2) b dX4_tellRule_177 rfl (lv_at hl 2 rfl) ?_
    obtain ⟨a19, ea19, hf⟩ := oN_s hf
    obtain ⟨t20, hf⟩ := oC_s hf
    have t20 := of_decide_eq_true t20
    refine gX4_123 (x := x2) b hE ea19 t20 dX4_tellRule_178 ?_
    obtain ⟨t21, hf⟩ := oC_s hf
    have t21 := of_decide_eq_true t21
    obtain ⟨h23, i24, j25, hc22, hf⟩ := oB3_s hf
    obtain ⟨i26, j27, ei26, ej27, hf⟩ := oK3_s hf
    refine k_callV (C := RX4) b zs zk hE (CX4_takeHead l D aC ad zk hc22) mc_X4_takeHead (in3 119 rfl rfl) mi_X4_takeHead ms_X4_takeHead ini_RX4 ok_X4_takeHead (x_recv b hE (ci := 4) rfl (by decide) t21) ⟨Nat.le_of_ble_eq_true rfl, Nat.le_of_ble_eq_true rfl⟩ rfl hl.1 rfl (k_room _ (by exact Nat.le_of_ble_eq_true rfl)) ⟨le_room hk ei26, le_room hs ej27⟩ dX4_tellRule_181 (fun H locs hE => ?_)
    have hk := le_step hk ei26
    have hs := le_step hs ej27
    refine lv_goto (tgt := 195) b.1 b.2.1 dX4_tellRule_184 (by decide) ?_
    exact wfX4_tellRule_195 b hlk hr zs zk  hf hk hs hE (lv_sub hl [0, 2] rfl)
def fX4_tellRule_148 (k71 : PH → Nat → Int32 → Option Nat → Int32 → Int32 → Option (PH × Nat × Nat)) (h : PH) (x0 : Nat) (x1 : Int32) (x2 : Option Nat) (x4 : Int32) : Option (PH × Nat × Nat) :=
  oC (decide (hT h x0 = 5)) (oB2 (fX4_skip h x0 44) (fun h31 r30 => oL (x4 + 1) (fun y32 => k71 h31 x0 x1 x2 r30 y32)))
set_option maxHeartbeats 4000000 in
theorem wfX4_tellRule_148 {mc ms cells slots : Nat} {args : Array Value} (b : Bd p s m c cX4_tellRule 6 RX4 D aC) (hlk : meth.locks = false) (hr : meth.sig.returnType = none) {Z : State → Prop} (zs : Z s) (zk : ZOK Z (Rg ad)) {hz : PH} {k71 : PH → Nat → Int32 → Option Nat → Int32 → Int32 → Option (PH × Nat × Nat)} (H71 : ∀ (h : PH) (x0 : Nat) (x1 : Int32) (x2 : Option Nat) (x3 : Int32) (x4 : Int32), ∀ (cells slots kz mz : Nat) (H : Heap) (locs : List Loc) (ls : Array Slot), k71 h x0 x1 x2 x3 x4 = some (hz, kz, mz) → cells + kz ≤ mc → slots + mz ≤ ms → CE (EX D aC ad h) (Rg ad) s H locs → lv_has ls 6 [(0, .ref (ad x0)), (1, .int x1), (2, va_rf (Option.map ad x2)), (3, .int x3), (4, .int x4)] → W p l e (RM 29 714 mc ms) s m args below meth c H locs cells slots (MQ below (PQ (EX D aC ad hz) (Rg ad) none) args s mc ms (Rg ad)) (F0 m 71 ls [])) {h : PH} {x0 : Nat} {x1 : Int32} {x2 : Option Nat} {x4 : Int32} {kz : Nat} {mz : Nat}  {H : Heap} {locs : List Loc} {ls : Array Slot} (hf : fX4_tellRule_148 k71 h x0 x1 x2 x4 = some (hz, kz, mz)) (hk : cells + kz ≤ mc) (hs : slots + mz ≤ ms) (hE : CE (EX D aC ad h) (Rg ad) s H locs) (hl : lv_has ls 6 [(0, .ref (ad x0)), (1, .int x1), (2, va_rf (Option.map ad x2)), (4, .int x4)]) : W p l e (RM 29 714 mc ms) s m args below meth c H locs cells slots (MQ below (PQ (EX D aC ad hz) (Rg ad) none) args s mc ms (Rg ad)) (F0 m 148 ls []) := by
  unfold fX4_tellRule_148 at hf
  refine lv_aload_n b.1 b.2.1 dX4_tellRule_148 rfl (lv_at hl 0 rfl) ?_
  refine lv_bipush (v := 44) b.1 b.2.1 dX4_tellRule_149 (by decide) ?_
  obtain ⟨t28, hf⟩ := oC_s hf
  have t28 := of_decide_eq_true t28
  obtain ⟨h31, r30, hc29, hf⟩ := oB2_s hf
  refine k_callV0 (C := RX4) b zs zk hE (CX4_skip l D aC ad zk hc29) mc_X4_skip (in3 69 rfl rfl) mi_X4_skip ms_X4_skip ini_RX4 ok_X4_skip (x_recv b hE (ci := 4) rfl (by decide) t28) ⟨Nat.le_of_ble_eq_true rfl, Nat.le_of_ble_eq_true rfl⟩ rfl hl.1 rfl (k_room _ (by exact Nat.le_of_ble_eq_true rfl)) ⟨le_0 hk, le_0 hs⟩ dX4_tellRule_151 (fun H locs hE => ?_)
  refine lv_istore_n (lv' := [(3, .int r30), (0, .ref (ad x0)), (1, .int x1), (2, va_rf (Option.map ad x2)), (4, .int x4)]) b.1 b.2.1 dX4_tellRule_154 rfl hl (by decide) (by cases x2 <;> rfl) (fun ls hl => ?_)
  obtain ⟨y32, ey32, hf⟩ := oL_s hf
  refine lv_iinc (v := y32) (lv' := [(4, .int y32), (3, .int r30), (0, .ref (ad x0)), (1, .int x1), (2, va_rf (Option.map ad x2))]) b.1 b.2.1 dX4_tellRule_155 hl (k := 4) rfl (by rw [ey32]; rfl) (by decide) rfl (fun ls hl => ?_)
  refine lv_goto (tgt := 71) b.1 b.2.1 dX4_tellRule_158 (by decide) ?_
  exact H71 h31 x0 x1 x2 r30 y32 _ _ _ _ _ _ _ hf hk hs hE (lv_sub hl [2, 3, 4, 1, 0] rfl)
def fX4_tellRule_133 (k71 : PH → Nat → Int32 → Option Nat → Int32 → Int32 → Option (PH × Nat × Nat)) (h : PH) (x0 : Nat) (x1 : Int32) (x2 : Option Nat) (x4 : Int32) (x5 : Option Nat) : Option (PH × Nat × Nat) :=
  oC (decide (hT h x0 = 5)) (oB (fX4_likeness h x0 x5) (fun h35 => fX4_tellRule_148 k71 h35 x0 x1 x2 x4))
set_option maxHeartbeats 4000000 in
theorem wfX4_tellRule_133 {mc ms cells slots : Nat} {args : Array Value} (b : Bd p s m c cX4_tellRule 6 RX4 D aC) (hlk : meth.locks = false) (hr : meth.sig.returnType = none) {Z : State → Prop} (zs : Z s) (zk : ZOK Z (Rg ad)) {hz : PH} {k71 : PH → Nat → Int32 → Option Nat → Int32 → Int32 → Option (PH × Nat × Nat)} (H71 : ∀ (h : PH) (x0 : Nat) (x1 : Int32) (x2 : Option Nat) (x3 : Int32) (x4 : Int32), ∀ (cells slots kz mz : Nat) (H : Heap) (locs : List Loc) (ls : Array Slot), k71 h x0 x1 x2 x3 x4 = some (hz, kz, mz) → cells + kz ≤ mc → slots + mz ≤ ms → CE (EX D aC ad h) (Rg ad) s H locs → lv_has ls 6 [(0, .ref (ad x0)), (1, .int x1), (2, va_rf (Option.map ad x2)), (3, .int x3), (4, .int x4)] → W p l e (RM 29 714 mc ms) s m args below meth c H locs cells slots (MQ below (PQ (EX D aC ad hz) (Rg ad) none) args s mc ms (Rg ad)) (F0 m 71 ls [])) {h : PH} {x0 : Nat} {x1 : Int32} {x2 : Option Nat} {x4 : Int32} {x5 : Option Nat} {kz : Nat} {mz : Nat}  {H : Heap} {locs : List Loc} {ls : Array Slot} (hf : fX4_tellRule_133 k71 h x0 x1 x2 x4 x5 = some (hz, kz, mz)) (hk : cells + kz ≤ mc) (hs : slots + mz ≤ ms) (hE : CE (EX D aC ad h) (Rg ad) s H locs) (hl : lv_has ls 6 [(0, .ref (ad x0)), (1, .int x1), (2, va_rf (Option.map ad x2)), (4, .int x4), (5, va_rf (Option.map ad x5))]) : W p l e (RM 29 714 mc ms) s m args below meth c H locs cells slots (MQ below (PQ (EX D aC ad hz) (Rg ad) none) args s mc ms (Rg ad)) (F0 m 133 ls []) := by
  unfold fX4_tellRule_133 at hf
  refine lv_aload_n b.1 b.2.1 dX4_tellRule_133 rfl (lv_at hl 0 rfl) ?_
  refine k_aload (x := Option.map ad x5) b dX4_tellRule_134 (lv_at hl 4 rfl) ?_
  obtain ⟨t33, hf⟩ := oC_s hf
  have t33 := of_decide_eq_true t33
  obtain ⟨h35, hc34, hf⟩ := oB_s hf
  refine k_callV0 (C := RX4) b zs zk hE (CX4_likeness l D aC ad zk hc34) mc_X4_likeness (in3 103 rfl rfl) mi_X4_likeness ms_X4_likeness ini_RX4 ok_X4_likeness (x_recv b hE (ci := 4) rfl (by decide) t33) ⟨Nat.le_of_ble_eq_true rfl, Nat.le_of_ble_eq_true rfl⟩ rfl hl.1 rfl (k_room _ (by exact Nat.le_of_ble_eq_true rfl)) ⟨le_0 hk, le_0 hs⟩ dX4_tellRule_136 (fun H locs hE => ?_)
  refine lv_goto (tgt := 148) b.1 b.2.1 dX4_tellRule_139 (by decide) ?_
  exact wfX4_tellRule_148 b hlk hr zs zk H71 hf hk hs hE (lv_sub hl [0, 1, 2, 3] rfl)
def fX4_tellRule_71F (k71 : PH → Nat → Int32 → Option Nat → Int32 → Int32 → Option (PH × Nat × Nat)) (h : PH) (x0 : Nat) (x1 : Int32) (x2 : Option Nat) (x3 : Int32) (x4 : Int32) : Option (PH × Nat × Nat) :=
  if 6 < x4 then (fX4_tellRule_161  h x0 x1 x2) else (if x3 = 0 then (fX4_tellRule_161  h x0 x1 x2) else (oC (decide (hT h x0 = 5)) (oB4 (fX4_startCondition h x0 x2) (fun h41 r40 i42 j43 => oK3 i42 j43 (if r40 = none then (some (h41, 0, 0)) else (oC (decide (hT h41 x0 = 5)) (oL (hI h41 521 x0) (fun y48 => if y48 = 314 then (fX4_tellRule_133 k71 h41 x0 x1 x2 x4 r40) else (if y48 = 315 then (fX4_tellRule_133 k71 h41 x0 x1 x2 x4 r40) else (if y48 = 316 then (oB3 (fX4_comparison h41 x0 r40) (fun h53 i54 j55 => oK3 i54 j55 (fX4_tellRule_148 k71 h53 x0 x1 x2 x4))) else (oB (fX4_literal h41 x0 r40) (fun h59 => fX4_tellRule_148 k71 h59 x0 x1 x2 x4))))))))))))
set_option maxHeartbeats 4000000 in
theorem wfX4_tellRule_71F {mc ms cells slots : Nat} {args : Array Value} (b : Bd p s m c cX4_tellRule 6 RX4 D aC) (hlk : meth.locks = false) (hr : meth.sig.returnType = none) {Z : State → Prop} (zs : Z s) (zk : ZOK Z (Rg ad)) {hz : PH} {k71 : PH → Nat → Int32 → Option Nat → Int32 → Int32 → Option (PH × Nat × Nat)} (H71 : ∀ (h : PH) (x0 : Nat) (x1 : Int32) (x2 : Option Nat) (x3 : Int32) (x4 : Int32), ∀ (cells slots kz mz : Nat) (H : Heap) (locs : List Loc) (ls : Array Slot), k71 h x0 x1 x2 x3 x4 = some (hz, kz, mz) → cells + kz ≤ mc → slots + mz ≤ ms → CE (EX D aC ad h) (Rg ad) s H locs → lv_has ls 6 [(0, .ref (ad x0)), (1, .int x1), (2, va_rf (Option.map ad x2)), (3, .int x3), (4, .int x4)] → W p l e (RM 29 714 mc ms) s m args below meth c H locs cells slots (MQ below (PQ (EX D aC ad hz) (Rg ad) none) args s mc ms (Rg ad)) (F0 m 71 ls [])) {h : PH} {x0 : Nat} {x1 : Int32} {x2 : Option Nat} {x3 : Int32} {x4 : Int32} {kz : Nat} {mz : Nat}  {H : Heap} {locs : List Loc} {ls : Array Slot} (hf : fX4_tellRule_71F k71 h x0 x1 x2 x3 x4 = some (hz, kz, mz)) (hk : cells + kz ≤ mc) (hs : slots + mz ≤ ms) (hE : CE (EX D aC ad h) (Rg ad) s H locs) (hl : lv_has ls 6 [(0, .ref (ad x0)), (1, .int x1), (2, va_rf (Option.map ad x2)), (3, .int x3), (4, .int x4)]) : W p l e (RM 29 714 mc ms) s m args below meth c H locs cells slots (MQ below (PQ (EX D aC ad hz) (Rg ad) none) args s mc ms (Rg ad)) (F0 m 71 ls []) := by
  unfold fX4_tellRule_71F at hf
  refine lv_iload b.1 b.2.1 dX4_tellRule_71 (lv_at hl 4 rfl) ?_
  refine lv_bipush (v := 6) b.1 b.2.1 dX4_tellRule_73 (by decide) ?_
  refine lv_icmp_gt (tgt := 161) b.1 b.2.1 dX4_tellRule_75 (by decide) (fun c36 => ?_) (fun c36 => ?_)
  · have hf := oI_t c36 hf
    exact wfX4_tellRule_161 b hlk hr zs zk  hf hk hs hE (lv_sub hl [0, 1, 2] rfl)
  · have hf := oI_f c36 hf
    refine lv_iload_n b.1 b.2.1 dX4_tellRule_78 rfl (lv_at hl 3 rfl) ?_
    refine lv_if_eq (tgt := 161) b.1 b.2.1 dX4_tellRule_79 (by decide) (fun c37 => ?_) (fun c37 => ?_)
    · have hf := oI_t c37 hf
      exact wfX4_tellRule_161 b hlk hr zs zk  hf hk hs hE (lv_sub hl [0, 1, 2] rfl)
    · have hf := oI_f c37 hf
      refine lv_aload_n b.1 b.2.1 dX4_tellRule_82 rfl (lv_at hl 0 rfl) ?_
      refine k_aload_n (x := Option.map ad x2) b dX4_tellRule_83 rfl (lv_at hl 2 rfl) ?_
      obtain ⟨t38, hf⟩ := oC_s hf
      have t38 := of_decide_eq_true t38
      obtain ⟨h41, r40, i42, j43, hc39, hf⟩ := oB4_s hf
      obtain ⟨i44, j45, ei44, ej45, hf⟩ := oK3_s hf
      refine k_callV (C := RX4) b zs zk hE (CX4_startCondition l D aC ad zk hc39) mc_X4_startCondition (in3 53 rfl rfl) mi_X4_startCondition ms_X4_startCondition ini_RX4 ok_X4_startCondition (x_recv b hE (ci := 4) rfl (by decide) t38) ⟨Nat.le_of_ble_eq_true rfl, Nat.le_of_ble_eq_true rfl⟩ rfl hl.1 rfl (k_room _ (by exact Nat.le_of_ble_eq_true rfl)) ⟨le_room hk ei44, le_room hs ej45⟩ dX4_tellRule_84 (fun H locs hE => ?_)
      have hk := le_step hk ei44
      have hs := le_step hs ej45
      refine k_astore (x := Option.map ad r40) (lv' := [(5, va_rf (Option.map ad r40)), (0, .ref (ad x0)), (1, .int x1), (2, va_rf (Option.map ad x2)), (3, .int x3), (4, .int x4)]) b dX4_tellRule_87 hl (by decide) rfl (fun ls hl => ?_)
      have hl := lv_sub (l' := [(5, va_rf (Option.map ad r40)), (0, .ref (ad x0)), (1, .int x1), (2, va_rf (Option.map ad x2)), (4, .int x4)]) hl [0, 1, 2, 3, 5] rfl
      refine k_aload (x := Option.map ad r40) b dX4_tellRule_89 (lv_at hl 0 rfl) ?_
      refine k_ifnonnull (x := Option.map ad r40) b dX4_tellRule_91 (tgt := 95) (by decide) (fun c46 => ?_) (fun c46 => ?_)
      · have hf := oI_f (fun z => c46 (Option.map_eq_none_iff.mpr z)) hf
        refine lv_aload_n b.1 b.2.1 dX4_tellRule_95 rfl (lv_at hl 1 rfl) ?_
        obtain ⟨t47, hf⟩ := oC_s hf
        have t47 := of_decide_eq_true t47
        refine gX4_60 (x := (some x0)) b hE rfl t47 dX4_tellRule_96 ?_
        obtain ⟨y48, ey48, hf⟩ := oL_s hf
        refine k_nmI ey48 ?_
        rcases Decidable.em (y48 = 314) with c49 | c49
        · have hf := oI_t c49 hf
          refine lv_tableIn (tgt := 133) b.1 b.2.1 dX4_tellRule_99 (off := 34) (by rw [c49]; decide) (by rw [c49]; decide) (by rw [c49] <;> rfl) (by decide) ?_
          exact wfX4_tellRule_133 b hlk hr zs zk H71 hf hk hs hE (lv_sub hl [1, 2, 3, 4, 0] rfl)
        have hf := oI_f c49 hf
        rcases Decidable.em (y48 = 315) with c50 | c50
        · have hf := oI_t c50 hf
          refine lv_tableIn (tgt := 133) b.1 b.2.1 dX4_tellRule_99 (off := 34) (by rw [c50]; decide) (by rw [c50]; decide) (by rw [c50] <;> rfl) (by decide) ?_
          exact wfX4_tellRule_133 b hlk hr zs zk H71 hf hk hs hE (lv_sub hl [1, 2, 3, 4, 0] rfl)
        have hf := oI_f c50 hf
        rcases Decidable.em (y48 = 316) with c51 | c51
        · have hf := oI_t c51 hf
          refine lv_tableIn (tgt := 124) b.1 b.2.1 dX4_tellRule_99 (off := 25) (by rw [c51]; decide) (by rw [c51]; decide) (by rw [c51] <;> rfl) (by decide) ?_
          refine lv_aload_n b.1 b.2.1 dX4_tellRule_124 rfl (lv_at hl 1 rfl) ?_
          refine k_aload (x := Option.map ad r40) b dX4_tellRule_125 (lv_at hl 0 rfl) ?_
          obtain ⟨h53, i54, j55, hc52, hf⟩ := oB3_s hf
          obtain ⟨i56, j57, ei56, ej57, hf⟩ := oK3_s hf
          refine k_callV (C := RX4) b zs zk hE (CX4_comparison l D aC ad zk hc52) mc_X4_comparison (in3 61 rfl rfl) mi_X4_comparison ms_X4_comparison ini_RX4 ok_X4_comparison (x_recv b hE (ci := 4) rfl (by decide) t47) ⟨Nat.le_of_ble_eq_true rfl, Nat.le_of_ble_eq_true rfl⟩ rfl hl.1 rfl (k_room _ (by exact Nat.le_of_ble_eq_true rfl)) ⟨le_room hk ei56, le_room hs ej57⟩ dX4_tellRule_127 (fun H locs hE => ?_)
          have hk := le_step hk ei56
          have hs := le_step hs ej57
          refine lv_goto (tgt := 148) b.1 b.2.1 dX4_tellRule_130 (by decide) ?_
          exact wfX4_tellRule_148 b hlk hr zs zk H71 hf hk hs hE (lv_sub hl [1, 2, 3, 4] rfl)
        have hf := oI_f c51 hf
        have c49 := lv_neT (a := 314) c49 (by decide)
        have c50 := lv_neT (a := 315) c50 (by decide)
        have c51 := lv_neT (a := 316) c51 (by decide)
        refine lv_tableOut (tgt := 142) b.1 b.2.1 dX4_tellRule_99 (by omega) (by decide) ?_
        refine lv_aload_n b.1 b.2.1 dX4_tellRule_142 rfl (lv_at hl 1 rfl) ?_
        refine k_aload (x := Option.map ad r40) b dX4_tellRule_143 (lv_at hl 0 rfl) ?_
        obtain ⟨h59, hc58, hf⟩ := oB_s hf
        refine k_callV0 (C := RX4) b zs zk hE (CX4_literal l D aC ad zk hc58) mc_X4_literal (in3 107 rfl rfl) mi_X4_literal ms_X4_literal ini_RX4 ok_X4_literal (x_recv b hE (ci := 4) rfl (by decide) t47) ⟨Nat.le_of_ble_eq_true rfl, Nat.le_of_ble_eq_true rfl⟩ rfl hl.1 rfl (k_room _ (by exact Nat.le_of_ble_eq_true rfl)) ⟨le_0 hk, le_0 hs⟩ dX4_tellRule_145 (fun H locs hE => ?_)
        exact wfX4_tellRule_148 b hlk hr zs zk H71 hf hk hs hE (lv_sub hl [1, 2, 3, 4] rfl)
      · have hf := oI_t (Option.map_eq_none_iff.mp c46) hf
        cases hf
        exact k_vret b hlk hr hE (le_c hk) (le_c hs) dX4_tellRule_94
def fX4_tellRule_71  : Nat → PH → Nat → Int32 → Option Nat → Int32 → Int32 → Option (PH × Nat × Nat)
  | 0 => fun _ _ _ _ _ _ => none
  | n + 1 => fX4_tellRule_71F  (fX4_tellRule_71  n)
set_option maxHeartbeats 4000000 in
theorem wfX4_tellRule_71 {mc ms : Nat} {args : Array Value} (b : Bd p s m c cX4_tellRule 6 RX4 D aC) (hlk : meth.locks = false) (hr : meth.sig.returnType = none) {Z : State → Prop} (zs : Z s) (zk : ZOK Z (Rg ad)) {hz : PH} : ∀ n : Nat, ∀ (h : PH) (x0 : Nat) (x1 : Int32) (x2 : Option Nat) (x3 : Int32) (x4 : Int32), ∀ (cells slots kz mz : Nat) (H : Heap) (locs : List Loc) (ls : Array Slot), fX4_tellRule_71  n h x0 x1 x2 x3 x4 = some (hz, kz, mz) → cells + kz ≤ mc → slots + mz ≤ ms → CE (EX D aC ad h) (Rg ad) s H locs → lv_has ls 6 [(0, .ref (ad x0)), (1, .int x1), (2, va_rf (Option.map ad x2)), (3, .int x3), (4, .int x4)] → W p l e (RM 29 714 mc ms) s m args below meth c H locs cells slots (MQ below (PQ (EX D aC ad hz) (Rg ad) none) args s mc ms (Rg ad)) (F0 m 71 ls []) := by
  intro n
  induction n with
  | zero =>
    intro h x0 x1 x2 x3 x4 cells slots kz mz H locs ls hf
    have hf : (none : Option (PH × Nat × Nat)) = some _ := hf
    cases hf
  | succ n ih =>
    intro h x0 x1 x2 x3 x4 cells slots kz mz H locs ls hf hk hs hE hl
    exact wfX4_tellRule_71F b hlk hr zs zk  ih hf hk hs hE hl
def fX4_tellRule_67  (h : PH) (x0 : Nat) (x1 : Int32) (x2 : Option Nat) (s0 : Int32) : Option (PH × Nat × Nat) :=
  fX4_tellRule_71  FU h x0 x1 x2 s0 0
set_option maxHeartbeats 4000000 in
theorem wfX4_tellRule_67 {mc ms cells slots : Nat} {args : Array Value} (b : Bd p s m c cX4_tellRule 6 RX4 D aC) (hlk : meth.locks = false) (hr : meth.sig.returnType = none) {Z : State → Prop} (zs : Z s) (zk : ZOK Z (Rg ad)) {hz : PH} {h : PH} {x0 : Nat} {x1 : Int32} {x2 : Option Nat} {s0 : Int32} {kz : Nat} {mz : Nat}  {H : Heap} {locs : List Loc} {ls : Array Slot} (hf : fX4_tellRule_67 h x0 x1 x2 s0 = some (hz, kz, mz)) (hk : cells + kz ≤ mc) (hs : slots + mz ≤ ms) (hE : CE (EX D aC ad h) (Rg ad) s H locs) (hl : lv_has ls 6 [(0, .ref (ad x0)), (1, .int x1), (2, va_rf (Option.map ad x2))]) : W p l e (RM 29 714 mc ms) s m args below meth c H locs cells slots (MQ below (PQ (EX D aC ad hz) (Rg ad) none) args s mc ms (Rg ad)) (F0 m 67 ls [.int s0]) := by
  unfold fX4_tellRule_67 at hf
  refine lv_istore_n (lv' := [(3, .int s0), (0, .ref (ad x0)), (1, .int x1), (2, va_rf (Option.map ad x2))]) b.1 b.2.1 dX4_tellRule_67 rfl hl (by decide) (by cases x2 <;> rfl) (fun ls hl => ?_)
  refine lv_iconst (v := 0) b.1 b.2.1 dX4_tellRule_68 (by decide) ?_
  refine lv_istore (lv' := [(4, .int 0), (3, .int s0), (0, .ref (ad x0)), (1, .int x1), (2, va_rf (Option.map ad x2))]) b.1 b.2.1 dX4_tellRule_69 hl (by decide) rfl (fun ls hl => ?_)
  exact wfX4_tellRule_71 b hlk hr zs zk  FU h x0 x1 x2 s0 0 _ _ _ _ _ _ _ hf hk hs hE (lv_sub hl [2, 3, 4, 1, 0] rfl)
def fX4_tellRule_0  (h : PH) (x0 : Nat) : Option (PH × Nat × Nat) :=
  oC (decide (hT h x0 = 5)) (oL (hI h 521 x0) (fun y61 => oL (sI h 516 x0 0) (fun h62 => oB2 (fX4_expect h62 x0 y61) (fun h66 r65 => oC (decide (hT h66 x0 = 5)) (oN (hR h66 512 x0) (fun a68 => oC (decide (hT h66 a68 = 2)) (oB2 (fX4_tellName h66 x0 (hR h66 132 a68)) (fun h72 r71 => oC (decide (hT h72 a68 = 2)) (oB4 (fX1_newRule h72 a68 r71 (y61 - 309)) (fun h76 r75 i77 j78 => oK3 i77 j78 (if r75 = none then (some (h76, 0, 0)) else (oC (decide (hT h76 x0 = 5)) (oB2 (fX4_expect h76 x0 58) (fun h85 r84 => oC (decide (hT h85 x0 = 5)) (if (hI h85 521 x0) = 256 then (fX4_tellRule_67  h85 x0 y61 r75 0) else (fX4_tellRule_67  h85 x0 y61 r75 1))))))))))))))))
set_option maxHeartbeats 4000000 in
theorem wfX4_tellRule_0 {mc ms cells slots : Nat} {args : Array Value} (b : Bd p s m c cX4_tellRule 6 RX4 D aC) (hlk : meth.locks = false) (hr : meth.sig.returnType = none) {Z : State → Prop} (zs : Z s) (zk : ZOK Z (Rg ad)) {hz : PH} {h : PH} {x0 : Nat} {kz : Nat} {mz : Nat}  {H : Heap} {locs : List Loc} {ls : Array Slot} (hf : fX4_tellRule_0 h x0 = some (hz, kz, mz)) (hk : cells + kz ≤ mc) (hs : slots + mz ≤ ms) (hE : CE (EX D aC ad h) (Rg ad) s H locs) (hl : lv_has ls 6 [(0, .ref (ad x0))]) : W p l e (RM 29 714 mc ms) s m args below meth c H locs cells slots (MQ below (PQ (EX D aC ad hz) (Rg ad) none) args s mc ms (Rg ad)) (F0 m 0 ls []) := by
  unfold fX4_tellRule_0 at hf
  refine lv_aload_n b.1 b.2.1 dX4_tellRule_0 rfl (lv_at hl 0 rfl) ?_
  obtain ⟨t60, hf⟩ := oC_s hf
  have t60 := of_decide_eq_true t60
  refine gX4_60 (x := (some x0)) b hE rfl t60 dX4_tellRule_1 ?_
  obtain ⟨y61, ey61, hf⟩ := oL_s hf
  refine k_nmI ey61 ?_
  refine lv_istore_n (lv' := [(1, .int y61), (0, .ref (ad x0))]) b.1 b.2.1 dX4_tellRule_4 rfl hl (by decide) rfl (fun ls hl => ?_)
  refine lv_aload_n b.1 b.2.1 dX4_tellRule_5 rfl (lv_at hl 1 rfl) ?_
  refine lv_iconst (v := 0) b.1 b.2.1 dX4_tellRule_6 (by decide) ?_
  obtain ⟨h62, eh62, hf⟩ := oL_s hf
  refine pX4_92 (x := (some x0)) b hE rfl t60 eh62 dX4_tellRule_7 (fun H locs hE => ?_)
  refine lv_aload_n b.1 b.2.1 dX4_tellRule_10 rfl (lv_at hl 1 rfl) ?_
  refine lv_iload_n b.1 b.2.1 dX4_tellRule_11 rfl (lv_at hl 0 rfl) ?_
  have t63 := tg_sI eh62 t60
  obtain ⟨h66, r65, hc64, hf⟩ := oB2_s hf
  refine k_callV0 (C := RX4) b zs zk hE (CX4_expect l D aC ad zk hc64) mc_X4_expect (in2 179 rfl rfl) mi_X4_expect ms_X4_expect ini_RX4 ok_X4_expect (x_recv b hE (ci := 4) rfl (by decide) t63) ⟨Nat.le_of_ble_eq_true rfl, Nat.le_of_ble_eq_true rfl⟩ rfl hl.1 rfl (k_room _ (by exact Nat.le_of_ble_eq_true rfl)) ⟨le_0 hk, le_0 hs⟩ dX4_tellRule_12 (fun H locs hE => ?_)
  refine lv_pop b.1 b.2.1 dX4_tellRule_15 rfl ?_
  refine lv_aload_n b.1 b.2.1 dX4_tellRule_16 rfl (lv_at hl 1 rfl) ?_
  obtain ⟨t67, hf⟩ := oC_s hf
  have t67 := of_decide_eq_true t67
  refine gX4_25 (x := (some x0)) b hE rfl t67 dX4_tellRule_17 ?_
  refine lv_aload_n b.1 b.2.1 dX4_tellRule_20 rfl (lv_at hl 1 rfl) ?_
  refine lv_aload_n b.1 b.2.1 dX4_tellRule_21 rfl (lv_at hl 1 rfl) ?_
  refine gX4_25 (x := (some x0)) b hE rfl t67 dX4_tellRule_22 ?_
  obtain ⟨a68, ea68, hf⟩ := oN_s hf
  obtain ⟨t69, hf⟩ := oC_s hf
  have t69 := of_decide_eq_true t69
  refine gX4_95 (x := (hR h66 512 x0)) b hE ea68 t69 dX4_tellRule_25 ?_
  obtain ⟨h72, r71, hc70, hf⟩ := oB2_s hf
  refine k_callV0 (C := RX4) b zs zk hE (CX4_tellName l D aC ad zk hc70) mc_X4_tellName (in2 187 rfl rfl) mi_X4_tellName ms_X4_tellName ini_RX4 ok_X4_tellName (x_recv b hE (ci := 4) rfl (by decide) t67) ⟨Nat.le_of_ble_eq_true rfl, Nat.le_of_ble_eq_true rfl⟩ rfl hl.1 rfl (k_room _ (by exact Nat.le_of_ble_eq_true rfl)) ⟨le_0 hk, le_0 hs⟩ dX4_tellRule_28 (fun H locs hE => ?_)
  refine lv_iload_n b.1 b.2.1 dX4_tellRule_31 rfl (lv_at hl 0 rfl) ?_
  refine lv_sipush (v := 309) b.1 b.2.1 dX4_tellRule_32 (by decide) ?_
  refine lv_isub b.1 b.2.1 dX4_tellRule_35 ?_
  obtain ⟨t73, hf⟩ := oC_s hf
  have t73 := of_decide_eq_true t73
  obtain ⟨h76, r75, i77, j78, hc74, hf⟩ := oB4_s hf
  obtain ⟨i79, j80, ei79, ej80, hf⟩ := oK3_s hf
  refine k_stk [.int (y61 - 309), .int r71] ea68 ?_
  refine k_callV (C := RX1) b zs zk hE (CX1_newRule l D aC ad zk hc74) mc_X1_newRule (in2 208 rfl rfl) mi_X1_newRule ms_X1_newRule ini_RX1 ok_X1_newRule (x_recv b hE (ci := 1) rfl (by decide) t73) ⟨Nat.le_of_ble_eq_true rfl, Nat.le_of_ble_eq_true rfl⟩ rfl hl.1 rfl (k_room _ (by exact Nat.le_of_ble_eq_true rfl)) ⟨le_room hk ei79, le_room hs ej80⟩ dX4_tellRule_36 (fun H locs hE => ?_)
  have hk := le_step hk ei79
  have hs := le_step hs ej80
  refine k_astore_n (x := Option.map ad r75) (lv' := [(2, va_rf (Option.map ad r75)), (1, .int y61), (0, .ref (ad x0))]) b dX4_tellRule_39 rfl hl (by decide) rfl (fun ls hl => ?_)
  refine k_aload_n (x := Option.map ad r75) b dX4_tellRule_40 rfl (lv_at hl 0 rfl) ?_
  refine k_ifnonnull (x := Option.map ad r75) b dX4_tellRule_41 (tgt := 45) (by decide) (fun c81 => ?_) (fun c81 => ?_)
  · have hf := oI_f (fun z => c81 (Option.map_eq_none_iff.mpr z)) hf
    refine lv_aload_n b.1 b.2.1 dX4_tellRule_45 rfl (lv_at hl 2 rfl) ?_
    refine lv_bipush (v := 58) b.1 b.2.1 dX4_tellRule_46 (by decide) ?_
    obtain ⟨t82, hf⟩ := oC_s hf
    have t82 := of_decide_eq_true t82
    obtain ⟨h85, r84, hc83, hf⟩ := oB2_s hf
    refine k_callV0 (C := RX4) b zs zk hE (CX4_expect l D aC ad zk hc83) mc_X4_expect (in2 179 rfl rfl) mi_X4_expect ms_X4_expect ini_RX4 ok_X4_expect (x_recv b hE (ci := 4) rfl (by decide) t82) ⟨Nat.le_of_ble_eq_true rfl, Nat.le_of_ble_eq_true rfl⟩ rfl hl.1 rfl (k_room _ (by exact Nat.le_of_ble_eq_true rfl)) ⟨le_0 hk, le_0 hs⟩ dX4_tellRule_48 (fun H locs hE => ?_)
    refine lv_pop b.1 b.2.1 dX4_tellRule_51 rfl ?_
    refine lv_aload_n b.1 b.2.1 dX4_tellRule_52 rfl (lv_at hl 2 rfl) ?_
    obtain ⟨t86, hf⟩ := oC_s hf
    have t86 := of_decide_eq_true t86
    refine gX4_60 (x := (some x0)) b hE rfl t86 dX4_tellRule_53 ?_
    refine lv_sipush (v := 256) b.1 b.2.1 dX4_tellRule_56 (by decide) ?_
    refine lv_icmp_eq (tgt := 66) b.1 b.2.1 dX4_tellRule_59 (by decide) (fun c87 => ?_) (fun c87 => ?_)
    · have hf := oI_t c87 hf
      refine lv_iconst (v := 0) b.1 b.2.1 dX4_tellRule_66 (by decide) ?_
      exact wfX4_tellRule_67 b hlk hr zs zk  hf hk hs hE (lv_sub hl [2, 1, 0] rfl)
    · have hf := oI_f c87 hf
      refine lv_iconst (v := 1) b.1 b.2.1 dX4_tellRule_62 (by decide) ?_
      refine lv_goto (tgt := 67) b.1 b.2.1 dX4_tellRule_63 (by decide) ?_
      exact wfX4_tellRule_67 b hlk hr zs zk  hf hk hs hE (lv_sub hl [2, 1, 0] rfl)
  · have hf := oI_t (Option.map_eq_none_iff.mp c81) hf
    cases hf
    exact k_vret b hlk hr hE (le_c hk) (le_c hs) dX4_tellRule_44
def fX4_tellRule (h : PH) (x0 : Nat) : Option (PH × Nat × Nat) := fX4_tellRule_0 h x0
set_option maxHeartbeats 4000000 in
theorem CX4_tellRule (l : Launch) (D : va_G) (aC : Nat → ClassId) (ad : Nat → Nat) {Z : State → Prop} (zk : ZOK Z (Rg ad)) {h : PH} {x0 : Nat} {hz : PH} {kz : Nat} {mz : Nat} (hf : fX4_tellRule h x0 = some (hz, kz, mz)) : CM l D aC Z yX4_tellRule cX4_tellRule 6 (none) 29 714 kz mz (EX D aC ad h) [.ref (ad x0)] (EX D aC ad hz) none (Rg ad) := by
  refine CM.of rfl ?_
  intro p e s m below meth c b hr hlk hin2 zs hE
  refine k_ent (Nat.le_of_ble_eq_true rfl) (fun ls hl => ?_)
  exact wfX4_tellRule_0 b hlk hr zs zk hf (by omega) (by omega) hE (lv_sub hl [0] rfl)
theorem dX10_valueAt_0 : decode cX10_valueAt 0 = .ok (.iload_n 1, 1) := by decide +kernel
theorem dX10_valueAt_1 : decode cX10_valueAt 1 = .ok (.ifCond .lt 20, 3) := by decide +kernel
theorem dX10_valueAt_4 : decode cX10_valueAt 4 = .ok (.iload_n 1, 1) := by decide +kernel
theorem dX10_valueAt_5 : decode cX10_valueAt 5 = .ok (.aload_n 0, 1) := by decide +kernel
theorem dX10_valueAt_6 : decode cX10_valueAt 6 = .ok (.getfield 45, 3) := by decide +kernel
theorem dX10_valueAt_9 : decode cX10_valueAt 9 = .ok (.if_icmp .ge 12, 3) := by decide +kernel
theorem dX10_valueAt_12 : decode cX10_valueAt 12 = .ok (.aload_n 0, 1) := by decide +kernel
theorem dX10_valueAt_13 : decode cX10_valueAt 13 = .ok (.getfield 22, 3) := by decide +kernel
theorem dX10_valueAt_16 : decode cX10_valueAt 16 = .ok (.iload_n 1, 1) := by decide +kernel
theorem dX10_valueAt_17 : decode cX10_valueAt 17 = .ok (.laload, 1) := by decide +kernel
theorem dX10_valueAt_18 : decode cX10_valueAt 18 = .ok (.goto 4, 3) := by decide +kernel
theorem dX10_valueAt_21 : decode cX10_valueAt 21 = .ok (.lconst 0, 1) := by decide +kernel
theorem dX10_valueAt_22 : decode cX10_valueAt 22 = .ok (.lreturn, 1) := by decide +kernel
def fX10_valueAt_0  (h : PH) (x0 : Nat) (x1 : Int32) : Option (Int64) :=
  if x1 < 0 then (some (0)) else (oC (decide (hT h x0 = 11)) (if (hI h 1284 x0) ≤ x1 then (some (0)) else (oN (hR h 1283 x0) (fun a4 => oC (decide (hT h a4 = 102)) (oC (ix x1 (hN h a4)) (some ((hB h a4 (Int32.toNatClampNeg x1)))))))))
set_option maxHeartbeats 4000000 in
theorem wfX10_valueAt_0 {args : Array Value} (b : Bd p s m c cX10_valueAt 2 RX10 D aC) (hlk : meth.locks = false) (hr : meth.sig.returnType = some .long) {Z : State → Prop} (zs : Z s) (zk : ZOK Z (Rg ad)) {rz : Int64} {h : PH} {x0 : Nat} {x1 : Int32}  {H : Heap} {locs : List Loc} {ls : Array Slot} (hf : fX10_valueAt_0 h x0 x1 = some rz) (hE : CE (EX D aC ad h) (Rg ad) s H locs) (hl : lv_has ls 2 [(0, .ref (ad x0)), (1, .int x1)]) : W p l e (RM 0 0 0 0) s m args below meth c H locs 0 0 (MQ below (PQ (EX D aC ad h) (Rg ad) (some (.long rz))) args s 0 0 (Rg ad)) (F0 m 0 ls []) := by
  unfold fX10_valueAt_0 at hf
  refine lv_iload_n b.1 b.2.1 dX10_valueAt_0 rfl (lv_at hl 1 rfl) ?_
  refine lv_if_lt (tgt := 21) b.1 b.2.1 dX10_valueAt_1 (by decide) (fun c1 => ?_) (fun c1 => ?_)
  · have hf := oI_t c1 hf
    refine lv_lconst (v := 0) b.1 b.2.1 dX10_valueAt_21 rfl ?_
    cases hf
    exact k_lret b hlk hr hE (Nat.le_refl _) (Nat.le_refl _) dX10_valueAt_22
  · have hf := oI_f c1 hf
    refine lv_iload_n b.1 b.2.1 dX10_valueAt_4 rfl (lv_at hl 1 rfl) ?_
    refine lv_aload_n b.1 b.2.1 dX10_valueAt_5 rfl (lv_at hl 0 rfl) ?_
    obtain ⟨t2, hf⟩ := oC_s hf
    have t2 := of_decide_eq_true t2
    refine gX10_45 (x := (some x0)) b hE rfl t2 dX10_valueAt_6 ?_
    refine lv_icmp_ge (tgt := 21) b.1 b.2.1 dX10_valueAt_9 (by decide) (fun c3 => ?_) (fun c3 => ?_)
    · have hf := oI_t c3 hf
      refine lv_lconst (v := 0) b.1 b.2.1 dX10_valueAt_21 rfl ?_
      cases hf
      exact k_lret b hlk hr hE (Nat.le_refl _) (Nat.le_refl _) dX10_valueAt_22
    · have hf := oI_f c3 hf
      refine lv_aload_n b.1 b.2.1 dX10_valueAt_12 rfl (lv_at hl 0 rfl) ?_
      refine gX10_22 (x := (some x0)) b hE rfl t2 dX10_valueAt_13 ?_
      refine lv_iload_n b.1 b.2.1 dX10_valueAt_16 rfl (lv_at hl 1 rfl) ?_
      obtain ⟨a4, ea4, hf⟩ := oN_s hf
      obtain ⟨t5, hf⟩ := oC_s hf
      have t5 := of_decide_eq_true t5
      obtain ⟨g6, hf⟩ := oC_s hf
      refine q_lald (x := (hR h 1283 x0)) b hE ea4 t5 g6 dX10_valueAt_17 ?_
      refine lv_goto (tgt := 22) b.1 b.2.1 dX10_valueAt_18 (by decide) ?_
      cases hf
      exact k_lret b hlk hr hE (Nat.le_refl _) (Nat.le_refl _) dX10_valueAt_22
def fX10_valueAt (h : PH) (x0 : Nat) (x1 : Int32) : Option (Int64) := fX10_valueAt_0 h x0 x1
set_option maxHeartbeats 4000000 in
theorem CX10_valueAt (l : Launch) (D : va_G) (aC : Nat → ClassId) (ad : Nat → Nat) {Z : State → Prop} (zk : ZOK Z (Rg ad)) {h : PH} {x0 : Nat} {x1 : Int32} {rz : Int64} (hf : fX10_valueAt h x0 x1 = some rz) : CM l D aC Z yX10_valueAt cX10_valueAt 2 (some .long) 0 0 0 0 (EX D aC ad h) [.ref (ad x0), .int x1] (EX D aC ad h) (some (.long rz)) (Rg ad) := by
  refine CM.of rfl ?_
  intro p e s m below meth c b hr hlk hin2 zs hE
  refine k_ent (Nat.le_of_ble_eq_true rfl) (fun ls hl => ?_)
  exact wfX10_valueAt_0 b hlk hr zs zk hf hE (lv_sub hl [0, 1] rfl)
theorem dX10_startAt_0 : decode cX10_startAt 0 = .ok (.iload_n 1, 1) := by decide +kernel
theorem dX10_startAt_1 : decode cX10_startAt 1 = .ok (.ifCond .lt 20, 3) := by decide +kernel
theorem dX10_startAt_4 : decode cX10_startAt 4 = .ok (.iload_n 1, 1) := by decide +kernel
theorem dX10_startAt_5 : decode cX10_startAt 5 = .ok (.aload_n 0, 1) := by decide +kernel
theorem dX10_startAt_6 : decode cX10_startAt 6 = .ok (.getfield 45, 3) := by decide +kernel
theorem dX10_startAt_9 : decode cX10_startAt 9 = .ok (.if_icmp .ge 12, 3) := by decide +kernel
theorem dX10_startAt_12 : decode cX10_startAt 12 = .ok (.aload_n 0, 1) := by decide +kernel
theorem dX10_startAt_13 : decode cX10_startAt 13 = .ok (.getfield 19, 3) := by decide +kernel
theorem dX10_startAt_16 : decode cX10_startAt 16 = .ok (.iload_n 1, 1) := by decide +kernel
theorem dX10_startAt_17 : decode cX10_startAt 17 = .ok (.iaload, 1) := by decide +kernel
theorem dX10_startAt_18 : decode cX10_startAt 18 = .ok (.goto 4, 3) := by decide +kernel
theorem dX10_startAt_21 : decode cX10_startAt 21 = .ok (.iconst (-1), 1) := by decide +kernel
theorem dX10_startAt_22 : decode cX10_startAt 22 = .ok (.ireturn, 1) := by decide +kernel
def fX10_startAt_0  (h : PH) (x0 : Nat) (x1 : Int32) : Option (Int32) :=
  if x1 < 0 then (some ((-1))) else (oC (decide (hT h x0 = 11)) (if (hI h 1284 x0) ≤ x1 then (some ((-1))) else (oN (hR h 1282 x0) (fun a4 => oC (decide (hT h a4 = 101)) (oC (ix x1 (hN h a4)) (some ((hA h a4 (Int32.toNatClampNeg x1)))))))))
set_option maxHeartbeats 4000000 in
theorem wfX10_startAt_0 {args : Array Value} (b : Bd p s m c cX10_startAt 2 RX10 D aC) (hlk : meth.locks = false) (hr : meth.sig.returnType = some .int) {Z : State → Prop} (zs : Z s) (zk : ZOK Z (Rg ad)) {rz : Int32} {h : PH} {x0 : Nat} {x1 : Int32}  {H : Heap} {locs : List Loc} {ls : Array Slot} (hf : fX10_startAt_0 h x0 x1 = some rz) (hE : CE (EX D aC ad h) (Rg ad) s H locs) (hl : lv_has ls 2 [(0, .ref (ad x0)), (1, .int x1)]) : W p l e (RM 0 0 0 0) s m args below meth c H locs 0 0 (MQ below (PQ (EX D aC ad h) (Rg ad) (some (.int rz))) args s 0 0 (Rg ad)) (F0 m 0 ls []) := by
  unfold fX10_startAt_0 at hf
  refine lv_iload_n b.1 b.2.1 dX10_startAt_0 rfl (lv_at hl 1 rfl) ?_
  refine lv_if_lt (tgt := 21) b.1 b.2.1 dX10_startAt_1 (by decide) (fun c1 => ?_) (fun c1 => ?_)
  · have hf := oI_t c1 hf
    refine lv_iconst (v := (-1)) b.1 b.2.1 dX10_startAt_21 (by decide) ?_
    cases hf
    exact k_iret b hlk hr hE (Nat.le_refl _) (Nat.le_refl _) dX10_startAt_22
  · have hf := oI_f c1 hf
    refine lv_iload_n b.1 b.2.1 dX10_startAt_4 rfl (lv_at hl 1 rfl) ?_
    refine lv_aload_n b.1 b.2.1 dX10_startAt_5 rfl (lv_at hl 0 rfl) ?_
    obtain ⟨t2, hf⟩ := oC_s hf
    have t2 := of_decide_eq_true t2
    refine gX10_45 (x := (some x0)) b hE rfl t2 dX10_startAt_6 ?_
    refine lv_icmp_ge (tgt := 21) b.1 b.2.1 dX10_startAt_9 (by decide) (fun c3 => ?_) (fun c3 => ?_)
    · have hf := oI_t c3 hf
      refine lv_iconst (v := (-1)) b.1 b.2.1 dX10_startAt_21 (by decide) ?_
      cases hf
      exact k_iret b hlk hr hE (Nat.le_refl _) (Nat.le_refl _) dX10_startAt_22
    · have hf := oI_f c3 hf
      refine lv_aload_n b.1 b.2.1 dX10_startAt_12 rfl (lv_at hl 0 rfl) ?_
      refine gX10_19 (x := (some x0)) b hE rfl t2 dX10_startAt_13 ?_
      refine lv_iload_n b.1 b.2.1 dX10_startAt_16 rfl (lv_at hl 1 rfl) ?_
      obtain ⟨a4, ea4, hf⟩ := oN_s hf
      obtain ⟨t5, hf⟩ := oC_s hf
      have t5 := of_decide_eq_true t5
      obtain ⟨g6, hf⟩ := oC_s hf
      refine q_iald (x := (hR h 1282 x0)) b hE ea4 t5 g6 dX10_startAt_17 ?_
      refine lv_goto (tgt := 22) b.1 b.2.1 dX10_startAt_18 (by decide) ?_
      cases hf
      exact k_iret b hlk hr hE (Nat.le_refl _) (Nat.le_refl _) dX10_startAt_22
def fX10_startAt (h : PH) (x0 : Nat) (x1 : Int32) : Option (Int32) := fX10_startAt_0 h x0 x1
set_option maxHeartbeats 4000000 in
theorem CX10_startAt (l : Launch) (D : va_G) (aC : Nat → ClassId) (ad : Nat → Nat) {Z : State → Prop} (zk : ZOK Z (Rg ad)) {h : PH} {x0 : Nat} {x1 : Int32} {rz : Int32} (hf : fX10_startAt h x0 x1 = some rz) : CM l D aC Z yX10_startAt cX10_startAt 2 (some .int) 0 0 0 0 (EX D aC ad h) [.ref (ad x0), .int x1] (EX D aC ad h) (some (.int rz)) (Rg ad) := by
  refine CM.of rfl ?_
  intro p e s m below meth c b hr hlk hin2 zs hE
  refine k_ent (Nat.le_of_ble_eq_true rfl) (fun ls hl => ?_)
  exact wfX10_startAt_0 b hlk hr zs zk hf hE (lv_sub hl [0, 1] rfl)
theorem dX4_noteRule_0 : decode cX4_noteRule 0 = .ok (.iload_n 1, 1) := by decide +kernel
theorem dX4_noteRule_1 : decode cX4_noteRule 1 = .ok (.iconst (-1), 1) := by decide +kernel
theorem dX4_noteRule_2 : decode cX4_noteRule 2 = .ok (.if_icmp .ne 12, 3) := by decide +kernel
theorem dX4_noteRule_5 : decode cX4_noteRule 5 = .ok (.aload_n 0, 1) := by decide +kernel
theorem dX4_noteRule_6 : decode cX4_noteRule 6 = .ok (.iconst 4, 1) := by decide +kernel
theorem dX4_noteRule_7 : decode cX4_noteRule 7 = .ok (.iload_n 2, 1) := by decide +kernel
theorem dX4_noteRule_8 : decode cX4_noteRule 8 = .ok (.invokevirtual 166, 3) := by decide +kernel
theorem dX4_noteRule_11 : decode cX4_noteRule 11 = .ok (.goto 20, 3) := by decide +kernel
theorem dX4_noteRule_14 : decode cX4_noteRule 14 = .ok (.aload_n 0, 1) := by decide +kernel
theorem dX4_noteRule_15 : decode cX4_noteRule 15 = .ok (.getfield 25, 3) := by decide +kernel
theorem dX4_noteRule_18 : decode cX4_noteRule 18 = .ok (.iload_n 1, 1) := by decide +kernel
theorem dX4_noteRule_19 : decode cX4_noteRule 19 = .ok (.invokevirtual 218, 3) := by decide +kernel
theorem dX4_noteRule_22 : decode cX4_noteRule 22 = .ok (.ifCond .ne 9, 3) := by decide +kernel
theorem dX4_noteRule_25 : decode cX4_noteRule 25 = .ok (.aload_n 0, 1) := by decide +kernel
theorem dX4_noteRule_26 : decode cX4_noteRule 26 = .ok (.iconst 5, 1) := by decide +kernel
theorem dX4_noteRule_27 : decode cX4_noteRule 27 = .ok (.iload_n 2, 1) := by decide +kernel
theorem dX4_noteRule_28 : decode cX4_noteRule 28 = .ok (.invokevirtual 166, 3) := by decide +kernel
theorem dX4_noteRule_31 : decode cX4_noteRule 31 = .ok (.return_, 1) := by decide +kernel
def fX4_noteRule_0  (h : PH) (x0 : Nat) (x1 : Int32) (x2 : Int32) : Option (PH) :=
  if x1 = (-1) then (oC (decide (hT h x0 = 5)) (oB (fX4_note h x0 4 x2) (fun h12 => some (h12)))) else (oC (decide (hT h x0 = 5)) (oN (hR h 512 x0) (fun a3 => oC (decide (hT h a3 = 2)) (oB (fX1_isRanked h a3 x1) (fun r6 => if r6 = 0 then (oB (fX4_note h x0 5 x2) (fun h9 => some (h9))) else (some (h)))))))
set_option maxHeartbeats 4000000 in
theorem wfX4_noteRule_0 {args : Array Value} (b : Bd p s m c cX4_noteRule 3 RX4 D aC) (hlk : meth.locks = false) (hr : meth.sig.returnType = none) {Z : State → Prop} (zs : Z s) (zk : ZOK Z (Rg ad)) {hz : PH} {h : PH} {x0 : Nat} {x1 : Int32} {x2 : Int32}  {H : Heap} {locs : List Loc} {ls : Array Slot} (hf : fX4_noteRule_0 h x0 x1 x2 = some hz) (hE : CE (EX D aC ad h) (Rg ad) s H locs) (hl : lv_has ls 3 [(0, .ref (ad x0)), (1, .int x1), (2, .int x2)]) : W p l e (RM 2 43 0 0) s m args below meth c H locs 0 0 (MQ below (PQ (EX D aC ad hz) (Rg ad) none) args s 0 0 (Rg ad)) (F0 m 0 ls []) := by
  unfold fX4_noteRule_0 at hf
  refine lv_iload_n b.1 b.2.1 dX4_noteRule_0 rfl (lv_at hl 1 rfl) ?_
  refine lv_iconst (v := (-1)) b.1 b.2.1 dX4_noteRule_1 (by decide) ?_
  refine lv_icmp_ne (tgt := 14) b.1 b.2.1 dX4_noteRule_2 (by decide) (fun c1 => ?_) (fun c1 => ?_)
  · have hf := oI_f c1 hf
    refine lv_aload_n b.1 b.2.1 dX4_noteRule_14 rfl (lv_at hl 0 rfl) ?_
    obtain ⟨t2, hf⟩ := oC_s hf
    have t2 := of_decide_eq_true t2
    refine gX4_25 (x := (some x0)) b hE rfl t2 dX4_noteRule_15 ?_
    refine lv_iload_n b.1 b.2.1 dX4_noteRule_18 rfl (lv_at hl 1 rfl) ?_
    obtain ⟨a3, ea3, hf⟩ := oN_s hf
    obtain ⟨t4, hf⟩ := oC_s hf
    have t4 := of_decide_eq_true t4
    obtain ⟨r6, hc5, hf⟩ := oB_s hf
    refine k_stk [.int x1] ea3 ?_
    refine k_callV0 (C := RX1) b zs zk hE (CX1_isRanked l D aC ad zk hc5) mc_X1_isRanked (in3 171 rfl rfl) mi_X1_isRanked ms_X1_isRanked ini_RX1 ok_X1_isRanked (x_recv b hE (ci := 1) rfl (by decide) t4) ⟨Nat.le_of_ble_eq_true rfl, Nat.le_of_ble_eq_true rfl⟩ rfl hl.1 rfl (k_room _ (by exact Nat.le_of_ble_eq_true rfl)) ⟨Nat.le_refl _, Nat.le_refl _⟩ dX4_noteRule_19 (fun H locs hE => ?_)
    refine lv_if_ne (tgt := 31) b.1 b.2.1 dX4_noteRule_22 (by decide) (fun c7 => ?_) (fun c7 => ?_)
    · have hf := oI_f c7 hf
      cases hf
      exact k_vret b hlk hr hE (Nat.le_refl _) (Nat.le_refl _) dX4_noteRule_31
    · have hf := oI_t c7 hf
      refine lv_aload_n b.1 b.2.1 dX4_noteRule_25 rfl (lv_at hl 0 rfl) ?_
      refine lv_iconst (v := 5) b.1 b.2.1 dX4_noteRule_26 (by decide) ?_
      refine lv_iload_n b.1 b.2.1 dX4_noteRule_27 rfl (lv_at hl 2 rfl) ?_
      obtain ⟨h9, hc8, hf⟩ := oB_s hf
      refine k_callV0 (C := RX4) b zs zk hE (CX4_note l D aC ad zk hc8) mc_X4_note (in2 199 rfl rfl) mi_X4_note ms_X4_note ini_RX4 ok_X4_note (x_recv b hE (ci := 4) rfl (by decide) t2) ⟨Nat.le_of_ble_eq_true rfl, Nat.le_of_ble_eq_true rfl⟩ rfl hl.1 rfl (k_room _ (by exact Nat.le_of_ble_eq_true rfl)) ⟨Nat.le_refl _, Nat.le_refl _⟩ dX4_noteRule_28 (fun H locs hE => ?_)
      cases hf
      exact k_vret b hlk hr hE (Nat.le_refl _) (Nat.le_refl _) dX4_noteRule_31
  · have hf := oI_t c1 hf
    refine lv_aload_n b.1 b.2.1 dX4_noteRule_5 rfl (lv_at hl 0 rfl) ?_
    refine lv_iconst (v := 4) b.1 b.2.1 dX4_noteRule_6 (by decide) ?_
    refine lv_iload_n b.1 b.2.1 dX4_noteRule_7 rfl (lv_at hl 2 rfl) ?_
    obtain ⟨t10, hf⟩ := oC_s hf
    have t10 := of_decide_eq_true t10
    obtain ⟨h12, hc11, hf⟩ := oB_s hf
    refine k_callV0 (C := RX4) b zs zk hE (CX4_note l D aC ad zk hc11) mc_X4_note (in2 199 rfl rfl) mi_X4_note ms_X4_note ini_RX4 ok_X4_note (x_recv b hE (ci := 4) rfl (by decide) t10) ⟨Nat.le_of_ble_eq_true rfl, Nat.le_of_ble_eq_true rfl⟩ rfl hl.1 rfl (k_room _ (by exact Nat.le_of_ble_eq_true rfl)) ⟨Nat.le_refl _, Nat.le_refl _⟩ dX4_noteRule_8 (fun H locs hE => ?_)
    refine lv_goto (tgt := 31) b.1 b.2.1 dX4_noteRule_11 (by decide) ?_
    cases hf
    exact k_vret b hlk hr hE (Nat.le_refl _) (Nat.le_refl _) dX4_noteRule_31
def fX4_noteRule (h : PH) (x0 : Nat) (x1 : Int32) (x2 : Int32) : Option (PH) := fX4_noteRule_0 h x0 x1 x2
set_option maxHeartbeats 4000000 in
theorem CX4_noteRule (l : Launch) (D : va_G) (aC : Nat → ClassId) (ad : Nat → Nat) {Z : State → Prop} (zk : ZOK Z (Rg ad)) {h : PH} {x0 : Nat} {x1 : Int32} {x2 : Int32} {hz : PH} (hf : fX4_noteRule h x0 x1 x2 = some hz) : CM l D aC Z yX4_noteRule cX4_noteRule 3 (none) 2 43 0 0 (EX D aC ad h) [.ref (ad x0), .int x1, .int x2] (EX D aC ad hz) none (Rg ad) := by
  refine CM.of rfl ?_
  intro p e s m below meth c b hr hlk hin2 zs hE
  refine k_ent (Nat.le_of_ble_eq_true rfl) (fun ls hl => ?_)
  exact wfX4_noteRule_0 b hlk hr zs zk hf hE (lv_sub hl [0, 1, 2] rfl)
end
