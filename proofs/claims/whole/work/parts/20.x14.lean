section
variable {p : Program} {l : Launch} {e : Env} {s : State} {m : MethodId} {below : List Frame} {meth : Method} {c : Code} {D : va_G} {aC : Nat → ClassId} {ad : Nat → Nat}
theorem dX5_settleInstances_0 : decode cX5_settleInstances 0 = .ok (.aload_n 0, 1) := by decide +kernel
theorem dX5_settleInstances_1 : decode cX5_settleInstances 1 = .ok (.getfield 22, 3) := by decide +kernel
theorem dX5_settleInstances_4 : decode cX5_settleInstances 4 = .ok (.iconst 0, 1) := by decide +kernel
theorem dX5_settleInstances_5 : decode cX5_settleInstances 5 = .ok (.invokestatic 91, 3) := by decide +kernel
theorem dX5_settleInstances_8 : decode cX5_settleInstances 8 = .ok (.aload_n 0, 1) := by decide +kernel
theorem dX5_settleInstances_9 : decode cX5_settleInstances 9 = .ok (.getfield 25, 3) := by decide +kernel
theorem dX5_settleInstances_12 : decode cX5_settleInstances 12 = .ok (.iconst 0, 1) := by decide +kernel
theorem dX5_settleInstances_13 : decode cX5_settleInstances 13 = .ok (.invokestatic 91, 3) := by decide +kernel
theorem dX5_settleInstances_16 : decode cX5_settleInstances 16 = .ok (.iconst 0, 1) := by decide +kernel
theorem dX5_settleInstances_17 : decode cX5_settleInstances 17 = .ok (.istore_n 1, 1) := by decide +kernel
theorem dX5_settleInstances_18 : decode cX5_settleInstances 18 = .ok (.iload_n 1, 1) := by decide +kernel
theorem dX5_settleInstances_19 : decode cX5_settleInstances 19 = .ok (.aload_n 0, 1) := by decide +kernel
theorem dX5_settleInstances_20 : decode cX5_settleInstances 20 = .ok (.getfield 90, 3) := by decide +kernel
theorem dX5_settleInstances_23 : decode cX5_settleInstances 23 = .ok (.if_icmp .ge 109, 3) := by decide +kernel
theorem dX5_settleInstances_26 : decode cX5_settleInstances 26 = .ok (.aload_n 0, 1) := by decide +kernel
theorem dX5_settleInstances_27 : decode cX5_settleInstances 27 = .ok (.getfield 37, 3) := by decide +kernel
theorem dX5_settleInstances_30 : decode cX5_settleInstances 30 = .ok (.iload_n 1, 1) := by decide +kernel
theorem dX5_settleInstances_31 : decode cX5_settleInstances 31 = .ok (.baload, 1) := by decide +kernel
theorem dX5_settleInstances_32 : decode cX5_settleInstances 32 = .ok (.ifCond .ne 20, 3) := by decide +kernel
theorem dX5_settleInstances_35 : decode cX5_settleInstances 35 = .ok (.aload_n 0, 1) := by decide +kernel
theorem dX5_settleInstances_36 : decode cX5_settleInstances 36 = .ok (.getfield 37, 3) := by decide +kernel
theorem dX5_settleInstances_39 : decode cX5_settleInstances 39 = .ok (.iload_n 1, 1) := by decide +kernel
theorem dX5_settleInstances_40 : decode cX5_settleInstances 40 = .ok (.aload_n 0, 1) := by decide +kernel
theorem dX5_settleInstances_41 : decode cX5_settleInstances 41 = .ok (.aload_n 0, 1) := by decide +kernel
theorem dX5_settleInstances_42 : decode cX5_settleInstances 42 = .ok (.getfield 31, 3) := by decide +kernel
theorem dX5_settleInstances_45 : decode cX5_settleInstances 45 = .ok (.iload_n 1, 1) := by decide +kernel
theorem dX5_settleInstances_46 : decode cX5_settleInstances 46 = .ok (.iaload, 1) := by decide +kernel
theorem dX5_settleInstances_47 : decode cX5_settleInstances 47 = .ok (.invokevirtual 149, 3) := by decide +kernel
theorem dX5_settleInstances_50 : decode cX5_settleInstances 50 = .ok (.i2b, 1) := by decide +kernel
theorem dX5_settleInstances_51 : decode cX5_settleInstances 51 = .ok (.bastore, 1) := by decide +kernel
theorem dX5_settleInstances_52 : decode cX5_settleInstances 52 = .ok (.aload_n 0, 1) := by decide +kernel
theorem dX5_settleInstances_53 : decode cX5_settleInstances 53 = .ok (.getfield 34, 3) := by decide +kernel
theorem dX5_settleInstances_56 : decode cX5_settleInstances 56 = .ok (.iload_n 1, 1) := by decide +kernel
theorem dX5_settleInstances_57 : decode cX5_settleInstances 57 = .ok (.iaload, 1) := by decide +kernel
theorem dX5_settleInstances_58 : decode cX5_settleInstances 58 = .ok (.istore_n 2, 1) := by decide +kernel
theorem dX5_settleInstances_59 : decode cX5_settleInstances 59 = .ok (.iload_n 2, 1) := by decide +kernel
theorem dX5_settleInstances_60 : decode cX5_settleInstances 60 = .ok (.ifCond .lt 66, 3) := by decide +kernel
theorem dX5_settleInstances_63 : decode cX5_settleInstances 63 = .ok (.iload_n 2, 1) := by decide +kernel
theorem dX5_settleInstances_64 : decode cX5_settleInstances 64 = .ok (.sipush 600, 3) := by decide +kernel
theorem dX5_settleInstances_67 : decode cX5_settleInstances 67 = .ok (.if_icmp .ge 59, 3) := by decide +kernel
theorem dX5_settleInstances_70 : decode cX5_settleInstances 70 = .ok (.aload_n 0, 1) := by decide +kernel
theorem dX5_settleInstances_71 : decode cX5_settleInstances 71 = .ok (.getfield 37, 3) := by decide +kernel
theorem dX5_settleInstances_74 : decode cX5_settleInstances 74 = .ok (.iload_n 1, 1) := by decide +kernel
theorem dX5_settleInstances_75 : decode cX5_settleInstances 75 = .ok (.baload, 1) := by decide +kernel
theorem dX5_settleInstances_76 : decode cX5_settleInstances 76 = .ok (.iconst 2, 1) := by decide +kernel
theorem dX5_settleInstances_77 : decode cX5_settleInstances 77 = .ok (.if_icmp .eq 49, 3) := by decide +kernel
theorem dX5_settleInstances_80 : decode cX5_settleInstances 80 = .ok (.iconst 1, 1) := by decide +kernel
theorem dX5_settleInstances_81 : decode cX5_settleInstances 81 = .ok (.aload_n 0, 1) := by decide +kernel
theorem dX5_settleInstances_82 : decode cX5_settleInstances 82 = .ok (.getfield 31, 3) := by decide +kernel
theorem dX5_settleInstances_85 : decode cX5_settleInstances 85 = .ok (.iload_n 1, 1) := by decide +kernel
theorem dX5_settleInstances_86 : decode cX5_settleInstances 86 = .ok (.iaload, 1) := by decide +kernel
theorem dX5_settleInstances_87 : decode cX5_settleInstances 87 = .ok (.bipush 125, 2) := by decide +kernel
theorem dX5_settleInstances_89 : decode cX5_settleInstances 89 = .ok (.idiv, 1) := by decide +kernel
theorem dX5_settleInstances_90 : decode cX5_settleInstances 90 = .ok (.ishl, 1) := by decide +kernel
theorem dX5_settleInstances_91 : decode cX5_settleInstances 91 = .ok (.istore_n 3, 1) := by decide +kernel
theorem dX5_settleInstances_92 : decode cX5_settleInstances 92 = .ok (.aload_n 0, 1) := by decide +kernel
theorem dX5_settleInstances_93 : decode cX5_settleInstances 93 = .ok (.getfield 25, 3) := by decide +kernel
theorem dX5_settleInstances_96 : decode cX5_settleInstances 96 = .ok (.iload_n 2, 1) := by decide +kernel
theorem dX5_settleInstances_97 : decode cX5_settleInstances 97 = .ok (.dup2, 1) := by decide +kernel
theorem dX5_settleInstances_98 : decode cX5_settleInstances 98 = .ok (.iaload, 1) := by decide +kernel
theorem dX5_settleInstances_99 : decode cX5_settleInstances 99 = .ok (.iload_n 3, 1) := by decide +kernel
theorem dX5_settleInstances_100 : decode cX5_settleInstances 100 = .ok (.ior, 1) := by decide +kernel
theorem dX5_settleInstances_101 : decode cX5_settleInstances 101 = .ok (.iastore, 1) := by decide +kernel
theorem dX5_settleInstances_102 : decode cX5_settleInstances 102 = .ok (.aload_n 0, 1) := by decide +kernel
theorem dX5_settleInstances_103 : decode cX5_settleInstances 103 = .ok (.getfield 22, 3) := by decide +kernel
theorem dX5_settleInstances_106 : decode cX5_settleInstances 106 = .ok (.iload_n 2, 1) := by decide +kernel
theorem dX5_settleInstances_107 : decode cX5_settleInstances 107 = .ok (.dup2, 1) := by decide +kernel
theorem dX5_settleInstances_108 : decode cX5_settleInstances 108 = .ok (.iaload, 1) := by decide +kernel
theorem dX5_settleInstances_109 : decode cX5_settleInstances 109 = .ok (.aload_n 0, 1) := by decide +kernel
theorem dX5_settleInstances_110 : decode cX5_settleInstances 110 = .ok (.getfield 37, 3) := by decide +kernel
theorem dX5_settleInstances_113 : decode cX5_settleInstances 113 = .ok (.iload_n 1, 1) := by decide +kernel
theorem dX5_settleInstances_114 : decode cX5_settleInstances 114 = .ok (.baload, 1) := by decide +kernel
theorem dX5_settleInstances_115 : decode cX5_settleInstances 115 = .ok (.iconst 1, 1) := by decide +kernel
theorem dX5_settleInstances_116 : decode cX5_settleInstances 116 = .ok (.if_icmp .ne 7, 3) := by decide +kernel
theorem dX5_settleInstances_119 : decode cX5_settleInstances 119 = .ok (.iload_n 3, 1) := by decide +kernel
theorem dX5_settleInstances_120 : decode cX5_settleInstances 120 = .ok (.goto 4, 3) := by decide +kernel
theorem dX5_settleInstances_123 : decode cX5_settleInstances 123 = .ok (.iconst 0, 1) := by decide +kernel
theorem dX5_settleInstances_124 : decode cX5_settleInstances 124 = .ok (.ior, 1) := by decide +kernel
theorem dX5_settleInstances_125 : decode cX5_settleInstances 125 = .ok (.iastore, 1) := by decide +kernel
theorem dX5_settleInstances_126 : decode cX5_settleInstances 126 = .ok (.iinc 1 1, 3) := by decide +kernel
theorem dX5_settleInstances_129 : decode cX5_settleInstances 129 = .ok (.goto (-111), 3) := by decide +kernel
theorem dX5_settleInstances_132 : decode cX5_settleInstances 132 = .ok (.return_, 1) := by decide +kernel
def fX5_settleInstances_126 (k18 : PH → Nat → Int32 → Option (PH)) (h : PH) (x0 : Nat) (x1 : Int32) : Option (PH) :=
  oL (x1 + 1) (fun y1 => k18 h x0 y1)
set_option maxHeartbeats 4000000 in
theorem wfX5_settleInstances_126 {args : Array Value} (b : Bd p s m c cX5_settleInstances 4 RX5 D aC) (hlk : meth.locks = false) (hr : meth.sig.returnType = none) {Z : State → Prop} (zs : Z s) (zk : ZOK Z (Rg ad)) {hz : PH} {k18 : PH → Nat → Int32 → Option (PH)} (H18 : ∀ (h : PH) (x0 : Nat) (x1 : Int32), ∀ (H : Heap) (locs : List Loc) (ls : Array Slot), k18 h x0 x1 = some hz → CE (EX D aC ad h) (Rg ad) s H locs → lv_has ls 4 [(0, .ref (ad x0)), (1, .int x1)] → W p l e (RM 4 98 0 0) s m args below meth c H locs 0 0 (MQ below (PQ (EX D aC ad hz) (Rg ad) none) args s 0 0 (Rg ad)) (F0 m 18 ls [])) {h : PH} {x0 : Nat} {x1 : Int32}  {H : Heap} {locs : List Loc} {ls : Array Slot} (hf : fX5_settleInstances_126 k18 h x0 x1 = some hz) (hE : CE (EX D aC ad h) (Rg ad) s H locs) (hl : lv_has ls 4 [(0, .ref (ad x0)), (1, .int x1)]) : W p l e (RM 4 98 0 0) s m args below meth c H locs 0 0 (MQ below (PQ (EX D aC ad hz) (Rg ad) none) args s 0 0 (Rg ad)) (F0 m 126 ls []) := by
  unfold fX5_settleInstances_126 at hf
  obtain ⟨y1, ey1, hf⟩ := oL_s hf
  refine lv_iinc (v := y1) (lv' := [(1, .int y1), (0, .ref (ad x0))]) b.1 b.2.1 dX5_settleInstances_126 hl (k := 1) rfl (by rw [ey1]; rfl) (by decide) rfl (fun ls hl => ?_)
  refine lv_goto (tgt := 18) b.1 b.2.1 dX5_settleInstances_129 (by decide) ?_
  exact H18 h x0 y1 _ _ _ hf hE (lv_sub hl [1, 0] rfl)
def fX5_settleInstances_124 (k18 : PH → Nat → Int32 → Option (PH)) (h : PH) (x0 : Nat) (x1 : Int32) (s0 : Int32) (s1 : Int32) (s2 : Int32) (s3 : Option Nat) : Option (PH) :=
  oN s3 (fun a2 => oC (decide (hT h a2 = 101)) (oC (ix s2 (hN h a2)) (oL (sA h a2 (Int32.toNatClampNeg s2) (s1 ||| s0)) (fun h5 => fX5_settleInstances_126 k18 h5 x0 x1))))
set_option maxHeartbeats 4000000 in
theorem wfX5_settleInstances_124 {args : Array Value} (b : Bd p s m c cX5_settleInstances 4 RX5 D aC) (hlk : meth.locks = false) (hr : meth.sig.returnType = none) {Z : State → Prop} (zs : Z s) (zk : ZOK Z (Rg ad)) {hz : PH} {k18 : PH → Nat → Int32 → Option (PH)} (H18 : ∀ (h : PH) (x0 : Nat) (x1 : Int32), ∀ (H : Heap) (locs : List Loc) (ls : Array Slot), k18 h x0 x1 = some hz → CE (EX D aC ad h) (Rg ad) s H locs → lv_has ls 4 [(0, .ref (ad x0)), (1, .int x1)] → W p l e (RM 4 98 0 0) s m args below meth c H locs 0 0 (MQ below (PQ (EX D aC ad hz) (Rg ad) none) args s 0 0 (Rg ad)) (F0 m 18 ls [])) {h : PH} {x0 : Nat} {x1 : Int32} {s0 : Int32} {s1 : Int32} {s2 : Int32} {s3 : Option Nat}  {H : Heap} {locs : List Loc} {ls : Array Slot} (hf : fX5_settleInstances_124 k18 h x0 x1 s0 s1 s2 s3 = some hz) (hE : CE (EX D aC ad h) (Rg ad) s H locs) (hl : lv_has ls 4 [(0, .ref (ad x0)), (1, .int x1)]) : W p l e (RM 4 98 0 0) s m args below meth c H locs 0 0 (MQ below (PQ (EX D aC ad hz) (Rg ad) none) args s 0 0 (Rg ad)) (F0 m 124 ls [.int s0, .int s1, .int s2, va_rf (Option.map ad s3)]) := by
  unfold fX5_settleInstances_124 at hf
  refine lv_ior b.1 b.2.1 dX5_settleInstances_124 ?_
  obtain ⟨a2, ea2, hf⟩ := oN_s hf
  obtain ⟨t3, hf⟩ := oC_s hf
  have t3 := of_decide_eq_true t3
  obtain ⟨g4, hf⟩ := oC_s hf
  obtain ⟨h5, eh5, hf⟩ := oL_s hf
  refine q_iast (x := s3) b hE ea2 t3 g4 eh5 dX5_settleInstances_125 (fun H locs hE => ?_)
  exact wfX5_settleInstances_126 b hlk hr zs zk H18 hf hE (lv_sub hl [0, 1] rfl)
def fX5_settleInstances_52 (k18 : PH → Nat → Int32 → Option (PH)) (h : PH) (x0 : Nat) (x1 : Int32) : Option (PH) :=
  oC (decide (hT h x0 = 6)) (oN (hR h 653 x0) (fun a7 => oC (decide (hT h a7 = 101)) (oC (ix x1 (hN h a7)) (oL (hA h a7 (Int32.toNatClampNeg x1)) (fun y10 => if y10 < 0 then (fX5_settleInstances_126 k18 h x0 x1) else (if 600 ≤ y10 then (fX5_settleInstances_126 k18 h x0 x1) else (oN (hR h 654 x0) (fun a13 => oC (decide (hT h a13 = 100)) (oC (ix x1 (hN h a13)) (if (hA h a13 (Int32.toNatClampNeg x1)) = 2 then (fX5_settleInstances_126 k18 h x0 x1) else (oN (hR h 652 x0) (fun a17 => oC (decide (hT h a17 = 101)) (oC (ix x1 (hN h a17)) (oL (1 <<< (((hA h a17 (Int32.toNatClampNeg x1)) / 125) &&& 31)) (fun y20 => oN (hR h 649 x0) (fun a21 => oC (decide (hT h a21 = 101)) (oC (ix y10 (hN h a21)) (oC (ix y10 (hN h a21)) (oL (sA h a21 (Int32.toNatClampNeg y10) ((hA h a21 (Int32.toNatClampNeg y10)) ||| y20)) (fun h25 => oN (hR h25 648 x0) (fun a27 => oC (decide (hT h25 a27 = 101)) (oC (ix y10 (hN h25 a27)) (oN (hR h25 654 x0) (fun a30 => oC (decide (hT h25 a30 = 100)) (oC (ix x1 (hN h25 a30)) (if (hA h25 a30 (Int32.toNatClampNeg x1)) = 1 then (fX5_settleInstances_124 k18 h25 x0 x1 y20 (hA h25 a27 (Int32.toNatClampNeg y10)) y10 (hR h25 648 x0)) else (fX5_settleInstances_124 k18 h25 x0 x1 0 (hA h25 a27 (Int32.toNatClampNeg y10)) y10 (hR h25 648 x0))))))))))))))))))))))))))))
set_option maxHeartbeats 4000000 in
theorem wfX5_settleInstances_52 {args : Array Value} (b : Bd p s m c cX5_settleInstances 4 RX5 D aC) (hlk : meth.locks = false) (hr : meth.sig.returnType = none) {Z : State → Prop} (zs : Z s) (zk : ZOK Z (Rg ad)) {hz : PH} {k18 : PH → Nat → Int32 → Option (PH)} (H18 : ∀ (h : PH) (x0 : Nat) (x1 : Int32), ∀ (H : Heap) (locs : List Loc) (ls : Array Slot), k18 h x0 x1 = some hz → CE (EX D aC ad h) (Rg ad) s H locs → lv_has ls 4 [(0, .ref (ad x0)), (1, .int x1)] → W p l e (RM 4 98 0 0) s m args below meth c H locs 0 0 (MQ below (PQ (EX D aC ad hz) (Rg ad) none) args s 0 0 (Rg ad)) (F0 m 18 ls [])) {h : PH} {x0 : Nat} {x1 : Int32}  {H : Heap} {locs : List Loc} {ls : Array Slot} (hf : fX5_settleInstances_52 k18 h x0 x1 = some hz) (hE : CE (EX D aC ad h) (Rg ad) s H locs) (hl : lv_has ls 4 [(0, .ref (ad x0)), (1, .int x1)]) : W p l e (RM 4 98 0 0) s m args below meth c H locs 0 0 (MQ below (PQ (EX D aC ad hz) (Rg ad) none) args s 0 0 (Rg ad)) (F0 m 52 ls []) := by
  unfold fX5_settleInstances_52 at hf
  refine lv_aload_n b.1 b.2.1 dX5_settleInstances_52 rfl (lv_at hl 0 rfl) ?_
  obtain ⟨t6, hf⟩ := oC_s hf
  have t6 := of_decide_eq_true t6
  refine gX5_34 (x := (some x0)) b hE rfl t6 dX5_settleInstances_53 ?_
  refine lv_iload_n b.1 b.2.1 dX5_settleInstances_56 rfl (lv_at hl 1 rfl) ?_
  obtain ⟨a7, ea7, hf⟩ := oN_s hf
  obtain ⟨t8, hf⟩ := oC_s hf
  have t8 := of_decide_eq_true t8
  obtain ⟨g9, hf⟩ := oC_s hf
  refine q_iald (x := (hR h 653 x0)) b hE ea7 t8 g9 dX5_settleInstances_57 ?_
  obtain ⟨y10, ey10, hf⟩ := oL_s hf
  refine k_nmI ey10 ?_
  refine lv_istore_n (lv' := [(2, .int y10), (0, .ref (ad x0)), (1, .int x1)]) b.1 b.2.1 dX5_settleInstances_58 rfl hl (by decide) rfl (fun ls hl => ?_)
  refine lv_iload_n b.1 b.2.1 dX5_settleInstances_59 rfl (lv_at hl 0 rfl) ?_
  refine lv_if_lt (tgt := 126) b.1 b.2.1 dX5_settleInstances_60 (by decide) (fun c11 => ?_) (fun c11 => ?_)
  · have hf := oI_t c11 hf
    exact wfX5_settleInstances_126 b hlk hr zs zk H18 hf hE (lv_sub hl [1, 2] rfl)
  · have hf := oI_f c11 hf
    refine lv_iload_n b.1 b.2.1 dX5_settleInstances_63 rfl (lv_at hl 0 rfl) ?_
    refine lv_sipush (v := 600) b.1 b.2.1 dX5_settleInstances_64 (by decide) ?_
    refine lv_icmp_ge (tgt := 126) b.1 b.2.1 dX5_settleInstances_67 (by decide) (fun c12 => ?_) (fun c12 => ?_)
    · have hf := oI_t c12 hf
      exact wfX5_settleInstances_126 b hlk hr zs zk H18 hf hE (lv_sub hl [1, 2] rfl)
    · have hf := oI_f c12 hf
      refine lv_aload_n b.1 b.2.1 dX5_settleInstances_70 rfl (lv_at hl 1 rfl) ?_
      refine gX5_37 (x := (some x0)) b hE rfl t6 dX5_settleInstances_71 ?_
      refine lv_iload_n b.1 b.2.1 dX5_settleInstances_74 rfl (lv_at hl 2 rfl) ?_
      obtain ⟨a13, ea13, hf⟩ := oN_s hf
      obtain ⟨t14, hf⟩ := oC_s hf
      have t14 := of_decide_eq_true t14
      obtain ⟨g15, hf⟩ := oC_s hf
      refine q_bald (x := (hR h 654 x0)) b hE ea13 t14 g15 dX5_settleInstances_75 ?_
      refine lv_iconst (v := 2) b.1 b.2.1 dX5_settleInstances_76 (by decide) ?_
      refine lv_icmp_eq (tgt := 126) b.1 b.2.1 dX5_settleInstances_77 (by decide) (fun c16 => ?_) (fun c16 => ?_)
      · have hf := oI_t c16 hf
        exact wfX5_settleInstances_126 b hlk hr zs zk H18 hf hE (lv_sub hl [1, 2] rfl)
      · have hf := oI_f c16 hf
        refine lv_iconst (v := 1) b.1 b.2.1 dX5_settleInstances_80 (by decide) ?_
        refine lv_aload_n b.1 b.2.1 dX5_settleInstances_81 rfl (lv_at hl 1 rfl) ?_
        refine gX5_31 (x := (some x0)) b hE rfl t6 dX5_settleInstances_82 ?_
        refine lv_iload_n b.1 b.2.1 dX5_settleInstances_85 rfl (lv_at hl 2 rfl) ?_
        obtain ⟨a17, ea17, hf⟩ := oN_s hf
        obtain ⟨t18, hf⟩ := oC_s hf
        have t18 := of_decide_eq_true t18
        obtain ⟨g19, hf⟩ := oC_s hf
        refine q_iald (x := (hR h 652 x0)) b hE ea17 t18 g19 dX5_settleInstances_86 ?_
        refine lv_bipush (v := 125) b.1 b.2.1 dX5_settleInstances_87 (by decide) ?_
        refine lv_idiv b.1 b.2.1 dX5_settleInstances_89 (by decide) ?_
        refine lv_ishl b.1 b.2.1 dX5_settleInstances_90 ?_
        obtain ⟨y20, ey20, hf⟩ := oL_s hf
        refine k_nmI ey20 ?_
        refine lv_istore_n (lv' := [(3, .int y20), (2, .int y10), (0, .ref (ad x0)), (1, .int x1)]) b.1 b.2.1 dX5_settleInstances_91 rfl hl (by decide) rfl (fun ls hl => ?_)
        refine lv_aload_n b.1 b.2.1 dX5_settleInstances_92 rfl (lv_at hl 2 rfl) ?_
        refine gX5_25 (x := (some x0)) b hE rfl t6 dX5_settleInstances_93 ?_
        refine lv_iload_n b.1 b.2.1 dX5_settleInstances_96 rfl (lv_at hl 1 rfl) ?_
        refine lv_dup2_11 b.1 b.2.1 dX5_settleInstances_97 rfl (rf_cat _) ?_
        obtain ⟨a21, ea21, hf⟩ := oN_s hf
        obtain ⟨t22, hf⟩ := oC_s hf
        have t22 := of_decide_eq_true t22
        obtain ⟨g23, hf⟩ := oC_s hf
        refine q_iald (x := (hR h 649 x0)) b hE ea21 t22 g23 dX5_settleInstances_98 ?_
        refine lv_iload_n b.1 b.2.1 dX5_settleInstances_99 rfl (lv_at hl 0 rfl) ?_
        refine lv_ior b.1 b.2.1 dX5_settleInstances_100 ?_
        obtain ⟨g24, hf⟩ := oC_s hf
        obtain ⟨h25, eh25, hf⟩ := oL_s hf
        refine q_iast (x := (hR h 649 x0)) b hE ea21 t22 g24 eh25 dX5_settleInstances_101 (fun H locs hE => ?_)
        refine lv_aload_n b.1 b.2.1 dX5_settleInstances_102 rfl (lv_at hl 2 rfl) ?_
        have t26 := tg_sA eh25 t6
        refine gX5_22 (x := (some x0)) b hE rfl t26 dX5_settleInstances_103 ?_
        refine lv_iload_n b.1 b.2.1 dX5_settleInstances_106 rfl (lv_at hl 1 rfl) ?_
        refine lv_dup2_11 b.1 b.2.1 dX5_settleInstances_107 rfl (rf_cat _) ?_
        obtain ⟨a27, ea27, hf⟩ := oN_s hf
        obtain ⟨t28, hf⟩ := oC_s hf
        have t28 := of_decide_eq_true t28
        obtain ⟨g29, hf⟩ := oC_s hf
        refine q_iald (x := (hR h25 648 x0)) b hE ea27 t28 g29 dX5_settleInstances_108 ?_
        refine lv_aload_n b.1 b.2.1 dX5_settleInstances_109 rfl (lv_at hl 2 rfl) ?_
        refine gX5_37 (x := (some x0)) b hE rfl t26 dX5_settleInstances_110 ?_
        refine lv_iload_n b.1 b.2.1 dX5_settleInstances_113 rfl (lv_at hl 3 rfl) ?_
        obtain ⟨a30, ea30, hf⟩ := oN_s hf
        obtain ⟨t31, hf⟩ := oC_s hf
        have t31 := of_decide_eq_true t31
        obtain ⟨g32, hf⟩ := oC_s hf
        refine q_bald (x := (hR h25 654 x0)) b hE ea30 t31 g32 dX5_settleInstances_114 ?_
        refine lv_iconst (v := 1) b.1 b.2.1 dX5_settleInstances_115 (by decide) ?_
        refine lv_icmp_ne (tgt := 123) b.1 b.2.1 dX5_settleInstances_116 (by decide) (fun c33 => ?_) (fun c33 => ?_)
        · have hf := oI_f c33 hf
          refine lv_iconst (v := 0) b.1 b.2.1 dX5_settleInstances_123 (by decide) ?_
          exact wfX5_settleInstances_124 b hlk hr zs zk H18 hf hE (lv_sub hl [2, 3] rfl)
        · have hf := oI_t c33 hf
          refine lv_iload_n b.1 b.2.1 dX5_settleInstances_119 rfl (lv_at hl 0 rfl) ?_
          refine lv_goto (tgt := 124) b.1 b.2.1 dX5_settleInstances_120 (by decide) ?_
          exact wfX5_settleInstances_124 b hlk hr zs zk H18 hf hE (lv_sub hl [2, 3] rfl)
def fX5_settleInstances_18F (k18 : PH → Nat → Int32 → Option (PH)) (h : PH) (x0 : Nat) (x1 : Int32) : Option (PH) :=
  oC (decide (hT h x0 = 6)) (if (hI h 655 x0) ≤ x1 then (some (h)) else (oN (hR h 654 x0) (fun a36 => oC (decide (hT h a36 = 100)) (oC (ix x1 (hN h a36)) (if (hA h a36 (Int32.toNatClampNeg x1)) = 0 then (oN (hR h 652 x0) (fun a40 => oC (decide (hT h a40 = 101)) (oC (ix x1 (hN h a40)) (oB2 (fX5_stateOf h x0 (hA h a40 (Int32.toNatClampNeg x1))) (fun h45 r44 => oC (decide (hT h45 a36 = 100)) (oC (ix x1 (hN h45 a36)) (oL (sA h45 a36 (Int32.toNatClampNeg x1) (Int8.toInt32 (Int32.toInt8 (Int8.toInt32 (Int32.toInt8 r44))))) (fun h48 => fX5_settleInstances_52 k18 h48 x0 x1)))))))) else (fX5_settleInstances_52 k18 h x0 x1))))))
set_option maxHeartbeats 4000000 in
theorem wfX5_settleInstances_18F {args : Array Value} (b : Bd p s m c cX5_settleInstances 4 RX5 D aC) (hlk : meth.locks = false) (hr : meth.sig.returnType = none) {Z : State → Prop} (zs : Z s) (zk : ZOK Z (Rg ad)) {hz : PH} {k18 : PH → Nat → Int32 → Option (PH)} (H18 : ∀ (h : PH) (x0 : Nat) (x1 : Int32), ∀ (H : Heap) (locs : List Loc) (ls : Array Slot), k18 h x0 x1 = some hz → CE (EX D aC ad h) (Rg ad) s H locs → lv_has ls 4 [(0, .ref (ad x0)), (1, .int x1)] → W p l e (RM 4 98 0 0) s m args below meth c H locs 0 0 (MQ below (PQ (EX D aC ad hz) (Rg ad) none) args s 0 0 (Rg ad)) (F0 m 18 ls [])) {h : PH} {x0 : Nat} {x1 : Int32}  {H : Heap} {locs : List Loc} {ls : Array Slot} (hf : fX5_settleInstances_18F k18 h x0 x1 = some hz) (hE : CE (EX D aC ad h) (Rg ad) s H locs) (hl : lv_has ls 4 [(0, .ref (ad x0)), (1, .int x1)]) : W p l e (RM 4 98 0 0) s m args below meth c H locs 0 0 (MQ below (PQ (EX D aC ad hz) (Rg ad) none) args s 0 0 (Rg ad)) (F0 m 18 ls []) := by
  unfold fX5_settleInstances_18F at hf
  refine lv_iload_n b.1 b.2.1 dX5_settleInstances_18 rfl (lv_at hl 1 rfl) ?_
  refine lv_aload_n b.1 b.2.1 dX5_settleInstances_19 rfl (lv_at hl 0 rfl) ?_
  obtain ⟨t34, hf⟩ := oC_s hf
  have t34 := of_decide_eq_true t34
  refine gX5_90 (x := (some x0)) b hE rfl t34 dX5_settleInstances_20 ?_
  refine lv_icmp_ge (tgt := 132) b.1 b.2.1 dX5_settleInstances_23 (by decide) (fun c35 => ?_) (fun c35 => ?_)
  · have hf := oI_t c35 hf
    cases hf
    exact k_vret b hlk hr hE (Nat.le_refl _) (Nat.le_refl _) dX5_settleInstances_132
  · have hf := oI_f c35 hf
    refine lv_aload_n b.1 b.2.1 dX5_settleInstances_26 rfl (lv_at hl 0 rfl) ?_
    refine gX5_37 (x := (some x0)) b hE rfl t34 dX5_settleInstances_27 ?_
    refine lv_iload_n b.1 b.2.1 dX5_settleInstances_30 rfl (lv_at hl 1 rfl) ?_
    obtain ⟨a36, ea36, hf⟩ := oN_s hf
    obtain ⟨t37, hf⟩ := oC_s hf
    have t37 := of_decide_eq_true t37
    obtain ⟨g38, hf⟩ := oC_s hf
    refine q_bald (x := (hR h 654 x0)) b hE ea36 t37 g38 dX5_settleInstances_31 ?_
    refine lv_if_ne (tgt := 52) b.1 b.2.1 dX5_settleInstances_32 (by decide) (fun c39 => ?_) (fun c39 => ?_)
    · have hf := oI_f c39 hf
      exact wfX5_settleInstances_52 b hlk hr zs zk H18 hf hE (lv_sub hl [0, 1] rfl)
    · have hf := oI_t c39 hf
      refine lv_aload_n b.1 b.2.1 dX5_settleInstances_35 rfl (lv_at hl 0 rfl) ?_
      refine gX5_37 (x := (some x0)) b hE rfl t34 dX5_settleInstances_36 ?_
      refine lv_iload_n b.1 b.2.1 dX5_settleInstances_39 rfl (lv_at hl 1 rfl) ?_
      refine lv_aload_n b.1 b.2.1 dX5_settleInstances_40 rfl (lv_at hl 0 rfl) ?_
      refine lv_aload_n b.1 b.2.1 dX5_settleInstances_41 rfl (lv_at hl 0 rfl) ?_
      refine gX5_31 (x := (some x0)) b hE rfl t34 dX5_settleInstances_42 ?_
      refine lv_iload_n b.1 b.2.1 dX5_settleInstances_45 rfl (lv_at hl 1 rfl) ?_
      obtain ⟨a40, ea40, hf⟩ := oN_s hf
      obtain ⟨t41, hf⟩ := oC_s hf
      have t41 := of_decide_eq_true t41
      obtain ⟨g42, hf⟩ := oC_s hf
      refine q_iald (x := (hR h 652 x0)) b hE ea40 t41 g42 dX5_settleInstances_46 ?_
      obtain ⟨h45, r44, hc43, hf⟩ := oB2_s hf
      refine k_callV0 (C := RX5) b zs zk hE (CX5_stateOf l D aC ad zk hc43) mc_X5_stateOf (in5 31 rfl rfl) mi_X5_stateOf ms_X5_stateOf ini_RX5 ok_X5_stateOf (x_recv b hE (ci := 5) rfl (by decide) t34) ⟨Nat.le_of_ble_eq_true rfl, Nat.le_of_ble_eq_true rfl⟩ rfl hl.1 rfl (k_room _ (by exact Nat.le_of_ble_eq_true rfl)) ⟨Nat.le_refl _, Nat.le_refl _⟩ dX5_settleInstances_47 (fun H locs hE => ?_)
      refine lv_i2b b.1 b.2.1 dX5_settleInstances_50 rfl ?_
      obtain ⟨t46, hf⟩ := oC_s hf
      have t46 := of_decide_eq_true t46
      obtain ⟨g47, hf⟩ := oC_s hf
      obtain ⟨h48, eh48, hf⟩ := oL_s hf
      refine q_bast (x := (hR h 654 x0)) b hE ea36 t46 g47 eh48 dX5_settleInstances_51 (fun H locs hE => ?_)
      exact wfX5_settleInstances_52 b hlk hr zs zk H18 hf hE (lv_sub hl [0, 1] rfl)
def fX5_settleInstances_18  : Nat → PH → Nat → Int32 → Option (PH)
  | 0 => fun _ _ _ => none
  | n + 1 => fX5_settleInstances_18F  (fX5_settleInstances_18  n)
set_option maxHeartbeats 4000000 in
theorem wfX5_settleInstances_18 {args : Array Value} (b : Bd p s m c cX5_settleInstances 4 RX5 D aC) (hlk : meth.locks = false) (hr : meth.sig.returnType = none) {Z : State → Prop} (zs : Z s) (zk : ZOK Z (Rg ad)) {hz : PH} : ∀ n : Nat, ∀ (h : PH) (x0 : Nat) (x1 : Int32), ∀ (H : Heap) (locs : List Loc) (ls : Array Slot), fX5_settleInstances_18  n h x0 x1 = some hz → CE (EX D aC ad h) (Rg ad) s H locs → lv_has ls 4 [(0, .ref (ad x0)), (1, .int x1)] → W p l e (RM 4 98 0 0) s m args below meth c H locs 0 0 (MQ below (PQ (EX D aC ad hz) (Rg ad) none) args s 0 0 (Rg ad)) (F0 m 18 ls []) := by
  intro n
  induction n with
  | zero =>
    intro h x0 x1 H locs ls hf
    have hf : (none : Option (PH)) = some _ := hf
    cases hf
  | succ n ih =>
    intro h x0 x1 H locs ls hf hE hl
    exact wfX5_settleInstances_18F b hlk hr zs zk  ih hf hE hl
def fX5_settleInstances_0  (h : PH) (x0 : Nat) : Option (PH) :=
  oC (decide (hT h x0 = 6)) (oB (fJ7_fill_53178 h (hR h 648 x0) 0) (fun h51 => oC (decide (hT h51 x0 = 6)) (oB (fJ7_fill_53178 h51 (hR h51 649 x0) 0) (fun h54 => fX5_settleInstances_18  FU h54 x0 0))))
set_option maxHeartbeats 4000000 in
theorem wfX5_settleInstances_0 {args : Array Value} (b : Bd p s m c cX5_settleInstances 4 RX5 D aC) (hlk : meth.locks = false) (hr : meth.sig.returnType = none) {Z : State → Prop} (zs : Z s) (zk : ZOK Z (Rg ad)) {hz : PH} {h : PH} {x0 : Nat}  {H : Heap} {locs : List Loc} {ls : Array Slot} (hf : fX5_settleInstances_0 h x0 = some hz) (hE : CE (EX D aC ad h) (Rg ad) s H locs) (hl : lv_has ls 4 [(0, .ref (ad x0))]) : W p l e (RM 4 98 0 0) s m args below meth c H locs 0 0 (MQ below (PQ (EX D aC ad hz) (Rg ad) none) args s 0 0 (Rg ad)) (F0 m 0 ls []) := by
  unfold fX5_settleInstances_0 at hf
  refine lv_aload_n b.1 b.2.1 dX5_settleInstances_0 rfl (lv_at hl 0 rfl) ?_
  obtain ⟨t49, hf⟩ := oC_s hf
  have t49 := of_decide_eq_true t49
  refine gX5_22 (x := (some x0)) b hE rfl t49 dX5_settleInstances_1 ?_
  refine lv_iconst (v := 0) b.1 b.2.1 dX5_settleInstances_4 (by decide) ?_
  obtain ⟨h51, hc50, hf⟩ := oB_s hf
  refine k_callS0 b zs zk hE (CJ7_fill_53178 l D aC ad zk hc50) mc_J7_fill_53178 (in4 141 rfl rfl) mt_J7_fill_53178 ini_RJ7 ok_J7_fill_53178 ⟨Nat.le_of_ble_eq_true rfl, Nat.le_of_ble_eq_true rfl⟩ rfl hl.1 rfl (k_room _ (by exact Nat.le_of_ble_eq_true rfl)) ⟨Nat.le_refl _, Nat.le_refl _⟩ dX5_settleInstances_5 (fun H locs hE => ?_)
  refine lv_aload_n b.1 b.2.1 dX5_settleInstances_8 rfl (lv_at hl 0 rfl) ?_
  obtain ⟨t52, hf⟩ := oC_s hf
  have t52 := of_decide_eq_true t52
  refine gX5_25 (x := (some x0)) b hE rfl t52 dX5_settleInstances_9 ?_
  refine lv_iconst (v := 0) b.1 b.2.1 dX5_settleInstances_12 (by decide) ?_
  obtain ⟨h54, hc53, hf⟩ := oB_s hf
  refine k_callS0 b zs zk hE (CJ7_fill_53178 l D aC ad zk hc53) mc_J7_fill_53178 (in4 141 rfl rfl) mt_J7_fill_53178 ini_RJ7 ok_J7_fill_53178 ⟨Nat.le_of_ble_eq_true rfl, Nat.le_of_ble_eq_true rfl⟩ rfl hl.1 rfl (k_room _ (by exact Nat.le_of_ble_eq_true rfl)) ⟨Nat.le_refl _, Nat.le_refl _⟩ dX5_settleInstances_13 (fun H locs hE => ?_)
  refine lv_iconst (v := 0) b.1 b.2.1 dX5_settleInstances_16 (by decide) ?_
  refine lv_istore_n (lv' := [(1, .int 0), (0, .ref (ad x0))]) b.1 b.2.1 dX5_settleInstances_17 rfl hl (by decide) rfl (fun ls hl => ?_)
  exact wfX5_settleInstances_18 b hlk hr zs zk  FU h54 x0 0 _ _ _ hf hE (lv_sub hl [1, 0] rfl)
def fX5_settleInstances (h : PH) (x0 : Nat) : Option (PH) := fX5_settleInstances_0 h x0
set_option maxHeartbeats 4000000 in
theorem CX5_settleInstances (l : Launch) (D : va_G) (aC : Nat → ClassId) (ad : Nat → Nat) {Z : State → Prop} (zk : ZOK Z (Rg ad)) {h : PH} {x0 : Nat} {hz : PH} (hf : fX5_settleInstances h x0 = some hz) : CM l D aC Z yX5_settleInstances cX5_settleInstances 4 (none) 4 98 0 0 (EX D aC ad h) [.ref (ad x0)] (EX D aC ad hz) none (Rg ad) := by
  refine CM.of rfl ?_
  intro p e s m below meth c b hr hlk hin2 zs hE
  refine k_ent (Nat.le_of_ble_eq_true rfl) (fun ls hl => ?_)
  exact wfX5_settleInstances_0 b hlk hr zs zk hf hE (lv_sub hl [0] rfl)
theorem dX5_isProved_0 : decode cX5_isProved 0 = .ok (.aload_n 0, 1) := by decide +kernel
theorem dX5_isProved_1 : decode cX5_isProved 1 = .ok (.getfield 22, 3) := by decide +kernel
theorem dX5_isProved_4 : decode cX5_isProved 4 = .ok (.iload_n 1, 1) := by decide +kernel
theorem dX5_isProved_5 : decode cX5_isProved 5 = .ok (.iaload, 1) := by decide +kernel
theorem dX5_isProved_6 : decode cX5_isProved 6 = .ok (.aload_n 0, 1) := by decide +kernel
theorem dX5_isProved_7 : decode cX5_isProved 7 = .ok (.getfield 87, 3) := by decide +kernel
theorem dX5_isProved_10 : decode cX5_isProved 10 = .ok (.iand, 1) := by decide +kernel
theorem dX5_isProved_11 : decode cX5_isProved 11 = .ok (.istore_n 2, 1) := by decide +kernel
theorem dX5_isProved_12 : decode cX5_isProved 12 = .ok (.aload_n 0, 1) := by decide +kernel
theorem dX5_isProved_13 : decode cX5_isProved 13 = .ok (.getfield 25, 3) := by decide +kernel
theorem dX5_isProved_16 : decode cX5_isProved 16 = .ok (.iload_n 1, 1) := by decide +kernel
theorem dX5_isProved_17 : decode cX5_isProved 17 = .ok (.iconst 1, 1) := by decide +kernel
theorem dX5_isProved_18 : decode cX5_isProved 18 = .ok (.ixor, 1) := by decide +kernel
theorem dX5_isProved_19 : decode cX5_isProved 19 = .ok (.iaload, 1) := by decide +kernel
theorem dX5_isProved_20 : decode cX5_isProved 20 = .ok (.istore_n 3, 1) := by decide +kernel
theorem dX5_isProved_21 : decode cX5_isProved 21 = .ok (.iload_n 2, 1) := by decide +kernel
theorem dX5_isProved_22 : decode cX5_isProved 22 = .ok (.ifCond .ne 5, 3) := by decide +kernel
theorem dX5_isProved_25 : decode cX5_isProved 25 = .ok (.iconst 0, 1) := by decide +kernel
theorem dX5_isProved_26 : decode cX5_isProved 26 = .ok (.ireturn, 1) := by decide +kernel
theorem dX5_isProved_27 : decode cX5_isProved 27 = .ok (.iconst 0, 1) := by decide +kernel
theorem dX5_isProved_28 : decode cX5_isProved 28 = .ok (.istore 4, 2) := by decide +kernel
theorem dX5_isProved_30 : decode cX5_isProved 30 = .ok (.iload 4, 2) := by decide +kernel
theorem dX5_isProved_32 : decode cX5_isProved 32 = .ok (.bipush 30, 2) := by decide +kernel
theorem dX5_isProved_34 : decode cX5_isProved 34 = .ok (.if_icmp .ge 40, 3) := by decide +kernel
theorem dX5_isProved_37 : decode cX5_isProved 37 = .ok (.iload_n 3, 1) := by decide +kernel
theorem dX5_isProved_38 : decode cX5_isProved 38 = .ok (.iload 4, 2) := by decide +kernel
theorem dX5_isProved_40 : decode cX5_isProved 40 = .ok (.ishr, 1) := by decide +kernel
theorem dX5_isProved_41 : decode cX5_isProved 41 = .ok (.ifCond .eq 33, 3) := by decide +kernel
theorem dX5_isProved_44 : decode cX5_isProved 44 = .ok (.iload_n 3, 1) := by decide +kernel
theorem dX5_isProved_45 : decode cX5_isProved 45 = .ok (.iload 4, 2) := by decide +kernel
theorem dX5_isProved_47 : decode cX5_isProved 47 = .ok (.ishr, 1) := by decide +kernel
theorem dX5_isProved_48 : decode cX5_isProved 48 = .ok (.iconst 1, 1) := by decide +kernel
theorem dX5_isProved_49 : decode cX5_isProved 49 = .ok (.iand, 1) := by decide +kernel
theorem dX5_isProved_50 : decode cX5_isProved 50 = .ok (.iconst 1, 1) := by decide +kernel
theorem dX5_isProved_51 : decode cX5_isProved 51 = .ok (.if_icmp .ne 17, 3) := by decide +kernel
theorem dX5_isProved_54 : decode cX5_isProved 54 = .ok (.aload_n 0, 1) := by decide +kernel
theorem dX5_isProved_55 : decode cX5_isProved 55 = .ok (.getfield 28, 3) := by decide +kernel
theorem dX5_isProved_58 : decode cX5_isProved 58 = .ok (.iload 4, 2) := by decide +kernel
theorem dX5_isProved_60 : decode cX5_isProved 60 = .ok (.iaload, 1) := by decide +kernel
theorem dX5_isProved_61 : decode cX5_isProved 61 = .ok (.iload_n 2, 1) := by decide +kernel
theorem dX5_isProved_62 : decode cX5_isProved 62 = .ok (.iand, 1) := by decide +kernel
theorem dX5_isProved_63 : decode cX5_isProved 63 = .ok (.ifCond .ne 5, 3) := by decide +kernel
theorem dX5_isProved_66 : decode cX5_isProved 66 = .ok (.iconst 0, 1) := by decide +kernel
theorem dX5_isProved_67 : decode cX5_isProved 67 = .ok (.ireturn, 1) := by decide +kernel
theorem dX5_isProved_68 : decode cX5_isProved 68 = .ok (.iinc 4 1, 3) := by decide +kernel
theorem dX5_isProved_71 : decode cX5_isProved 71 = .ok (.goto (-41), 3) := by decide +kernel
theorem dX5_isProved_74 : decode cX5_isProved 74 = .ok (.iconst 1, 1) := by decide +kernel
theorem dX5_isProved_75 : decode cX5_isProved 75 = .ok (.ireturn, 1) := by decide +kernel
def fX5_isProved_68 (k30 : PH → Nat → Int32 → Int32 → Int32 → Option (Int32)) (h : PH) (x0 : Nat) (x2 : Int32) (x3 : Int32) (x4 : Int32) : Option (Int32) :=
  oL (x4 + 1) (fun y1 => k30 h x0 x2 x3 y1)
set_option maxHeartbeats 4000000 in
theorem wfX5_isProved_68 {args : Array Value} (b : Bd p s m c cX5_isProved 5 RX5 D aC) (hlk : meth.locks = false) (hr : meth.sig.returnType = some .boolean) {Z : State → Prop} (zs : Z s) (zk : ZOK Z (Rg ad)) {rz : Int32} {k30 : PH → Nat → Int32 → Int32 → Int32 → Option (Int32)} (H30 : ∀ (h : PH) (x0 : Nat) (x2 : Int32) (x3 : Int32) (x4 : Int32), ∀ (H : Heap) (locs : List Loc) (ls : Array Slot), k30 h x0 x2 x3 x4 = some rz → CE (EX D aC ad h) (Rg ad) s H locs → lv_has ls 5 [(0, .ref (ad x0)), (2, .int x2), (3, .int x3), (4, .int x4)] → W p l e (RM 0 0 0 0) s m args below meth c H locs 0 0 (MQ below (PQ (EX D aC ad h) (Rg ad) (some (.int rz))) args s 0 0 (Rg ad)) (F0 m 30 ls [])) {h : PH} {x0 : Nat} {x2 : Int32} {x3 : Int32} {x4 : Int32}  {H : Heap} {locs : List Loc} {ls : Array Slot} (hf : fX5_isProved_68 k30 h x0 x2 x3 x4 = some rz) (hE : CE (EX D aC ad h) (Rg ad) s H locs) (hl : lv_has ls 5 [(0, .ref (ad x0)), (2, .int x2), (3, .int x3), (4, .int x4)]) : W p l e (RM 0 0 0 0) s m args below meth c H locs 0 0 (MQ below (PQ (EX D aC ad h) (Rg ad) (some (.int rz))) args s 0 0 (Rg ad)) (F0 m 68 ls []) := by
  unfold fX5_isProved_68 at hf
  obtain ⟨y1, ey1, hf⟩ := oL_s hf
  refine lv_iinc (v := y1) (lv' := [(4, .int y1), (0, .ref (ad x0)), (2, .int x2), (3, .int x3)]) b.1 b.2.1 dX5_isProved_68 hl (k := 3) rfl (by rw [ey1]; rfl) (by decide) rfl (fun ls hl => ?_)
  refine lv_goto (tgt := 30) b.1 b.2.1 dX5_isProved_71 (by decide) ?_
  exact H30 h x0 x2 x3 y1 _ _ _ hf hE (lv_sub hl [1, 2, 3, 0] rfl)
def fX5_isProved_30F (k30 : PH → Nat → Int32 → Int32 → Int32 → Option (Int32)) (h : PH) (x0 : Nat) (x2 : Int32) (x3 : Int32) (x4 : Int32) : Option (Int32) :=
  if 30 ≤ x4 then (some (1)) else (if (x3 >>> (x4 &&& 31)) = 0 then (some (1)) else (if ((x3 >>> (x4 &&& 31)) &&& 1) = 1 then (oC (decide (hT h x0 = 6)) (oN (hR h 650 x0) (fun a6 => oC (decide (hT h a6 = 101)) (oC (ix x4 (hN h a6)) (if ((hA h a6 (Int32.toNatClampNeg x4)) &&& x2) = 0 then (some (0)) else (fX5_isProved_68 k30 h x0 x2 x3 x4)))))) else (fX5_isProved_68 k30 h x0 x2 x3 x4)))
set_option maxHeartbeats 4000000 in
theorem wfX5_isProved_30F {args : Array Value} (b : Bd p s m c cX5_isProved 5 RX5 D aC) (hlk : meth.locks = false) (hr : meth.sig.returnType = some .boolean) {Z : State → Prop} (zs : Z s) (zk : ZOK Z (Rg ad)) {rz : Int32} {k30 : PH → Nat → Int32 → Int32 → Int32 → Option (Int32)} (H30 : ∀ (h : PH) (x0 : Nat) (x2 : Int32) (x3 : Int32) (x4 : Int32), ∀ (H : Heap) (locs : List Loc) (ls : Array Slot), k30 h x0 x2 x3 x4 = some rz → CE (EX D aC ad h) (Rg ad) s H locs → lv_has ls 5 [(0, .ref (ad x0)), (2, .int x2), (3, .int x3), (4, .int x4)] → W p l e (RM 0 0 0 0) s m args below meth c H locs 0 0 (MQ below (PQ (EX D aC ad h) (Rg ad) (some (.int rz))) args s 0 0 (Rg ad)) (F0 m 30 ls [])) {h : PH} {x0 : Nat} {x2 : Int32} {x3 : Int32} {x4 : Int32}  {H : Heap} {locs : List Loc} {ls : Array Slot} (hf : fX5_isProved_30F k30 h x0 x2 x3 x4 = some rz) (hE : CE (EX D aC ad h) (Rg ad) s H locs) (hl : lv_has ls 5 [(0, .ref (ad x0)), (2, .int x2), (3, .int x3), (4, .int x4)]) : W p l e (RM 0 0 0 0) s m args below meth c H locs 0 0 (MQ below (PQ (EX D aC ad h) (Rg ad) (some (.int rz))) args s 0 0 (Rg ad)) (F0 m 30 ls []) := by
  unfold fX5_isProved_30F at hf
  refine lv_iload b.1 b.2.1 dX5_isProved_30 (lv_at hl 3 rfl) ?_
  refine lv_bipush (v := 30) b.1 b.2.1 dX5_isProved_32 (by decide) ?_
  refine lv_icmp_ge (tgt := 74) b.1 b.2.1 dX5_isProved_34 (by decide) (fun c2 => ?_) (fun c2 => ?_)
  · have hf := oI_t c2 hf
    refine lv_iconst (v := 1) b.1 b.2.1 dX5_isProved_74 (by decide) ?_
    cases hf
    exact k_zret b hlk hr (by decide) hE (Nat.le_refl _) (Nat.le_refl _) dX5_isProved_75
  · have hf := oI_f c2 hf
    refine lv_iload_n b.1 b.2.1 dX5_isProved_37 rfl (lv_at hl 2 rfl) ?_
    refine lv_iload b.1 b.2.1 dX5_isProved_38 (lv_at hl 3 rfl) ?_
    refine lv_ishr b.1 b.2.1 dX5_isProved_40 ?_
    refine lv_if_eq (tgt := 74) b.1 b.2.1 dX5_isProved_41 (by decide) (fun c3 => ?_) (fun c3 => ?_)
    · have hf := oI_t c3 hf
      refine lv_iconst (v := 1) b.1 b.2.1 dX5_isProved_74 (by decide) ?_
      cases hf
      exact k_zret b hlk hr (by decide) hE (Nat.le_refl _) (Nat.le_refl _) dX5_isProved_75
    · have hf := oI_f c3 hf
      refine lv_iload_n b.1 b.2.1 dX5_isProved_44 rfl (lv_at hl 2 rfl) ?_
      refine lv_iload b.1 b.2.1 dX5_isProved_45 (lv_at hl 3 rfl) ?_
      refine lv_ishr b.1 b.2.1 dX5_isProved_47 ?_
      refine lv_iconst (v := 1) b.1 b.2.1 dX5_isProved_48 (by decide) ?_
      refine lv_iand b.1 b.2.1 dX5_isProved_49 ?_
      refine lv_iconst (v := 1) b.1 b.2.1 dX5_isProved_50 (by decide) ?_
      refine lv_icmp_ne (tgt := 68) b.1 b.2.1 dX5_isProved_51 (by decide) (fun c4 => ?_) (fun c4 => ?_)
      · have hf := oI_f c4 hf
        exact wfX5_isProved_68 b hlk hr zs zk H30 hf hE (lv_sub hl [0, 1, 2, 3] rfl)
      · have hf := oI_t c4 hf
        refine lv_aload_n b.1 b.2.1 dX5_isProved_54 rfl (lv_at hl 0 rfl) ?_
        obtain ⟨t5, hf⟩ := oC_s hf
        have t5 := of_decide_eq_true t5
        refine gX5_28 (x := (some x0)) b hE rfl t5 dX5_isProved_55 ?_
        refine lv_iload b.1 b.2.1 dX5_isProved_58 (lv_at hl 3 rfl) ?_
        obtain ⟨a6, ea6, hf⟩ := oN_s hf
        obtain ⟨t7, hf⟩ := oC_s hf
        have t7 := of_decide_eq_true t7
        obtain ⟨g8, hf⟩ := oC_s hf
        refine q_iald (x := (hR h 650 x0)) b hE ea6 t7 g8 dX5_isProved_60 ?_
        refine lv_iload_n b.1 b.2.1 dX5_isProved_61 rfl (lv_at hl 1 rfl) ?_
        refine lv_iand b.1 b.2.1 dX5_isProved_62 ?_
        refine lv_if_ne (tgt := 68) b.1 b.2.1 dX5_isProved_63 (by decide) (fun c9 => ?_) (fun c9 => ?_)
        · have hf := oI_f c9 hf
          exact wfX5_isProved_68 b hlk hr zs zk H30 hf hE (lv_sub hl [0, 1, 2, 3] rfl)
        · have hf := oI_t c9 hf
          refine lv_iconst (v := 0) b.1 b.2.1 dX5_isProved_66 (by decide) ?_
          cases hf
          exact k_zret b hlk hr (by decide) hE (Nat.le_refl _) (Nat.le_refl _) dX5_isProved_67
def fX5_isProved_30  : Nat → PH → Nat → Int32 → Int32 → Int32 → Option (Int32)
  | 0 => fun _ _ _ _ _ => none
  | n + 1 => fX5_isProved_30F  (fX5_isProved_30  n)
set_option maxHeartbeats 4000000 in
theorem wfX5_isProved_30 {args : Array Value} (b : Bd p s m c cX5_isProved 5 RX5 D aC) (hlk : meth.locks = false) (hr : meth.sig.returnType = some .boolean) {Z : State → Prop} (zs : Z s) (zk : ZOK Z (Rg ad)) {rz : Int32} : ∀ n : Nat, ∀ (h : PH) (x0 : Nat) (x2 : Int32) (x3 : Int32) (x4 : Int32), ∀ (H : Heap) (locs : List Loc) (ls : Array Slot), fX5_isProved_30  n h x0 x2 x3 x4 = some rz → CE (EX D aC ad h) (Rg ad) s H locs → lv_has ls 5 [(0, .ref (ad x0)), (2, .int x2), (3, .int x3), (4, .int x4)] → W p l e (RM 0 0 0 0) s m args below meth c H locs 0 0 (MQ below (PQ (EX D aC ad h) (Rg ad) (some (.int rz))) args s 0 0 (Rg ad)) (F0 m 30 ls []) := by
  intro n
  induction n with
  | zero =>
    intro h x0 x2 x3 x4 H locs ls hf
    have hf : (none : Option (Int32)) = some _ := hf
    cases hf
  | succ n ih =>
    intro h x0 x2 x3 x4 H locs ls hf hE hl
    exact wfX5_isProved_30F b hlk hr zs zk  ih hf hE hl
def fX5_isProved_0  (h : PH) (x0 : Nat) (x1 : Int32) : Option (Int32) :=
  oC (decide (hT h x0 = 6)) (oN (hR h 648 x0) (fun a11 => oC (decide (hT h a11 = 101)) (oC (ix x1 (hN h a11)) (oL ((hA h a11 (Int32.toNatClampNeg x1)) &&& (hI h 651 x0)) (fun y14 => oN (hR h 649 x0) (fun a15 => oC (decide (hT h a15 = 101)) (oC (ix (x1 ^^^ 1) (hN h a15)) (oL (hA h a15 (Int32.toNatClampNeg (x1 ^^^ 1))) (fun y18 => if y14 = 0 then (some (0)) else (fX5_isProved_30  FU h x0 y14 y18 0))))))))))
set_option maxHeartbeats 4000000 in
theorem wfX5_isProved_0 {args : Array Value} (b : Bd p s m c cX5_isProved 5 RX5 D aC) (hlk : meth.locks = false) (hr : meth.sig.returnType = some .boolean) {Z : State → Prop} (zs : Z s) (zk : ZOK Z (Rg ad)) {rz : Int32} {h : PH} {x0 : Nat} {x1 : Int32}  {H : Heap} {locs : List Loc} {ls : Array Slot} (hf : fX5_isProved_0 h x0 x1 = some rz) (hE : CE (EX D aC ad h) (Rg ad) s H locs) (hl : lv_has ls 5 [(0, .ref (ad x0)), (1, .int x1)]) : W p l e (RM 0 0 0 0) s m args below meth c H locs 0 0 (MQ below (PQ (EX D aC ad h) (Rg ad) (some (.int rz))) args s 0 0 (Rg ad)) (F0 m 0 ls []) := by
  unfold fX5_isProved_0 at hf
  refine lv_aload_n b.1 b.2.1 dX5_isProved_0 rfl (lv_at hl 0 rfl) ?_
  obtain ⟨t10, hf⟩ := oC_s hf
  have t10 := of_decide_eq_true t10
  refine gX5_22 (x := (some x0)) b hE rfl t10 dX5_isProved_1 ?_
  refine lv_iload_n b.1 b.2.1 dX5_isProved_4 rfl (lv_at hl 1 rfl) ?_
  obtain ⟨a11, ea11, hf⟩ := oN_s hf
  obtain ⟨t12, hf⟩ := oC_s hf
  have t12 := of_decide_eq_true t12
  obtain ⟨g13, hf⟩ := oC_s hf
  refine q_iald (x := (hR h 648 x0)) b hE ea11 t12 g13 dX5_isProved_5 ?_
  refine lv_aload_n b.1 b.2.1 dX5_isProved_6 rfl (lv_at hl 0 rfl) ?_
  refine gX5_87 (x := (some x0)) b hE rfl t10 dX5_isProved_7 ?_
  refine lv_iand b.1 b.2.1 dX5_isProved_10 ?_
  obtain ⟨y14, ey14, hf⟩ := oL_s hf
  refine k_nmI ey14 ?_
  refine lv_istore_n (lv' := [(2, .int y14), (0, .ref (ad x0)), (1, .int x1)]) b.1 b.2.1 dX5_isProved_11 rfl hl (by decide) rfl (fun ls hl => ?_)
  refine lv_aload_n b.1 b.2.1 dX5_isProved_12 rfl (lv_at hl 1 rfl) ?_
  refine gX5_25 (x := (some x0)) b hE rfl t10 dX5_isProved_13 ?_
  refine lv_iload_n b.1 b.2.1 dX5_isProved_16 rfl (lv_at hl 2 rfl) ?_
  refine lv_iconst (v := 1) b.1 b.2.1 dX5_isProved_17 (by decide) ?_
  refine lv_ixor b.1 b.2.1 dX5_isProved_18 ?_
  obtain ⟨a15, ea15, hf⟩ := oN_s hf
  obtain ⟨t16, hf⟩ := oC_s hf
  have t16 := of_decide_eq_true t16
  obtain ⟨g17, hf⟩ := oC_s hf
  refine q_iald (x := (hR h 649 x0)) b hE ea15 t16 g17 dX5_isProved_19 ?_
  obtain ⟨y18, ey18, hf⟩ := oL_s hf
  refine k_nmI ey18 ?_
  refine lv_istore_n (lv' := [(3, .int y18), (2, .int y14), (0, .ref (ad x0)), (1, .int x1)]) b.1 b.2.1 dX5_isProved_20 rfl hl (by decide) rfl (fun ls hl => ?_)
  have hl := lv_sub (l' := [(3, .int y18), (2, .int y14), (0, .ref (ad x0))]) hl [0, 1, 2] rfl
  refine lv_iload_n b.1 b.2.1 dX5_isProved_21 rfl (lv_at hl 1 rfl) ?_
  refine lv_if_ne (tgt := 27) b.1 b.2.1 dX5_isProved_22 (by decide) (fun c19 => ?_) (fun c19 => ?_)
  · have hf := oI_f c19 hf
    refine lv_iconst (v := 0) b.1 b.2.1 dX5_isProved_27 (by decide) ?_
    refine lv_istore (lv' := [(4, .int 0), (3, .int y18), (2, .int y14), (0, .ref (ad x0))]) b.1 b.2.1 dX5_isProved_28 hl (by decide) rfl (fun ls hl => ?_)
    exact wfX5_isProved_30 b hlk hr zs zk  FU h x0 y14 y18 0 _ _ _ hf hE (lv_sub hl [3, 2, 1, 0] rfl)
  · have hf := oI_t c19 hf
    refine lv_iconst (v := 0) b.1 b.2.1 dX5_isProved_25 (by decide) ?_
    cases hf
    exact k_zret b hlk hr (by decide) hE (Nat.le_refl _) (Nat.le_refl _) dX5_isProved_26
def fX5_isProved (h : PH) (x0 : Nat) (x1 : Int32) : Option (Int32) := fX5_isProved_0 h x0 x1
set_option maxHeartbeats 4000000 in
theorem CX5_isProved (l : Launch) (D : va_G) (aC : Nat → ClassId) (ad : Nat → Nat) {Z : State → Prop} (zk : ZOK Z (Rg ad)) {h : PH} {x0 : Nat} {x1 : Int32} {rz : Int32} (hf : fX5_isProved h x0 x1 = some rz) : CM l D aC Z yX5_isProved cX5_isProved 5 (some .boolean) 0 0 0 0 (EX D aC ad h) [.ref (ad x0), .int x1] (EX D aC ad h) (some (.int rz)) (Rg ad) := by
  refine CM.of rfl ?_
  intro p e s m below meth c b hr hlk hin2 zs hE
  refine k_ent (Nat.le_of_ble_eq_true rfl) (fun ls hl => ?_)
  exact wfX5_isProved_0 b hlk hr zs zk hf hE (lv_sub hl [0, 1] rfl)
theorem dX5_prevails_0 : decode cX5_prevails 0 = .ok (.aload_n 0, 1) := by decide +kernel
theorem dX5_prevails_1 : decode cX5_prevails 1 = .ok (.getfield 28, 3) := by decide +kernel
theorem dX5_prevails_4 : decode cX5_prevails 4 = .ok (.iload_n 1, 1) := by decide +kernel
theorem dX5_prevails_5 : decode cX5_prevails 5 = .ok (.iaload, 1) := by decide +kernel
theorem dX5_prevails_6 : decode cX5_prevails 6 = .ok (.aload_n 0, 1) := by decide +kernel
theorem dX5_prevails_7 : decode cX5_prevails 7 = .ok (.getfield 25, 3) := by decide +kernel
theorem dX5_prevails_10 : decode cX5_prevails 10 = .ok (.iload_n 2, 1) := by decide +kernel
theorem dX5_prevails_11 : decode cX5_prevails 11 = .ok (.iaload, 1) := by decide +kernel
theorem dX5_prevails_12 : decode cX5_prevails 12 = .ok (.iand, 1) := by decide +kernel
theorem dX5_prevails_13 : decode cX5_prevails 13 = .ok (.aload_n 0, 1) := by decide +kernel
theorem dX5_prevails_14 : decode cX5_prevails 14 = .ok (.getfield 87, 3) := by decide +kernel
theorem dX5_prevails_17 : decode cX5_prevails 17 = .ok (.iand, 1) := by decide +kernel
theorem dX5_prevails_18 : decode cX5_prevails 18 = .ok (.ifCond .ne 7, 3) := by decide +kernel
theorem dX5_prevails_21 : decode cX5_prevails 21 = .ok (.iconst 1, 1) := by decide +kernel
theorem dX5_prevails_22 : decode cX5_prevails 22 = .ok (.goto 4, 3) := by decide +kernel
theorem dX5_prevails_25 : decode cX5_prevails 25 = .ok (.iconst 0, 1) := by decide +kernel
theorem dX5_prevails_26 : decode cX5_prevails 26 = .ok (.ireturn, 1) := by decide +kernel
def fX5_prevails_0  (h : PH) (x0 : Nat) (x1 : Int32) (x2 : Int32) : Option (Int32) :=
  oC (decide (hT h x0 = 6)) (oN (hR h 650 x0) (fun a2 => oC (decide (hT h a2 = 101)) (oC (ix x1 (hN h a2)) (oN (hR h 649 x0) (fun a5 => oC (decide (hT h a5 = 101)) (oC (ix x2 (hN h a5)) (if (((hA h a2 (Int32.toNatClampNeg x1)) &&& (hA h a5 (Int32.toNatClampNeg x2))) &&& (hI h 651 x0)) = 0 then (some (1)) else (some (0)))))))))
set_option maxHeartbeats 4000000 in
theorem wfX5_prevails_0 {args : Array Value} (b : Bd p s m c cX5_prevails 3 RX5 D aC) (hlk : meth.locks = false) (hr : meth.sig.returnType = some .boolean) {Z : State → Prop} (zs : Z s) (zk : ZOK Z (Rg ad)) {rz : Int32} {h : PH} {x0 : Nat} {x1 : Int32} {x2 : Int32}  {H : Heap} {locs : List Loc} {ls : Array Slot} (hf : fX5_prevails_0 h x0 x1 x2 = some rz) (hE : CE (EX D aC ad h) (Rg ad) s H locs) (hl : lv_has ls 3 [(0, .ref (ad x0)), (1, .int x1), (2, .int x2)]) : W p l e (RM 0 0 0 0) s m args below meth c H locs 0 0 (MQ below (PQ (EX D aC ad h) (Rg ad) (some (.int rz))) args s 0 0 (Rg ad)) (F0 m 0 ls []) := by
  unfold fX5_prevails_0 at hf
  refine lv_aload_n b.1 b.2.1 dX5_prevails_0 rfl (lv_at hl 0 rfl) ?_
  obtain ⟨t1, hf⟩ := oC_s hf
  have t1 := of_decide_eq_true t1
  refine gX5_28 (x := (some x0)) b hE rfl t1 dX5_prevails_1 ?_
  refine lv_iload_n b.1 b.2.1 dX5_prevails_4 rfl (lv_at hl 1 rfl) ?_
  obtain ⟨a2, ea2, hf⟩ := oN_s hf
  obtain ⟨t3, hf⟩ := oC_s hf
  have t3 := of_decide_eq_true t3
  obtain ⟨g4, hf⟩ := oC_s hf
  refine q_iald (x := (hR h 650 x0)) b hE ea2 t3 g4 dX5_prevails_5 ?_
  refine lv_aload_n b.1 b.2.1 dX5_prevails_6 rfl (lv_at hl 0 rfl) ?_
  refine gX5_25 (x := (some x0)) b hE rfl t1 dX5_prevails_7 ?_
  refine lv_iload_n b.1 b.2.1 dX5_prevails_10 rfl (lv_at hl 2 rfl) ?_
  obtain ⟨a5, ea5, hf⟩ := oN_s hf
  obtain ⟨t6, hf⟩ := oC_s hf
  have t6 := of_decide_eq_true t6
  obtain ⟨g7, hf⟩ := oC_s hf
  refine q_iald (x := (hR h 649 x0)) b hE ea5 t6 g7 dX5_prevails_11 ?_
  refine lv_iand b.1 b.2.1 dX5_prevails_12 ?_
  refine lv_aload_n b.1 b.2.1 dX5_prevails_13 rfl (lv_at hl 0 rfl) ?_
  refine gX5_87 (x := (some x0)) b hE rfl t1 dX5_prevails_14 ?_
  refine lv_iand b.1 b.2.1 dX5_prevails_17 ?_
  refine lv_if_ne (tgt := 25) b.1 b.2.1 dX5_prevails_18 (by decide) (fun c8 => ?_) (fun c8 => ?_)
  · have hf := oI_f c8 hf
    refine lv_iconst (v := 0) b.1 b.2.1 dX5_prevails_25 (by decide) ?_
    cases hf
    exact k_zret b hlk hr (by decide) hE (Nat.le_refl _) (Nat.le_refl _) dX5_prevails_26
  · have hf := oI_t c8 hf
    refine lv_iconst (v := 1) b.1 b.2.1 dX5_prevails_21 (by decide) ?_
    refine lv_goto (tgt := 26) b.1 b.2.1 dX5_prevails_22 (by decide) ?_
    cases hf
    exact k_zret b hlk hr (by decide) hE (Nat.le_refl _) (Nat.le_refl _) dX5_prevails_26
def fX5_prevails (h : PH) (x0 : Nat) (x1 : Int32) (x2 : Int32) : Option (Int32) := fX5_prevails_0 h x0 x1 x2
set_option maxHeartbeats 4000000 in
theorem CX5_prevails (l : Launch) (D : va_G) (aC : Nat → ClassId) (ad : Nat → Nat) {Z : State → Prop} (zk : ZOK Z (Rg ad)) {h : PH} {x0 : Nat} {x1 : Int32} {x2 : Int32} {rz : Int32} (hf : fX5_prevails h x0 x1 x2 = some rz) : CM l D aC Z yX5_prevails cX5_prevails 3 (some .boolean) 0 0 0 0 (EX D aC ad h) [.ref (ad x0), .int x1, .int x2] (EX D aC ad h) (some (.int rz)) (Rg ad) := by
  refine CM.of rfl ?_
  intro p e s m below meth c b hr hlk hin2 zs hE
  refine k_ent (Nat.le_of_ble_eq_true rfl) (fun ls hl => ?_)
  exact wfX5_prevails_0 b hlk hr zs zk hf hE (lv_sub hl [0, 1, 2] rfl)
theorem dX5_isRefuted_0 : decode cX5_isRefuted 0 = .ok (.aload_n 0, 1) := by decide +kernel
theorem dX5_isRefuted_1 : decode cX5_isRefuted 1 = .ok (.getfield 25, 3) := by decide +kernel
theorem dX5_isRefuted_4 : decode cX5_isRefuted 4 = .ok (.iload_n 1, 1) := by decide +kernel
theorem dX5_isRefuted_5 : decode cX5_isRefuted 5 = .ok (.iaload, 1) := by decide +kernel
theorem dX5_isRefuted_6 : decode cX5_isRefuted 6 = .ok (.aload_n 0, 1) := by decide +kernel
theorem dX5_isRefuted_7 : decode cX5_isRefuted 7 = .ok (.getfield 87, 3) := by decide +kernel
theorem dX5_isRefuted_10 : decode cX5_isRefuted 10 = .ok (.iand, 1) := by decide +kernel
theorem dX5_isRefuted_11 : decode cX5_isRefuted 11 = .ok (.ifCond .ne 5, 3) := by decide +kernel
theorem dX5_isRefuted_14 : decode cX5_isRefuted 14 = .ok (.iconst 1, 1) := by decide +kernel
theorem dX5_isRefuted_15 : decode cX5_isRefuted 15 = .ok (.ireturn, 1) := by decide +kernel
theorem dX5_isRefuted_16 : decode cX5_isRefuted 16 = .ok (.aload_n 0, 1) := by decide +kernel
theorem dX5_isRefuted_17 : decode cX5_isRefuted 17 = .ok (.getfield 22, 3) := by decide +kernel
theorem dX5_isRefuted_20 : decode cX5_isRefuted 20 = .ok (.iload_n 1, 1) := by decide +kernel
theorem dX5_isRefuted_21 : decode cX5_isRefuted 21 = .ok (.iconst 1, 1) := by decide +kernel
theorem dX5_isRefuted_22 : decode cX5_isRefuted 22 = .ok (.ixor, 1) := by decide +kernel
theorem dX5_isRefuted_23 : decode cX5_isRefuted 23 = .ok (.iaload, 1) := by decide +kernel
theorem dX5_isRefuted_24 : decode cX5_isRefuted 24 = .ok (.istore_n 2, 1) := by decide +kernel
theorem dX5_isRefuted_25 : decode cX5_isRefuted 25 = .ok (.iconst 0, 1) := by decide +kernel
theorem dX5_isRefuted_26 : decode cX5_isRefuted 26 = .ok (.istore_n 3, 1) := by decide +kernel
theorem dX5_isRefuted_27 : decode cX5_isRefuted 27 = .ok (.iload_n 3, 1) := by decide +kernel
theorem dX5_isRefuted_28 : decode cX5_isRefuted 28 = .ok (.bipush 30, 2) := by decide +kernel
theorem dX5_isRefuted_30 : decode cX5_isRefuted 30 = .ok (.if_icmp .ge 35, 3) := by decide +kernel
theorem dX5_isRefuted_33 : decode cX5_isRefuted 33 = .ok (.iload_n 2, 1) := by decide +kernel
theorem dX5_isRefuted_34 : decode cX5_isRefuted 34 = .ok (.iload_n 3, 1) := by decide +kernel
theorem dX5_isRefuted_35 : decode cX5_isRefuted 35 = .ok (.ishr, 1) := by decide +kernel
theorem dX5_isRefuted_36 : decode cX5_isRefuted 36 = .ok (.ifCond .eq 29, 3) := by decide +kernel
theorem dX5_isRefuted_39 : decode cX5_isRefuted 39 = .ok (.iload_n 2, 1) := by decide +kernel
theorem dX5_isRefuted_40 : decode cX5_isRefuted 40 = .ok (.iload_n 3, 1) := by decide +kernel
theorem dX5_isRefuted_41 : decode cX5_isRefuted 41 = .ok (.ishr, 1) := by decide +kernel
theorem dX5_isRefuted_42 : decode cX5_isRefuted 42 = .ok (.iconst 1, 1) := by decide +kernel
theorem dX5_isRefuted_43 : decode cX5_isRefuted 43 = .ok (.iand, 1) := by decide +kernel
theorem dX5_isRefuted_44 : decode cX5_isRefuted 44 = .ok (.iconst 1, 1) := by decide +kernel
theorem dX5_isRefuted_45 : decode cX5_isRefuted 45 = .ok (.if_icmp .ne 14, 3) := by decide +kernel
theorem dX5_isRefuted_48 : decode cX5_isRefuted 48 = .ok (.aload_n 0, 1) := by decide +kernel
theorem dX5_isRefuted_49 : decode cX5_isRefuted 49 = .ok (.iload_n 3, 1) := by decide +kernel
theorem dX5_isRefuted_50 : decode cX5_isRefuted 50 = .ok (.iload_n 1, 1) := by decide +kernel
theorem dX5_isRefuted_51 : decode cX5_isRefuted 51 = .ok (.invokevirtual 283, 3) := by decide +kernel
theorem dX5_isRefuted_54 : decode cX5_isRefuted 54 = .ok (.ifCond .eq 5, 3) := by decide +kernel
theorem dX5_isRefuted_57 : decode cX5_isRefuted 57 = .ok (.iconst 1, 1) := by decide +kernel
theorem dX5_isRefuted_58 : decode cX5_isRefuted 58 = .ok (.ireturn, 1) := by decide +kernel
theorem dX5_isRefuted_59 : decode cX5_isRefuted 59 = .ok (.iinc 3 1, 3) := by decide +kernel
theorem dX5_isRefuted_62 : decode cX5_isRefuted 62 = .ok (.goto (-35), 3) := by decide +kernel
theorem dX5_isRefuted_65 : decode cX5_isRefuted 65 = .ok (.iconst 0, 1) := by decide +kernel
theorem dX5_isRefuted_66 : decode cX5_isRefuted 66 = .ok (.ireturn, 1) := by decide +kernel
def fX5_isRefuted_59 (k27 : PH → Nat → Int32 → Int32 → Int32 → Option (Int32)) (h : PH) (x0 : Nat) (x1 : Int32) (x2 : Int32) (x3 : Int32) : Option (Int32) :=
  oL (x3 + 1) (fun y1 => k27 h x0 x1 x2 y1)
set_option maxHeartbeats 4000000 in
theorem wfX5_isRefuted_59 {args : Array Value} (b : Bd p s m c cX5_isRefuted 4 RX5 D aC) (hlk : meth.locks = false) (hr : meth.sig.returnType = some .boolean) {Z : State → Prop} (zs : Z s) (zk : ZOK Z (Rg ad)) {rz : Int32} {k27 : PH → Nat → Int32 → Int32 → Int32 → Option (Int32)} (H27 : ∀ (h : PH) (x0 : Nat) (x1 : Int32) (x2 : Int32) (x3 : Int32), ∀ (H : Heap) (locs : List Loc) (ls : Array Slot), k27 h x0 x1 x2 x3 = some rz → CE (EX D aC ad h) (Rg ad) s H locs → lv_has ls 4 [(0, .ref (ad x0)), (1, .int x1), (2, .int x2), (3, .int x3)] → W p l e (RM 1 22 0 0) s m args below meth c H locs 0 0 (MQ below (PQ (EX D aC ad h) (Rg ad) (some (.int rz))) args s 0 0 (Rg ad)) (F0 m 27 ls [])) {h : PH} {x0 : Nat} {x1 : Int32} {x2 : Int32} {x3 : Int32}  {H : Heap} {locs : List Loc} {ls : Array Slot} (hf : fX5_isRefuted_59 k27 h x0 x1 x2 x3 = some rz) (hE : CE (EX D aC ad h) (Rg ad) s H locs) (hl : lv_has ls 4 [(0, .ref (ad x0)), (1, .int x1), (2, .int x2), (3, .int x3)]) : W p l e (RM 1 22 0 0) s m args below meth c H locs 0 0 (MQ below (PQ (EX D aC ad h) (Rg ad) (some (.int rz))) args s 0 0 (Rg ad)) (F0 m 59 ls []) := by
  unfold fX5_isRefuted_59 at hf
  obtain ⟨y1, ey1, hf⟩ := oL_s hf
  refine lv_iinc (v := y1) (lv' := [(3, .int y1), (0, .ref (ad x0)), (1, .int x1), (2, .int x2)]) b.1 b.2.1 dX5_isRefuted_59 hl (k := 3) rfl (by rw [ey1]; rfl) (by decide) rfl (fun ls hl => ?_)
  refine lv_goto (tgt := 27) b.1 b.2.1 dX5_isRefuted_62 (by decide) ?_
  exact H27 h x0 x1 x2 y1 _ _ _ hf hE (lv_sub hl [1, 2, 3, 0] rfl)
def fX5_isRefuted_27F (k27 : PH → Nat → Int32 → Int32 → Int32 → Option (Int32)) (h : PH) (x0 : Nat) (x1 : Int32) (x2 : Int32) (x3 : Int32) : Option (Int32) :=
  if 30 ≤ x3 then (some (0)) else (if (x2 >>> (x3 &&& 31)) = 0 then (some (0)) else (if ((x2 >>> (x3 &&& 31)) &&& 1) = 1 then (oC (decide (hT h x0 = 6)) (oB (fX5_prevails h x0 x3 x1) (fun r7 => if r7 = 0 then (fX5_isRefuted_59 k27 h x0 x1 x2 x3) else (some (1))))) else (fX5_isRefuted_59 k27 h x0 x1 x2 x3)))
set_option maxHeartbeats 4000000 in
theorem wfX5_isRefuted_27F {args : Array Value} (b : Bd p s m c cX5_isRefuted 4 RX5 D aC) (hlk : meth.locks = false) (hr : meth.sig.returnType = some .boolean) {Z : State → Prop} (zs : Z s) (zk : ZOK Z (Rg ad)) {rz : Int32} {k27 : PH → Nat → Int32 → Int32 → Int32 → Option (Int32)} (H27 : ∀ (h : PH) (x0 : Nat) (x1 : Int32) (x2 : Int32) (x3 : Int32), ∀ (H : Heap) (locs : List Loc) (ls : Array Slot), k27 h x0 x1 x2 x3 = some rz → CE (EX D aC ad h) (Rg ad) s H locs → lv_has ls 4 [(0, .ref (ad x0)), (1, .int x1), (2, .int x2), (3, .int x3)] → W p l e (RM 1 22 0 0) s m args below meth c H locs 0 0 (MQ below (PQ (EX D aC ad h) (Rg ad) (some (.int rz))) args s 0 0 (Rg ad)) (F0 m 27 ls [])) {h : PH} {x0 : Nat} {x1 : Int32} {x2 : Int32} {x3 : Int32}  {H : Heap} {locs : List Loc} {ls : Array Slot} (hf : fX5_isRefuted_27F k27 h x0 x1 x2 x3 = some rz) (hE : CE (EX D aC ad h) (Rg ad) s H locs) (hl : lv_has ls 4 [(0, .ref (ad x0)), (1, .int x1), (2, .int x2), (3, .int x3)]) : W p l e (RM 1 22 0 0) s m args below meth c H locs 0 0 (MQ below (PQ (EX D aC ad h) (Rg ad) (some (.int rz))) args s 0 0 (Rg ad)) (F0 m 27 ls []) := by
  unfold fX5_isRefuted_27F at hf
  refine lv_iload_n b.1 b.2.1 dX5_isRefuted_27 rfl (lv_at hl 3 rfl) ?_
  refine lv_bipush (v := 30) b.1 b.2.1 dX5_isRefuted_28 (by decide) ?_
  refine lv_icmp_ge (tgt := 65) b.1 b.2.1 dX5_isRefuted_30 (by decide) (fun c2 => ?_) (fun c2 => ?_)
  · have hf := oI_t c2 hf
    refine lv_iconst (v := 0) b.1 b.2.1 dX5_isRefuted_65 (by decide) ?_
    cases hf
    exact k_zret b hlk hr (by decide) hE (Nat.le_refl _) (Nat.le_refl _) dX5_isRefuted_66
  · have hf := oI_f c2 hf
    refine lv_iload_n b.1 b.2.1 dX5_isRefuted_33 rfl (lv_at hl 2 rfl) ?_
    refine lv_iload_n b.1 b.2.1 dX5_isRefuted_34 rfl (lv_at hl 3 rfl) ?_
    refine lv_ishr b.1 b.2.1 dX5_isRefuted_35 ?_
    refine lv_if_eq (tgt := 65) b.1 b.2.1 dX5_isRefuted_36 (by decide) (fun c3 => ?_) (fun c3 => ?_)
    · have hf := oI_t c3 hf
      refine lv_iconst (v := 0) b.1 b.2.1 dX5_isRefuted_65 (by decide) ?_
      cases hf
      exact k_zret b hlk hr (by decide) hE (Nat.le_refl _) (Nat.le_refl _) dX5_isRefuted_66
    · have hf := oI_f c3 hf
      refine lv_iload_n b.1 b.2.1 dX5_isRefuted_39 rfl (lv_at hl 2 rfl) ?_
      refine lv_iload_n b.1 b.2.1 dX5_isRefuted_40 rfl (lv_at hl 3 rfl) ?_
      refine lv_ishr b.1 b.2.1 dX5_isRefuted_41 ?_
      refine lv_iconst (v := 1) b.1 b.2.1 dX5_isRefuted_42 (by decide) ?_
      refine lv_iand b.1 b.2.1 dX5_isRefuted_43 ?_
      refine lv_iconst (v := 1) b.1 b.2.1 dX5_isRefuted_44 (by decide) ?_
      refine lv_icmp_ne (tgt := 59) b.1 b.2.1 dX5_isRefuted_45 (by decide) (fun c4 => ?_) (fun c4 => ?_)
      · have hf := oI_f c4 hf
        exact wfX5_isRefuted_59 b hlk hr zs zk H27 hf hE (lv_sub hl [0, 1, 2, 3] rfl)
      · have hf := oI_t c4 hf
        refine lv_aload_n b.1 b.2.1 dX5_isRefuted_48 rfl (lv_at hl 0 rfl) ?_
        refine lv_iload_n b.1 b.2.1 dX5_isRefuted_49 rfl (lv_at hl 3 rfl) ?_
        refine lv_iload_n b.1 b.2.1 dX5_isRefuted_50 rfl (lv_at hl 1 rfl) ?_
        obtain ⟨t5, hf⟩ := oC_s hf
        have t5 := of_decide_eq_true t5
        obtain ⟨r7, hc6, hf⟩ := oB_s hf
        refine k_callV0 (C := RX5) b zs zk hE (CX5_prevails l D aC ad zk hc6) mc_X5_prevails (in5 55 rfl rfl) mi_X5_prevails ms_X5_prevails ini_RX5 ok_X5_prevails (x_recv b hE (ci := 5) rfl (by decide) t5) ⟨Nat.le_of_ble_eq_true rfl, Nat.le_of_ble_eq_true rfl⟩ rfl hl.1 rfl (k_room _ (by exact Nat.le_of_ble_eq_true rfl)) ⟨Nat.le_refl _, Nat.le_refl _⟩ dX5_isRefuted_51 (fun H locs hE => ?_)
        refine lv_if_eq (tgt := 59) b.1 b.2.1 dX5_isRefuted_54 (by decide) (fun c8 => ?_) (fun c8 => ?_)
        · have hf := oI_t c8 hf
          exact wfX5_isRefuted_59 b hlk hr zs zk H27 hf hE (lv_sub hl [0, 1, 2, 3] rfl)
        · have hf := oI_f c8 hf
          refine lv_iconst (v := 1) b.1 b.2.1 dX5_isRefuted_57 (by decide) ?_
          cases hf
          exact k_zret b hlk hr (by decide) hE (Nat.le_refl _) (Nat.le_refl _) dX5_isRefuted_58
def fX5_isRefuted_27  : Nat → PH → Nat → Int32 → Int32 → Int32 → Option (Int32)
  | 0 => fun _ _ _ _ _ => none
  | n + 1 => fX5_isRefuted_27F  (fX5_isRefuted_27  n)
set_option maxHeartbeats 4000000 in
theorem wfX5_isRefuted_27 {args : Array Value} (b : Bd p s m c cX5_isRefuted 4 RX5 D aC) (hlk : meth.locks = false) (hr : meth.sig.returnType = some .boolean) {Z : State → Prop} (zs : Z s) (zk : ZOK Z (Rg ad)) {rz : Int32} : ∀ n : Nat, ∀ (h : PH) (x0 : Nat) (x1 : Int32) (x2 : Int32) (x3 : Int32), ∀ (H : Heap) (locs : List Loc) (ls : Array Slot), fX5_isRefuted_27  n h x0 x1 x2 x3 = some rz → CE (EX D aC ad h) (Rg ad) s H locs → lv_has ls 4 [(0, .ref (ad x0)), (1, .int x1), (2, .int x2), (3, .int x3)] → W p l e (RM 1 22 0 0) s m args below meth c H locs 0 0 (MQ below (PQ (EX D aC ad h) (Rg ad) (some (.int rz))) args s 0 0 (Rg ad)) (F0 m 27 ls []) := by
  intro n
  induction n with
  | zero =>
    intro h x0 x1 x2 x3 H locs ls hf
    have hf : (none : Option (Int32)) = some _ := hf
    cases hf
  | succ n ih =>
    intro h x0 x1 x2 x3 H locs ls hf hE hl
    exact wfX5_isRefuted_27F b hlk hr zs zk  ih hf hE hl
def fX5_isRefuted_0  (h : PH) (x0 : Nat) (x1 : Int32) : Option (Int32) :=
  oC (decide (hT h x0 = 6)) (oN (hR h 649 x0) (fun a10 => oC (decide (hT h a10 = 101)) (oC (ix x1 (hN h a10)) (if ((hA h a10 (Int32.toNatClampNeg x1)) &&& (hI h 651 x0)) = 0 then (some (1)) else (oN (hR h 648 x0) (fun a14 => oC (decide (hT h a14 = 101)) (oC (ix (x1 ^^^ 1) (hN h a14)) (oL (hA h a14 (Int32.toNatClampNeg (x1 ^^^ 1))) (fun y17 => fX5_isRefuted_27  FU h x0 x1 y17 0)))))))))
set_option maxHeartbeats 4000000 in
theorem wfX5_isRefuted_0 {args : Array Value} (b : Bd p s m c cX5_isRefuted 4 RX5 D aC) (hlk : meth.locks = false) (hr : meth.sig.returnType = some .boolean) {Z : State → Prop} (zs : Z s) (zk : ZOK Z (Rg ad)) {rz : Int32} {h : PH} {x0 : Nat} {x1 : Int32}  {H : Heap} {locs : List Loc} {ls : Array Slot} (hf : fX5_isRefuted_0 h x0 x1 = some rz) (hE : CE (EX D aC ad h) (Rg ad) s H locs) (hl : lv_has ls 4 [(0, .ref (ad x0)), (1, .int x1)]) : W p l e (RM 1 22 0 0) s m args below meth c H locs 0 0 (MQ below (PQ (EX D aC ad h) (Rg ad) (some (.int rz))) args s 0 0 (Rg ad)) (F0 m 0 ls []) := by
  unfold fX5_isRefuted_0 at hf
  refine lv_aload_n b.1 b.2.1 dX5_isRefuted_0 rfl (lv_at hl 0 rfl) ?_
  obtain ⟨t9, hf⟩ := oC_s hf
  have t9 := of_decide_eq_true t9
  refine gX5_25 (x := (some x0)) b hE rfl t9 dX5_isRefuted_1 ?_
  refine lv_iload_n b.1 b.2.1 dX5_isRefuted_4 rfl (lv_at hl 1 rfl) ?_
  obtain ⟨a10, ea10, hf⟩ := oN_s hf
  obtain ⟨t11, hf⟩ := oC_s hf
  have t11 := of_decide_eq_true t11
  obtain ⟨g12, hf⟩ := oC_s hf
  refine q_iald (x := (hR h 649 x0)) b hE ea10 t11 g12 dX5_isRefuted_5 ?_
  refine lv_aload_n b.1 b.2.1 dX5_isRefuted_6 rfl (lv_at hl 0 rfl) ?_
  refine gX5_87 (x := (some x0)) b hE rfl t9 dX5_isRefuted_7 ?_
  refine lv_iand b.1 b.2.1 dX5_isRefuted_10 ?_
  refine lv_if_ne (tgt := 16) b.1 b.2.1 dX5_isRefuted_11 (by decide) (fun c13 => ?_) (fun c13 => ?_)
  · have hf := oI_f c13 hf
    refine lv_aload_n b.1 b.2.1 dX5_isRefuted_16 rfl (lv_at hl 0 rfl) ?_
    refine gX5_22 (x := (some x0)) b hE rfl t9 dX5_isRefuted_17 ?_
    refine lv_iload_n b.1 b.2.1 dX5_isRefuted_20 rfl (lv_at hl 1 rfl) ?_
    refine lv_iconst (v := 1) b.1 b.2.1 dX5_isRefuted_21 (by decide) ?_
    refine lv_ixor b.1 b.2.1 dX5_isRefuted_22 ?_
    obtain ⟨a14, ea14, hf⟩ := oN_s hf
    obtain ⟨t15, hf⟩ := oC_s hf
    have t15 := of_decide_eq_true t15
    obtain ⟨g16, hf⟩ := oC_s hf
    refine q_iald (x := (hR h 648 x0)) b hE ea14 t15 g16 dX5_isRefuted_23 ?_
    obtain ⟨y17, ey17, hf⟩ := oL_s hf
    refine k_nmI ey17 ?_
    refine lv_istore_n (lv' := [(2, .int y17), (0, .ref (ad x0)), (1, .int x1)]) b.1 b.2.1 dX5_isRefuted_24 rfl hl (by decide) rfl (fun ls hl => ?_)
    refine lv_iconst (v := 0) b.1 b.2.1 dX5_isRefuted_25 (by decide) ?_
    refine lv_istore_n (lv' := [(3, .int 0), (2, .int y17), (0, .ref (ad x0)), (1, .int x1)]) b.1 b.2.1 dX5_isRefuted_26 rfl hl (by decide) rfl (fun ls hl => ?_)
    exact wfX5_isRefuted_27 b hlk hr zs zk  FU h x0 x1 y17 0 _ _ _ hf hE (lv_sub hl [2, 3, 1, 0] rfl)
  · have hf := oI_t c13 hf
    refine lv_iconst (v := 1) b.1 b.2.1 dX5_isRefuted_14 (by decide) ?_
    cases hf
    exact k_zret b hlk hr (by decide) hE (Nat.le_refl _) (Nat.le_refl _) dX5_isRefuted_15
def fX5_isRefuted (h : PH) (x0 : Nat) (x1 : Int32) : Option (Int32) := fX5_isRefuted_0 h x0 x1
set_option maxHeartbeats 4000000 in
theorem CX5_isRefuted (l : Launch) (D : va_G) (aC : Nat → ClassId) (ad : Nat → Nat) {Z : State → Prop} (zk : ZOK Z (Rg ad)) {h : PH} {x0 : Nat} {x1 : Int32} {rz : Int32} (hf : fX5_isRefuted h x0 x1 = some rz) : CM l D aC Z yX5_isRefuted cX5_isRefuted 4 (some .boolean) 1 22 0 0 (EX D aC ad h) [.ref (ad x0), .int x1] (EX D aC ad h) (some (.int rz)) (Rg ad) := by
  refine CM.of rfl ?_
  intro p e s m below meth c b hr hlk hin2 zs hE
  refine k_ent (Nat.le_of_ble_eq_true rfl) (fun ls hl => ?_)
  exact wfX5_isRefuted_0 b hlk hr zs zk hf hE (lv_sub hl [0, 1] rfl)
theorem dX5_markOf_0 : decode cX5_markOf 0 = .ok (.aload_n 0, 1) := by decide +kernel
theorem dX5_markOf_1 : decode cX5_markOf 1 = .ok (.iload_n 1, 1) := by decide +kernel
theorem dX5_markOf_2 : decode cX5_markOf 2 = .ok (.invokevirtual 277, 3) := by decide +kernel
theorem dX5_markOf_5 : decode cX5_markOf 5 = .ok (.ifCond .eq 5, 3) := by decide +kernel
theorem dX5_markOf_8 : decode cX5_markOf 8 = .ok (.iconst 1, 1) := by decide +kernel
theorem dX5_markOf_9 : decode cX5_markOf 9 = .ok (.ireturn, 1) := by decide +kernel
theorem dX5_markOf_10 : decode cX5_markOf 10 = .ok (.aload_n 0, 1) := by decide +kernel
theorem dX5_markOf_11 : decode cX5_markOf 11 = .ok (.iload_n 1, 1) := by decide +kernel
theorem dX5_markOf_12 : decode cX5_markOf 12 = .ok (.invokevirtual 280, 3) := by decide +kernel
theorem dX5_markOf_15 : decode cX5_markOf 15 = .ok (.ifCond .eq 7, 3) := by decide +kernel
theorem dX5_markOf_18 : decode cX5_markOf 18 = .ok (.iconst 0, 1) := by decide +kernel
theorem dX5_markOf_19 : decode cX5_markOf 19 = .ok (.goto 4, 3) := by decide +kernel
theorem dX5_markOf_22 : decode cX5_markOf 22 = .ok (.iconst 2, 1) := by decide +kernel
theorem dX5_markOf_23 : decode cX5_markOf 23 = .ok (.ireturn, 1) := by decide +kernel
def fX5_markOf_0  (h : PH) (x0 : Nat) (x1 : Int32) : Option (Int32) :=
  oC (decide (hT h x0 = 6)) (oB (fX5_isProved h x0 x1) (fun r3 => if r3 = 0 then (oB (fX5_isRefuted h x0 x1) (fun r6 => if r6 = 0 then (some (2)) else (some (0)))) else (some (1))))
set_option maxHeartbeats 4000000 in
theorem wfX5_markOf_0 {args : Array Value} (b : Bd p s m c cX5_markOf 2 RX5 D aC) (hlk : meth.locks = false) (hr : meth.sig.returnType = some .int) {Z : State → Prop} (zs : Z s) (zk : ZOK Z (Rg ad)) {rz : Int32} {h : PH} {x0 : Nat} {x1 : Int32}  {H : Heap} {locs : List Loc} {ls : Array Slot} (hf : fX5_markOf_0 h x0 x1 = some rz) (hE : CE (EX D aC ad h) (Rg ad) s H locs) (hl : lv_has ls 2 [(0, .ref (ad x0)), (1, .int x1)]) : W p l e (RM 2 45 0 0) s m args below meth c H locs 0 0 (MQ below (PQ (EX D aC ad h) (Rg ad) (some (.int rz))) args s 0 0 (Rg ad)) (F0 m 0 ls []) := by
  unfold fX5_markOf_0 at hf
  refine lv_aload_n b.1 b.2.1 dX5_markOf_0 rfl (lv_at hl 0 rfl) ?_
  refine lv_iload_n b.1 b.2.1 dX5_markOf_1 rfl (lv_at hl 1 rfl) ?_
  obtain ⟨t1, hf⟩ := oC_s hf
  have t1 := of_decide_eq_true t1
  obtain ⟨r3, hc2, hf⟩ := oB_s hf
  refine k_callV0 (C := RX5) b zs zk hE (CX5_isProved l D aC ad zk hc2) mc_X5_isProved (in5 47 rfl rfl) mi_X5_isProved ms_X5_isProved ini_RX5 ok_X5_isProved (x_recv b hE (ci := 5) rfl (by decide) t1) ⟨Nat.le_of_ble_eq_true rfl, Nat.le_of_ble_eq_true rfl⟩ rfl hl.1 rfl (k_room _ (by exact Nat.le_of_ble_eq_true rfl)) ⟨Nat.le_refl _, Nat.le_refl _⟩ dX5_markOf_2 (fun H locs hE => ?_)
  refine lv_if_eq (tgt := 10) b.1 b.2.1 dX5_markOf_5 (by decide) (fun c4 => ?_) (fun c4 => ?_)
  · have hf := oI_t c4 hf
    refine lv_aload_n b.1 b.2.1 dX5_markOf_10 rfl (lv_at hl 0 rfl) ?_
    refine lv_iload_n b.1 b.2.1 dX5_markOf_11 rfl (lv_at hl 1 rfl) ?_
    obtain ⟨r6, hc5, hf⟩ := oB_s hf
    refine k_callV0 (C := RX5) b zs zk hE (CX5_isRefuted l D aC ad zk hc5) mc_X5_isRefuted (in5 51 rfl rfl) mi_X5_isRefuted ms_X5_isRefuted ini_RX5 ok_X5_isRefuted (x_recv b hE (ci := 5) rfl (by decide) t1) ⟨Nat.le_of_ble_eq_true rfl, Nat.le_of_ble_eq_true rfl⟩ rfl hl.1 rfl (k_room _ (by exact Nat.le_of_ble_eq_true rfl)) ⟨Nat.le_refl _, Nat.le_refl _⟩ dX5_markOf_12 (fun H locs hE => ?_)
    refine lv_if_eq (tgt := 22) b.1 b.2.1 dX5_markOf_15 (by decide) (fun c7 => ?_) (fun c7 => ?_)
    · have hf := oI_t c7 hf
      refine lv_iconst (v := 2) b.1 b.2.1 dX5_markOf_22 (by decide) ?_
      cases hf
      exact k_iret b hlk hr hE (Nat.le_refl _) (Nat.le_refl _) dX5_markOf_23
    · have hf := oI_f c7 hf
      refine lv_iconst (v := 0) b.1 b.2.1 dX5_markOf_18 (by decide) ?_
      refine lv_goto (tgt := 23) b.1 b.2.1 dX5_markOf_19 (by decide) ?_
      cases hf
      exact k_iret b hlk hr hE (Nat.le_refl _) (Nat.le_refl _) dX5_markOf_23
  · have hf := oI_f c4 hf
    refine lv_iconst (v := 1) b.1 b.2.1 dX5_markOf_8 (by decide) ?_
    cases hf
    exact k_iret b hlk hr hE (Nat.le_refl _) (Nat.le_refl _) dX5_markOf_9
def fX5_markOf (h : PH) (x0 : Nat) (x1 : Int32) : Option (Int32) := fX5_markOf_0 h x0 x1
set_option maxHeartbeats 4000000 in
theorem CX5_markOf (l : Launch) (D : va_G) (aC : Nat → ClassId) (ad : Nat → Nat) {Z : State → Prop} (zk : ZOK Z (Rg ad)) {h : PH} {x0 : Nat} {x1 : Int32} {rz : Int32} (hf : fX5_markOf h x0 x1 = some rz) : CM l D aC Z yX5_markOf cX5_markOf 2 (some .int) 2 45 0 0 (EX D aC ad h) [.ref (ad x0), .int x1] (EX D aC ad h) (some (.int rz)) (Rg ad) := by
  refine CM.of rfl ?_
  intro p e s m below meth c b hr hlk hin2 zs hE
  refine k_ent (Nat.le_of_ble_eq_true rfl) (fun ls hl => ?_)
  exact wfX5_markOf_0 b hlk hr zs zk hf hE (lv_sub hl [0, 1] rfl)
theorem dX5_settleLiterals_0 : decode cX5_settleLiterals 0 = .ok (.iconst 0, 1) := by decide +kernel
theorem dX5_settleLiterals_1 : decode cX5_settleLiterals 1 = .ok (.istore_n 1, 1) := by decide +kernel
theorem dX5_settleLiterals_2 : decode cX5_settleLiterals 2 = .ok (.iconst 0, 1) := by decide +kernel
theorem dX5_settleLiterals_3 : decode cX5_settleLiterals 3 = .ok (.istore_n 2, 1) := by decide +kernel
theorem dX5_settleLiterals_4 : decode cX5_settleLiterals 4 = .ok (.iload_n 2, 1) := by decide +kernel
theorem dX5_settleLiterals_5 : decode cX5_settleLiterals 5 = .ok (.sipush 600, 3) := by decide +kernel
theorem dX5_settleLiterals_8 : decode cX5_settleLiterals 8 = .ok (.if_icmp .ge 51, 3) := by decide +kernel
theorem dX5_settleLiterals_11 : decode cX5_settleLiterals 11 = .ok (.aload_n 0, 1) := by decide +kernel
theorem dX5_settleLiterals_12 : decode cX5_settleLiterals 12 = .ok (.getfield 15, 3) := by decide +kernel
theorem dX5_settleLiterals_15 : decode cX5_settleLiterals 15 = .ok (.iload_n 2, 1) := by decide +kernel
theorem dX5_settleLiterals_16 : decode cX5_settleLiterals 16 = .ok (.baload, 1) := by decide +kernel
theorem dX5_settleLiterals_17 : decode cX5_settleLiterals 17 = .ok (.iconst 2, 1) := by decide +kernel
theorem dX5_settleLiterals_18 : decode cX5_settleLiterals 18 = .ok (.if_icmp .ne 35, 3) := by decide +kernel
theorem dX5_settleLiterals_21 : decode cX5_settleLiterals 21 = .ok (.aload_n 0, 1) := by decide +kernel
theorem dX5_settleLiterals_22 : decode cX5_settleLiterals 22 = .ok (.getfield 15, 3) := by decide +kernel
theorem dX5_settleLiterals_25 : decode cX5_settleLiterals 25 = .ok (.iload_n 2, 1) := by decide +kernel
theorem dX5_settleLiterals_26 : decode cX5_settleLiterals 26 = .ok (.aload_n 0, 1) := by decide +kernel
theorem dX5_settleLiterals_27 : decode cX5_settleLiterals 27 = .ok (.iload_n 2, 1) := by decide +kernel
theorem dX5_settleLiterals_28 : decode cX5_settleLiterals 28 = .ok (.invokevirtual 152, 3) := by decide +kernel
theorem dX5_settleLiterals_31 : decode cX5_settleLiterals 31 = .ok (.i2b, 1) := by decide +kernel
theorem dX5_settleLiterals_32 : decode cX5_settleLiterals 32 = .ok (.bastore, 1) := by decide +kernel
theorem dX5_settleLiterals_33 : decode cX5_settleLiterals 33 = .ok (.iload_n 1, 1) := by decide +kernel
theorem dX5_settleLiterals_34 : decode cX5_settleLiterals 34 = .ok (.ifCond .ne 13, 3) := by decide +kernel
theorem dX5_settleLiterals_37 : decode cX5_settleLiterals 37 = .ok (.aload_n 0, 1) := by decide +kernel
theorem dX5_settleLiterals_38 : decode cX5_settleLiterals 38 = .ok (.getfield 15, 3) := by decide +kernel
theorem dX5_settleLiterals_41 : decode cX5_settleLiterals 41 = .ok (.iload_n 2, 1) := by decide +kernel
theorem dX5_settleLiterals_42 : decode cX5_settleLiterals 42 = .ok (.baload, 1) := by decide +kernel
theorem dX5_settleLiterals_43 : decode cX5_settleLiterals 43 = .ok (.iconst 2, 1) := by decide +kernel
theorem dX5_settleLiterals_44 : decode cX5_settleLiterals 44 = .ok (.if_icmp .eq 7, 3) := by decide +kernel
theorem dX5_settleLiterals_47 : decode cX5_settleLiterals 47 = .ok (.iconst 1, 1) := by decide +kernel
theorem dX5_settleLiterals_48 : decode cX5_settleLiterals 48 = .ok (.goto 4, 3) := by decide +kernel
theorem dX5_settleLiterals_51 : decode cX5_settleLiterals 51 = .ok (.iconst 0, 1) := by decide +kernel
theorem dX5_settleLiterals_52 : decode cX5_settleLiterals 52 = .ok (.istore_n 1, 1) := by decide +kernel
theorem dX5_settleLiterals_53 : decode cX5_settleLiterals 53 = .ok (.iinc 2 1, 3) := by decide +kernel
theorem dX5_settleLiterals_56 : decode cX5_settleLiterals 56 = .ok (.goto (-52), 3) := by decide +kernel
theorem dX5_settleLiterals_59 : decode cX5_settleLiterals 59 = .ok (.iload_n 1, 1) := by decide +kernel
theorem dX5_settleLiterals_60 : decode cX5_settleLiterals 60 = .ok (.ireturn, 1) := by decide +kernel
def fX5_settleLiterals_53 (k4 : PH → Nat → Int32 → Int32 → Option (PH × Int32)) (h : PH) (x0 : Nat) (x1 : Int32) (x2 : Int32) : Option (PH × Int32) :=
  oL (x2 + 1) (fun y1 => k4 h x0 x1 y1)
set_option maxHeartbeats 4000000 in
theorem wfX5_settleLiterals_53 {args : Array Value} (b : Bd p s m c cX5_settleLiterals 3 RX5 D aC) (hlk : meth.locks = false) (hr : meth.sig.returnType = some .boolean) {Z : State → Prop} (zs : Z s) (zk : ZOK Z (Rg ad)) {hz : PH} {rz : Int32} {k4 : PH → Nat → Int32 → Int32 → Option (PH × Int32)} (H4 : ∀ (h : PH) (x0 : Nat) (x1 : Int32) (x2 : Int32), ∀ (H : Heap) (locs : List Loc) (ls : Array Slot), k4 h x0 x1 x2 = some (hz, rz) → CE (EX D aC ad h) (Rg ad) s H locs → lv_has ls 3 [(0, .ref (ad x0)), (1, .int x1), (2, .int x2)] → W p l e (RM 3 66 0 0) s m args below meth c H locs 0 0 (MQ below (PQ (EX D aC ad hz) (Rg ad) (some (.int rz))) args s 0 0 (Rg ad)) (F0 m 4 ls [])) {h : PH} {x0 : Nat} {x1 : Int32} {x2 : Int32}  {H : Heap} {locs : List Loc} {ls : Array Slot} (hf : fX5_settleLiterals_53 k4 h x0 x1 x2 = some (hz, rz)) (hE : CE (EX D aC ad h) (Rg ad) s H locs) (hl : lv_has ls 3 [(0, .ref (ad x0)), (1, .int x1), (2, .int x2)]) : W p l e (RM 3 66 0 0) s m args below meth c H locs 0 0 (MQ below (PQ (EX D aC ad hz) (Rg ad) (some (.int rz))) args s 0 0 (Rg ad)) (F0 m 53 ls []) := by
  unfold fX5_settleLiterals_53 at hf
  obtain ⟨y1, ey1, hf⟩ := oL_s hf
  refine lv_iinc (v := y1) (lv' := [(2, .int y1), (0, .ref (ad x0)), (1, .int x1)]) b.1 b.2.1 dX5_settleLiterals_53 hl (k := 2) rfl (by rw [ey1]; rfl) (by decide) rfl (fun ls hl => ?_)
  refine lv_goto (tgt := 4) b.1 b.2.1 dX5_settleLiterals_56 (by decide) ?_
  exact H4 h x0 x1 y1 _ _ _ hf hE (lv_sub hl [1, 2, 0] rfl)
def fX5_settleLiterals_52 (k4 : PH → Nat → Int32 → Int32 → Option (PH × Int32)) (h : PH) (x0 : Nat) (x2 : Int32) (s0 : Int32) : Option (PH × Int32) :=
  fX5_settleLiterals_53 k4 h x0 s0 x2
set_option maxHeartbeats 4000000 in
theorem wfX5_settleLiterals_52 {args : Array Value} (b : Bd p s m c cX5_settleLiterals 3 RX5 D aC) (hlk : meth.locks = false) (hr : meth.sig.returnType = some .boolean) {Z : State → Prop} (zs : Z s) (zk : ZOK Z (Rg ad)) {hz : PH} {rz : Int32} {k4 : PH → Nat → Int32 → Int32 → Option (PH × Int32)} (H4 : ∀ (h : PH) (x0 : Nat) (x1 : Int32) (x2 : Int32), ∀ (H : Heap) (locs : List Loc) (ls : Array Slot), k4 h x0 x1 x2 = some (hz, rz) → CE (EX D aC ad h) (Rg ad) s H locs → lv_has ls 3 [(0, .ref (ad x0)), (1, .int x1), (2, .int x2)] → W p l e (RM 3 66 0 0) s m args below meth c H locs 0 0 (MQ below (PQ (EX D aC ad hz) (Rg ad) (some (.int rz))) args s 0 0 (Rg ad)) (F0 m 4 ls [])) {h : PH} {x0 : Nat} {x2 : Int32} {s0 : Int32}  {H : Heap} {locs : List Loc} {ls : Array Slot} (hf : fX5_settleLiterals_52 k4 h x0 x2 s0 = some (hz, rz)) (hE : CE (EX D aC ad h) (Rg ad) s H locs) (hl : lv_has ls 3 [(0, .ref (ad x0)), (2, .int x2)]) : W p l e (RM 3 66 0 0) s m args below meth c H locs 0 0 (MQ below (PQ (EX D aC ad hz) (Rg ad) (some (.int rz))) args s 0 0 (Rg ad)) (F0 m 52 ls [.int s0]) := by
  unfold fX5_settleLiterals_52 at hf
  refine lv_istore_n (lv' := [(1, .int s0), (0, .ref (ad x0)), (2, .int x2)]) b.1 b.2.1 dX5_settleLiterals_52 rfl hl (by decide) rfl (fun ls hl => ?_)
  exact wfX5_settleLiterals_53 b hlk hr zs zk H4 hf hE (lv_sub hl [1, 0, 2] rfl)
def fX5_settleLiterals_4F (k4 : PH → Nat → Int32 → Int32 → Option (PH × Int32)) (h : PH) (x0 : Nat) (x1 : Int32) (x2 : Int32) : Option (PH × Int32) :=
  if 600 ≤ x2 then (oC (isB x1) (some (h, x1))) else (oC (decide (hT h x0 = 6)) (oN (hR h 646 x0) (fun a5 => oC (decide (hT h a5 = 100)) (oC (ix x2 (hN h a5)) (if (hA h a5 (Int32.toNatClampNeg x2)) = 2 then (oB (fX5_markOf h x0 x2) (fun r10 => oC (ix x2 (hN h a5)) (oL (sA h a5 (Int32.toNatClampNeg x2) (Int8.toInt32 (Int32.toInt8 (Int8.toInt32 (Int32.toInt8 r10))))) (fun h12 => if x1 = 0 then (oN (hR h12 646 x0) (fun a15 => oC (decide (hT h12 a15 = 100)) (oC (ix x2 (hN h12 a15)) (if (hA h12 a15 (Int32.toNatClampNeg x2)) = 2 then (fX5_settleLiterals_52 k4 h12 x0 x2 0) else (fX5_settleLiterals_52 k4 h12 x0 x2 1))))) else (fX5_settleLiterals_52 k4 h12 x0 x2 1))))) else (fX5_settleLiterals_53 k4 h x0 x1 x2))))))
set_option maxHeartbeats 4000000 in
theorem wfX5_settleLiterals_4F {args : Array Value} (b : Bd p s m c cX5_settleLiterals 3 RX5 D aC) (hlk : meth.locks = false) (hr : meth.sig.returnType = some .boolean) {Z : State → Prop} (zs : Z s) (zk : ZOK Z (Rg ad)) {hz : PH} {rz : Int32} {k4 : PH → Nat → Int32 → Int32 → Option (PH × Int32)} (H4 : ∀ (h : PH) (x0 : Nat) (x1 : Int32) (x2 : Int32), ∀ (H : Heap) (locs : List Loc) (ls : Array Slot), k4 h x0 x1 x2 = some (hz, rz) → CE (EX D aC ad h) (Rg ad) s H locs → lv_has ls 3 [(0, .ref (ad x0)), (1, .int x1), (2, .int x2)] → W p l e (RM 3 66 0 0) s m args below meth c H locs 0 0 (MQ below (PQ (EX D aC ad hz) (Rg ad) (some (.int rz))) args s 0 0 (Rg ad)) (F0 m 4 ls [])) {h : PH} {x0 : Nat} {x1 : Int32} {x2 : Int32}  {H : Heap} {locs : List Loc} {ls : Array Slot} (hf : fX5_settleLiterals_4F k4 h x0 x1 x2 = some (hz, rz)) (hE : CE (EX D aC ad h) (Rg ad) s H locs) (hl : lv_has ls 3 [(0, .ref (ad x0)), (1, .int x1), (2, .int x2)]) : W p l e (RM 3 66 0 0) s m args below meth c H locs 0 0 (MQ below (PQ (EX D aC ad hz) (Rg ad) (some (.int rz))) args s 0 0 (Rg ad)) (F0 m 4 ls []) := by
  unfold fX5_settleLiterals_4F at hf
  refine lv_iload_n b.1 b.2.1 dX5_settleLiterals_4 rfl (lv_at hl 2 rfl) ?_
  refine lv_sipush (v := 600) b.1 b.2.1 dX5_settleLiterals_5 (by decide) ?_
  refine lv_icmp_ge (tgt := 59) b.1 b.2.1 dX5_settleLiterals_8 (by decide) (fun c2 => ?_) (fun c2 => ?_)
  · have hf := oI_t c2 hf
    refine lv_iload_n b.1 b.2.1 dX5_settleLiterals_59 rfl (lv_at hl 1 rfl) ?_
    obtain ⟨g3, hf⟩ := oC_s hf
    cases hf
    exact k_zret b hlk hr g3 hE (Nat.le_refl _) (Nat.le_refl _) dX5_settleLiterals_60
  · have hf := oI_f c2 hf
    refine lv_aload_n b.1 b.2.1 dX5_settleLiterals_11 rfl (lv_at hl 0 rfl) ?_
    obtain ⟨t4, hf⟩ := oC_s hf
    have t4 := of_decide_eq_true t4
    refine gX5_15 (x := (some x0)) b hE rfl t4 dX5_settleLiterals_12 ?_
    refine lv_iload_n b.1 b.2.1 dX5_settleLiterals_15 rfl (lv_at hl 2 rfl) ?_
    obtain ⟨a5, ea5, hf⟩ := oN_s hf
    obtain ⟨t6, hf⟩ := oC_s hf
    have t6 := of_decide_eq_true t6
    obtain ⟨g7, hf⟩ := oC_s hf
    refine q_bald (x := (hR h 646 x0)) b hE ea5 t6 g7 dX5_settleLiterals_16 ?_
    refine lv_iconst (v := 2) b.1 b.2.1 dX5_settleLiterals_17 (by decide) ?_
    refine lv_icmp_ne (tgt := 53) b.1 b.2.1 dX5_settleLiterals_18 (by decide) (fun c8 => ?_) (fun c8 => ?_)
    · have hf := oI_f c8 hf
      exact wfX5_settleLiterals_53 b hlk hr zs zk H4 hf hE (lv_sub hl [0, 1, 2] rfl)
    · have hf := oI_t c8 hf
      refine lv_aload_n b.1 b.2.1 dX5_settleLiterals_21 rfl (lv_at hl 0 rfl) ?_
      refine gX5_15 (x := (some x0)) b hE rfl t4 dX5_settleLiterals_22 ?_
      refine lv_iload_n b.1 b.2.1 dX5_settleLiterals_25 rfl (lv_at hl 2 rfl) ?_
      refine lv_aload_n b.1 b.2.1 dX5_settleLiterals_26 rfl (lv_at hl 0 rfl) ?_
      refine lv_iload_n b.1 b.2.1 dX5_settleLiterals_27 rfl (lv_at hl 2 rfl) ?_
      obtain ⟨r10, hc9, hf⟩ := oB_s hf
      refine k_callV0 (C := RX5) b zs zk hE (CX5_markOf l D aC ad zk hc9) mc_X5_markOf (in5 43 rfl rfl) mi_X5_markOf ms_X5_markOf ini_RX5 ok_X5_markOf (x_recv b hE (ci := 5) rfl (by decide) t4) ⟨Nat.le_of_ble_eq_true rfl, Nat.le_of_ble_eq_true rfl⟩ rfl hl.1 rfl (k_room _ (by exact Nat.le_of_ble_eq_true rfl)) ⟨Nat.le_refl _, Nat.le_refl _⟩ dX5_settleLiterals_28 (fun H locs hE => ?_)
      refine lv_i2b b.1 b.2.1 dX5_settleLiterals_31 rfl ?_
      obtain ⟨g11, hf⟩ := oC_s hf
      obtain ⟨h12, eh12, hf⟩ := oL_s hf
      refine q_bast (x := (hR h 646 x0)) b hE ea5 t6 g11 eh12 dX5_settleLiterals_32 (fun H locs hE => ?_)
      refine lv_iload_n b.1 b.2.1 dX5_settleLiterals_33 rfl (lv_at hl 1 rfl) ?_
      refine lv_if_ne (tgt := 47) b.1 b.2.1 dX5_settleLiterals_34 (by decide) (fun c13 => ?_) (fun c13 => ?_)
      · have hf := oI_f c13 hf
        refine lv_iconst (v := 1) b.1 b.2.1 dX5_settleLiterals_47 (by decide) ?_
        refine lv_goto (tgt := 52) b.1 b.2.1 dX5_settleLiterals_48 (by decide) ?_
        exact wfX5_settleLiterals_52 b hlk hr zs zk H4 hf hE (lv_sub hl [0, 2] rfl)
      · have hf := oI_t c13 hf
        refine lv_aload_n b.1 b.2.1 dX5_settleLiterals_37 rfl (lv_at hl 0 rfl) ?_
        have t14 := tg_sA eh12 t4
        refine gX5_15 (x := (some x0)) b hE rfl t14 dX5_settleLiterals_38 ?_
        refine lv_iload_n b.1 b.2.1 dX5_settleLiterals_41 rfl (lv_at hl 2 rfl) ?_
        obtain ⟨a15, ea15, hf⟩ := oN_s hf
        obtain ⟨t16, hf⟩ := oC_s hf
        have t16 := of_decide_eq_true t16
        obtain ⟨g17, hf⟩ := oC_s hf
        refine q_bald (x := (hR h12 646 x0)) b hE ea15 t16 g17 dX5_settleLiterals_42 ?_
        refine lv_iconst (v := 2) b.1 b.2.1 dX5_settleLiterals_43 (by decide) ?_
        refine lv_icmp_eq (tgt := 51) b.1 b.2.1 dX5_settleLiterals_44 (by decide) (fun c18 => ?_) (fun c18 => ?_)
        · have hf := oI_t c18 hf
          refine lv_iconst (v := 0) b.1 b.2.1 dX5_settleLiterals_51 (by decide) ?_
          exact wfX5_settleLiterals_52 b hlk hr zs zk H4 hf hE (lv_sub hl [0, 2] rfl)
        · have hf := oI_f c18 hf
          refine lv_iconst (v := 1) b.1 b.2.1 dX5_settleLiterals_47 (by decide) ?_
          refine lv_goto (tgt := 52) b.1 b.2.1 dX5_settleLiterals_48 (by decide) ?_
          exact wfX5_settleLiterals_52 b hlk hr zs zk H4 hf hE (lv_sub hl [0, 2] rfl)
def fX5_settleLiterals_4  : Nat → PH → Nat → Int32 → Int32 → Option (PH × Int32)
  | 0 => fun _ _ _ _ => none
  | n + 1 => fX5_settleLiterals_4F  (fX5_settleLiterals_4  n)
set_option maxHeartbeats 4000000 in
theorem wfX5_settleLiterals_4 {args : Array Value} (b : Bd p s m c cX5_settleLiterals 3 RX5 D aC) (hlk : meth.locks = false) (hr : meth.sig.returnType = some .boolean) {Z : State → Prop} (zs : Z s) (zk : ZOK Z (Rg ad)) {hz : PH} {rz : Int32} : ∀ n : Nat, ∀ (h : PH) (x0 : Nat) (x1 : Int32) (x2 : Int32), ∀ (H : Heap) (locs : List Loc) (ls : Array Slot), fX5_settleLiterals_4  n h x0 x1 x2 = some (hz, rz) → CE (EX D aC ad h) (Rg ad) s H locs → lv_has ls 3 [(0, .ref (ad x0)), (1, .int x1), (2, .int x2)] → W p l e (RM 3 66 0 0) s m args below meth c H locs 0 0 (MQ below (PQ (EX D aC ad hz) (Rg ad) (some (.int rz))) args s 0 0 (Rg ad)) (F0 m 4 ls []) := by
  intro n
  induction n with
  | zero =>
    intro h x0 x1 x2 H locs ls hf
    have hf : (none : Option (PH × Int32)) = some _ := hf
    cases hf
  | succ n ih =>
    intro h x0 x1 x2 H locs ls hf hE hl
    exact wfX5_settleLiterals_4F b hlk hr zs zk  ih hf hE hl
def fX5_settleLiterals_0  (h : PH) (x0 : Nat) : Option (PH × Int32) :=
  fX5_settleLiterals_4  FU h x0 0 0
set_option maxHeartbeats 4000000 in
theorem wfX5_settleLiterals_0 {args : Array Value} (b : Bd p s m c cX5_settleLiterals 3 RX5 D aC) (hlk : meth.locks = false) (hr : meth.sig.returnType = some .boolean) {Z : State → Prop} (zs : Z s) (zk : ZOK Z (Rg ad)) {hz : PH} {rz : Int32} {h : PH} {x0 : Nat}  {H : Heap} {locs : List Loc} {ls : Array Slot} (hf : fX5_settleLiterals_0 h x0 = some (hz, rz)) (hE : CE (EX D aC ad h) (Rg ad) s H locs) (hl : lv_has ls 3 [(0, .ref (ad x0))]) : W p l e (RM 3 66 0 0) s m args below meth c H locs 0 0 (MQ below (PQ (EX D aC ad hz) (Rg ad) (some (.int rz))) args s 0 0 (Rg ad)) (F0 m 0 ls []) := by
  unfold fX5_settleLiterals_0 at hf
  refine lv_iconst (v := 0) b.1 b.2.1 dX5_settleLiterals_0 (by decide) ?_
  refine lv_istore_n (lv' := [(1, .int 0), (0, .ref (ad x0))]) b.1 b.2.1 dX5_settleLiterals_1 rfl hl (by decide) rfl (fun ls hl => ?_)
  refine lv_iconst (v := 0) b.1 b.2.1 dX5_settleLiterals_2 (by decide) ?_
  refine lv_istore_n (lv' := [(2, .int 0), (1, .int 0), (0, .ref (ad x0))]) b.1 b.2.1 dX5_settleLiterals_3 rfl hl (by decide) rfl (fun ls hl => ?_)
  exact wfX5_settleLiterals_4 b hlk hr zs zk  FU h x0 0 0 _ _ _ hf hE (lv_sub hl [2, 1, 0] rfl)
def fX5_settleLiterals (h : PH) (x0 : Nat) : Option (PH × Int32) := fX5_settleLiterals_0 h x0
set_option maxHeartbeats 4000000 in
theorem CX5_settleLiterals (l : Launch) (D : va_G) (aC : Nat → ClassId) (ad : Nat → Nat) {Z : State → Prop} (zk : ZOK Z (Rg ad)) {h : PH} {x0 : Nat} {hz : PH} {rz : Int32} (hf : fX5_settleLiterals h x0 = some (hz, rz)) : CM l D aC Z yX5_settleLiterals cX5_settleLiterals 3 (some .boolean) 3 66 0 0 (EX D aC ad h) [.ref (ad x0)] (EX D aC ad hz) (some (.int rz)) (Rg ad) := by
  refine CM.of rfl ?_
  intro p e s m below meth c b hr hlk hin2 zs hE
  refine k_ent (Nat.le_of_ble_eq_true rfl) (fun ls hl => ?_)
  exact wfX5_settleLiterals_0 b hlk hr zs zk hf hE (lv_sub hl [0] rfl)
end
