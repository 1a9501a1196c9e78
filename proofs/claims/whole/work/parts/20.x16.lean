section
variable {p : Program} {l : Launch} {e : Env} {s : State} {m : MethodId} {below : List Frame} {meth : Method} {c : Code} {D : va_G} {aC : Nat → ClassId} {ad : Nat → Nat}
theorem dX5_reckon_0 : decode cX5_reckon 0 = .ok (.aload_n 0, 1) := by decide +kernel
theorem dX5_reckon_1 : decode cX5_reckon 1 = .ok (.getfield 59, 3) := by decide +kernel
theorem dX5_reckon_4 : decode cX5_reckon 4 = .ok (.invokevirtual 158, 3) := by decide +kernel
theorem dX5_reckon_7 : decode cX5_reckon 7 = .ok (.aload_n 0, 1) := by decide +kernel
theorem dX5_reckon_8 : decode cX5_reckon 8 = .ok (.getfield 43, 3) := by decide +kernel
theorem dX5_reckon_11 : decode cX5_reckon 11 = .ok (.iload_n 1, 1) := by decide +kernel
theorem dX5_reckon_12 : decode cX5_reckon 12 = .ok (.iconst 0, 1) := by decide +kernel
theorem dX5_reckon_13 : decode cX5_reckon 13 = .ok (.iastore, 1) := by decide +kernel
theorem dX5_reckon_14 : decode cX5_reckon 14 = .ok (.iconst 0, 1) := by decide +kernel
theorem dX5_reckon_15 : decode cX5_reckon 15 = .ok (.istore_n 2, 1) := by decide +kernel
theorem dX5_reckon_16 : decode cX5_reckon 16 = .ok (.iload_n 2, 1) := by decide +kernel
theorem dX5_reckon_17 : decode cX5_reckon 17 = .ok (.aload_n 0, 1) := by decide +kernel
theorem dX5_reckon_18 : decode cX5_reckon 18 = .ok (.getfield 90, 3) := by decide +kernel
theorem dX5_reckon_21 : decode cX5_reckon 21 = .ok (.if_icmp .ge 69, 3) := by decide +kernel
theorem dX5_reckon_24 : decode cX5_reckon 24 = .ok (.aload_n 0, 1) := by decide +kernel
theorem dX5_reckon_25 : decode cX5_reckon 25 = .ok (.getfield 34, 3) := by decide +kernel
theorem dX5_reckon_28 : decode cX5_reckon 28 = .ok (.iload_n 2, 1) := by decide +kernel
theorem dX5_reckon_29 : decode cX5_reckon 29 = .ok (.iaload, 1) := by decide +kernel
theorem dX5_reckon_30 : decode cX5_reckon 30 = .ok (.sipush 600, 3) := by decide +kernel
theorem dX5_reckon_33 : decode cX5_reckon 33 = .ok (.iload_n 1, 1) := by decide +kernel
theorem dX5_reckon_34 : decode cX5_reckon 34 = .ok (.iadd, 1) := by decide +kernel
theorem dX5_reckon_35 : decode cX5_reckon 35 = .ok (.if_icmp .ne 49, 3) := by decide +kernel
theorem dX5_reckon_38 : decode cX5_reckon 38 = .ok (.aload_n 0, 1) := by decide +kernel
theorem dX5_reckon_39 : decode cX5_reckon 39 = .ok (.getfield 37, 3) := by decide +kernel
theorem dX5_reckon_42 : decode cX5_reckon 42 = .ok (.iload_n 2, 1) := by decide +kernel
theorem dX5_reckon_43 : decode cX5_reckon 43 = .ok (.baload, 1) := by decide +kernel
theorem dX5_reckon_44 : decode cX5_reckon 44 = .ok (.iconst 1, 1) := by decide +kernel
theorem dX5_reckon_45 : decode cX5_reckon 45 = .ok (.if_icmp .ne 39, 3) := by decide +kernel
theorem dX5_reckon_48 : decode cX5_reckon 48 = .ok (.aload_n 0, 1) := by decide +kernel
theorem dX5_reckon_49 : decode cX5_reckon 49 = .ok (.aload_n 0, 1) := by decide +kernel
theorem dX5_reckon_50 : decode cX5_reckon 50 = .ok (.getfield 31, 3) := by decide +kernel
theorem dX5_reckon_53 : decode cX5_reckon 53 = .ok (.iload_n 2, 1) := by decide +kernel
theorem dX5_reckon_54 : decode cX5_reckon 54 = .ok (.iaload, 1) := by decide +kernel
theorem dX5_reckon_55 : decode cX5_reckon 55 = .ok (.invokevirtual 161, 3) := by decide +kernel
theorem dX5_reckon_58 : decode cX5_reckon 58 = .ok (.astore_n 3, 1) := by decide +kernel
theorem dX5_reckon_59 : decode cX5_reckon 59 = .ok (.aload_n 3, 1) := by decide +kernel
theorem dX5_reckon_60 : decode cX5_reckon 60 = .ok (.ifnull 24, 3) := by decide +kernel
theorem dX5_reckon_63 : decode cX5_reckon 63 = .ok (.aload_n 0, 1) := by decide +kernel
theorem dX5_reckon_64 : decode cX5_reckon 64 = .ok (.getfield 59, 3) := by decide +kernel
theorem dX5_reckon_67 : decode cX5_reckon 67 = .ok (.aload_n 3, 1) := by decide +kernel
theorem dX5_reckon_68 : decode cX5_reckon 68 = .ok (.getfield 164, 3) := by decide +kernel
theorem dX5_reckon_71 : decode cX5_reckon 71 = .ok (.invokevirtual 168, 3) := by decide +kernel
theorem dX5_reckon_74 : decode cX5_reckon 74 = .ok (.aload_n 0, 1) := by decide +kernel
theorem dX5_reckon_75 : decode cX5_reckon 75 = .ok (.getfield 43, 3) := by decide +kernel
theorem dX5_reckon_78 : decode cX5_reckon 78 = .ok (.iload_n 1, 1) := by decide +kernel
theorem dX5_reckon_79 : decode cX5_reckon 79 = .ok (.dup2, 1) := by decide +kernel
theorem dX5_reckon_80 : decode cX5_reckon 80 = .ok (.iaload, 1) := by decide +kernel
theorem dX5_reckon_81 : decode cX5_reckon 81 = .ok (.iconst 1, 1) := by decide +kernel
theorem dX5_reckon_82 : decode cX5_reckon 82 = .ok (.iadd, 1) := by decide +kernel
theorem dX5_reckon_83 : decode cX5_reckon 83 = .ok (.iastore, 1) := by decide +kernel
theorem dX5_reckon_84 : decode cX5_reckon 84 = .ok (.iinc 2 1, 3) := by decide +kernel
theorem dX5_reckon_87 : decode cX5_reckon 87 = .ok (.goto (-71), 3) := by decide +kernel
theorem dX5_reckon_90 : decode cX5_reckon 90 = .ok (.aload_n 0, 1) := by decide +kernel
theorem dX5_reckon_91 : decode cX5_reckon 91 = .ok (.getfield 59, 3) := by decide +kernel
theorem dX5_reckon_94 : decode cX5_reckon 94 = .ok (.invokevirtual 172, 3) := by decide +kernel
theorem dX5_reckon_97 : decode cX5_reckon 97 = .ok (.astore_n 2, 1) := by decide +kernel
theorem dX5_reckon_98 : decode cX5_reckon 98 = .ok (.aload_n 0, 1) := by decide +kernel
theorem dX5_reckon_99 : decode cX5_reckon 99 = .ok (.getfield 46, 3) := by decide +kernel
theorem dX5_reckon_102 : decode cX5_reckon 102 = .ok (.iload_n 1, 1) := by decide +kernel
theorem dX5_reckon_103 : decode cX5_reckon 103 = .ok (.iconst 2, 1) := by decide +kernel
theorem dX5_reckon_104 : decode cX5_reckon 104 = .ok (.imul, 1) := by decide +kernel
theorem dX5_reckon_105 : decode cX5_reckon 105 = .ok (.aload_n 2, 1) := by decide +kernel
theorem dX5_reckon_106 : decode cX5_reckon 106 = .ok (.getfield 176, 3) := by decide +kernel
theorem dX5_reckon_109 : decode cX5_reckon 109 = .ok (.ifCond .eq 7, 3) := by decide +kernel
theorem dX5_reckon_112 : decode cX5_reckon 112 = .ok (.lconst 0, 1) := by decide +kernel
theorem dX5_reckon_113 : decode cX5_reckon 113 = .ok (.goto 7, 3) := by decide +kernel
theorem dX5_reckon_116 : decode cX5_reckon 116 = .ok (.aload_n 2, 1) := by decide +kernel
theorem dX5_reckon_117 : decode cX5_reckon 117 = .ok (.getfield 182, 3) := by decide +kernel
theorem dX5_reckon_120 : decode cX5_reckon 120 = .ok (.lastore, 1) := by decide +kernel
theorem dX5_reckon_121 : decode cX5_reckon 121 = .ok (.aload_n 0, 1) := by decide +kernel
theorem dX5_reckon_122 : decode cX5_reckon 122 = .ok (.getfield 46, 3) := by decide +kernel
theorem dX5_reckon_125 : decode cX5_reckon 125 = .ok (.iload_n 1, 1) := by decide +kernel
theorem dX5_reckon_126 : decode cX5_reckon 126 = .ok (.iconst 2, 1) := by decide +kernel
theorem dX5_reckon_127 : decode cX5_reckon 127 = .ok (.imul, 1) := by decide +kernel
theorem dX5_reckon_128 : decode cX5_reckon 128 = .ok (.iconst 1, 1) := by decide +kernel
theorem dX5_reckon_129 : decode cX5_reckon 129 = .ok (.iadd, 1) := by decide +kernel
theorem dX5_reckon_130 : decode cX5_reckon 130 = .ok (.aload_n 2, 1) := by decide +kernel
theorem dX5_reckon_131 : decode cX5_reckon 131 = .ok (.getfield 176, 3) := by decide +kernel
theorem dX5_reckon_134 : decode cX5_reckon 134 = .ok (.ifCond .eq 7, 3) := by decide +kernel
theorem dX5_reckon_137 : decode cX5_reckon 137 = .ok (.lconst 0, 1) := by decide +kernel
theorem dX5_reckon_138 : decode cX5_reckon 138 = .ok (.goto 7, 3) := by decide +kernel
theorem dX5_reckon_141 : decode cX5_reckon 141 = .ok (.aload_n 2, 1) := by decide +kernel
theorem dX5_reckon_142 : decode cX5_reckon 142 = .ok (.getfield 186, 3) := by decide +kernel
theorem dX5_reckon_145 : decode cX5_reckon 145 = .ok (.lastore, 1) := by decide +kernel
theorem dX5_reckon_146 : decode cX5_reckon 146 = .ok (.return_, 1) := by decide +kernel
def fX5_reckon_145  (h : PH) (s0 : Int64) (s1 : Int32) (s2 : Option Nat) : Option (PH) :=
  oN s2 (fun a1 => oC (decide (hT h a1 = 102)) (oC (ix s1 (hN h a1)) (oL (sB h a1 (Int32.toNatClampNeg s1) s0) (fun h4 => some (h4)))))
set_option maxHeartbeats 4000000 in
theorem wfX5_reckon_145 {args : Array Value} (b : Bd p s m c cX5_reckon 4 RX5 D aC) (hlk : meth.locks = false) (hr : meth.sig.returnType = none) {Z : State → Prop} (zs : Z s) (zk : ZOK Z (Rg ad)) {hz : PH} {h : PH} {s0 : Int64} {s1 : Int32} {s2 : Option Nat}  {H : Heap} {locs : List Loc} {ls : Array Slot} (hf : fX5_reckon_145 h s0 s1 s2 = some hz) (hE : CE (EX D aC ad h) (Rg ad) s H locs) (hl : lv_has ls 4 []) : W p l e (RM 5 128 0 0) s m args below meth c H locs 0 0 (MQ below (PQ (EX D aC ad hz) (Rg ad) none) args s 0 0 (Rg ad)) (F0 m 145 ls [.long s0, .int s1, va_rf (Option.map ad s2)]) := by
  unfold fX5_reckon_145 at hf
  obtain ⟨a1, ea1, hf⟩ := oN_s hf
  obtain ⟨t2, hf⟩ := oC_s hf
  have t2 := of_decide_eq_true t2
  obtain ⟨g3, hf⟩ := oC_s hf
  obtain ⟨h4, eh4, hf⟩ := oL_s hf
  refine q_last (x := s2) b hE ea1 t2 g3 eh4 dX5_reckon_145 (fun H locs hE => ?_)
  cases hf
  exact k_vret b hlk hr hE (Nat.le_refl _) (Nat.le_refl _) dX5_reckon_146
def fX5_reckon_120  (h : PH) (x0 : Nat) (x1 : Int32) (x2 : Option Nat) (s0 : Int64) (s1 : Int32) (s2 : Option Nat) : Option (PH) :=
  oN s2 (fun a5 => oC (decide (hT h a5 = 102)) (oC (ix s1 (hN h a5)) (oL (sB h a5 (Int32.toNatClampNeg s1) s0) (fun h8 => oC (decide (hT h8 x0 = 6)) (oN x2 (fun a10 => oC (decide (hT h8 a10 = 4)) (if (hI h8 386 a10) = 0 then (fX5_reckon_145  h8 (hL h8 385 a10) ((x1 * 2) + 1) (hR h8 658 x0)) else (fX5_reckon_145  h8 0 ((x1 * 2) + 1) (hR h8 658 x0)))))))))
set_option maxHeartbeats 4000000 in
theorem wfX5_reckon_120 {args : Array Value} (b : Bd p s m c cX5_reckon 4 RX5 D aC) (hlk : meth.locks = false) (hr : meth.sig.returnType = none) {Z : State → Prop} (zs : Z s) (zk : ZOK Z (Rg ad)) {hz : PH} {h : PH} {x0 : Nat} {x1 : Int32} {x2 : Option Nat} {s0 : Int64} {s1 : Int32} {s2 : Option Nat}  {H : Heap} {locs : List Loc} {ls : Array Slot} (hf : fX5_reckon_120 h x0 x1 x2 s0 s1 s2 = some hz) (hE : CE (EX D aC ad h) (Rg ad) s H locs) (hl : lv_has ls 4 [(0, .ref (ad x0)), (1, .int x1), (2, va_rf (Option.map ad x2))]) : W p l e (RM 5 128 0 0) s m args below meth c H locs 0 0 (MQ below (PQ (EX D aC ad hz) (Rg ad) none) args s 0 0 (Rg ad)) (F0 m 120 ls [.long s0, .int s1, va_rf (Option.map ad s2)]) := by
  unfold fX5_reckon_120 at hf
  obtain ⟨a5, ea5, hf⟩ := oN_s hf
  obtain ⟨t6, hf⟩ := oC_s hf
  have t6 := of_decide_eq_true t6
  obtain ⟨g7, hf⟩ := oC_s hf
  obtain ⟨h8, eh8, hf⟩ := oL_s hf
  refine q_last (x := s2) b hE ea5 t6 g7 eh8 dX5_reckon_120 (fun H locs hE => ?_)
  refine lv_aload_n b.1 b.2.1 dX5_reckon_121 rfl (lv_at hl 0 rfl) ?_
  obtain ⟨t9, hf⟩ := oC_s hf
  have t9 := of_decide_eq_true t9
  refine gX5_46 (x := (some x0)) b hE rfl t9 dX5_reckon_122 ?_
  refine lv_iload_n b.1 b.2.1 dX5_reckon_125 rfl (lv_at hl 1 rfl) ?_
  refine lv_iconst (v := 2) b.1 b.2.1 dX5_reckon_126 (by decide) ?_
  refine lv_imul b.1 b.2.1 dX5_reckon_127 ?_
  refine lv_iconst (v := 1) b.1 b.2.1 dX5_reckon_128 (by decide) ?_
  refine lv_iadd b.1 b.2.1 dX5_reckon_129 ?_
  refine k_aload_n (x := Option.map ad x2) b dX5_reckon_130 rfl (lv_at hl 2 rfl) ?_
  obtain ⟨a10, ea10, hf⟩ := oN_s hf
  obtain ⟨t11, hf⟩ := oC_s hf
  have t11 := of_decide_eq_true t11
  refine gX5_176 (x := x2) b hE ea10 t11 dX5_reckon_131 ?_
  refine lv_if_eq (tgt := 141) b.1 b.2.1 dX5_reckon_134 (by decide) (fun c12 => ?_) (fun c12 => ?_)
  · have hf := oI_t c12 hf
    refine k_aload_n (x := Option.map ad x2) b dX5_reckon_141 rfl (lv_at hl 2 rfl) ?_
    refine gX5_186 (x := x2) b hE ea10 t11 dX5_reckon_142 ?_
    exact wfX5_reckon_145 b hlk hr zs zk  hf hE (lv_sub hl [] rfl)
  · have hf := oI_f c12 hf
    refine lv_lconst (v := 0) b.1 b.2.1 dX5_reckon_137 rfl ?_
    refine lv_goto (tgt := 145) b.1 b.2.1 dX5_reckon_138 (by decide) ?_
    exact wfX5_reckon_145 b hlk hr zs zk  hf hE (lv_sub hl [] rfl)
def fX5_reckon_84 (k16 : PH → Nat → Int32 → Int32 → Option (PH)) (h : PH) (x0 : Nat) (x1 : Int32) (x2 : Int32) : Option (PH) :=
  oL (x2 + 1) (fun y13 => k16 h x0 x1 y13)
set_option maxHeartbeats 4000000 in
theorem wfX5_reckon_84 {args : Array Value} (b : Bd p s m c cX5_reckon 4 RX5 D aC) (hlk : meth.locks = false) (hr : meth.sig.returnType = none) {Z : State → Prop} (zs : Z s) (zk : ZOK Z (Rg ad)) {hz : PH} {k16 : PH → Nat → Int32 → Int32 → Option (PH)} (H16 : ∀ (h : PH) (x0 : Nat) (x1 : Int32) (x2 : Int32), ∀ (H : Heap) (locs : List Loc) (ls : Array Slot), k16 h x0 x1 x2 = some hz → CE (EX D aC ad h) (Rg ad) s H locs → lv_has ls 4 [(0, .ref (ad x0)), (1, .int x1), (2, .int x2)] → W p l e (RM 5 128 0 0) s m args below meth c H locs 0 0 (MQ below (PQ (EX D aC ad hz) (Rg ad) none) args s 0 0 (Rg ad)) (F0 m 16 ls [])) {h : PH} {x0 : Nat} {x1 : Int32} {x2 : Int32}  {H : Heap} {locs : List Loc} {ls : Array Slot} (hf : fX5_reckon_84 k16 h x0 x1 x2 = some hz) (hE : CE (EX D aC ad h) (Rg ad) s H locs) (hl : lv_has ls 4 [(0, .ref (ad x0)), (1, .int x1), (2, .int x2)]) : W p l e (RM 5 128 0 0) s m args below meth c H locs 0 0 (MQ below (PQ (EX D aC ad hz) (Rg ad) none) args s 0 0 (Rg ad)) (F0 m 84 ls []) := by
  unfold fX5_reckon_84 at hf
  obtain ⟨y13, ey13, hf⟩ := oL_s hf
  refine lv_iinc (v := y13) (lv' := [(2, .int y13), (0, .ref (ad x0)), (1, .int x1)]) b.1 b.2.1 dX5_reckon_84 hl (k := 2) rfl (by rw [ey13]; rfl) (by decide) rfl (fun ls hl => ?_)
  refine lv_goto (tgt := 16) b.1 b.2.1 dX5_reckon_87 (by decide) ?_
  exact H16 h x0 x1 y13 _ _ _ hf hE (lv_sub hl [1, 2, 0] rfl)
def fX5_reckon_16F (k16 : PH → Nat → Int32 → Int32 → Option (PH)) (h : PH) (x0 : Nat) (x1 : Int32) (x2 : Int32) : Option (PH) :=
  oC (decide (hT h x0 = 6)) (if (hI h 655 x0) ≤ x2 then (oN (hR h 641 x0) (fun a16 => oC (decide (hT h a16 = 7)) (oB2 (fX6_finishSum h a16) (fun h20 r19 => oC (decide (hT h20 x0 = 6)) (oN r19 (fun a22 => oC (decide (hT h20 a22 = 4)) (if (hI h20 386 a22) = 0 then (fX5_reckon_120  h20 x0 x1 r19 (hL h20 384 a22) (x1 * 2) (hR h20 658 x0)) else (fX5_reckon_120  h20 x0 x1 r19 0 (x1 * 2) (hR h20 658 x0))))))))) else (oN (hR h 653 x0) (fun a25 => oC (decide (hT h a25 = 101)) (oC (ix x2 (hN h a25)) (if (hA h a25 (Int32.toNatClampNeg x2)) = (600 + x1) then (oN (hR h 654 x0) (fun a29 => oC (decide (hT h a29 = 100)) (oC (ix x2 (hN h a29)) (if (hA h a29 (Int32.toNatClampNeg x2)) = 1 then (oN (hR h 652 x0) (fun a33 => oC (decide (hT h a33 = 101)) (oC (ix x2 (hN h a33)) (oB2 (fX5_bound h x0 (hA h a33 (Int32.toNatClampNeg x2))) (fun h38 r37 => if r37 = none then (fX5_reckon_84 k16 h38 x0 x1 x2) else (oC (decide (hT h38 x0 = 6)) (oN r37 (fun a41 => oC (decide (hT h38 a41 = 9)) (oN (hR h38 641 x0) (fun a43 => oC (decide (hT h38 a43 = 7)) (oB (fX6_take h38 a43 (hR h38 1029 a41)) (fun h46 => oC (decide (hT h46 x0 = 6)) (oN (hR h46 657 x0) (fun a48 => oC (decide (hT h46 a48 = 101)) (oC (ix x1 (hN h46 a48)) (oC (ix x1 (hN h46 a48)) (oL (sA h46 a48 (Int32.toNatClampNeg x1) ((hA h46 a48 (Int32.toNatClampNeg x1)) + 1)) (fun h52 => fX5_reckon_84 k16 h52 x0 x1 x2)))))))))))))))))) else (fX5_reckon_84 k16 h x0 x1 x2))))) else (fX5_reckon_84 k16 h x0 x1 x2))))))
set_option maxHeartbeats 4000000 in
theorem wfX5_reckon_16F {args : Array Value} (b : Bd p s m c cX5_reckon 4 RX5 D aC) (hlk : meth.locks = false) (hr : meth.sig.returnType = none) {Z : State → Prop} (zs : Z s) (zk : ZOK Z (Rg ad)) {hz : PH} {k16 : PH → Nat → Int32 → Int32 → Option (PH)} (H16 : ∀ (h : PH) (x0 : Nat) (x1 : Int32) (x2 : Int32), ∀ (H : Heap) (locs : List Loc) (ls : Array Slot), k16 h x0 x1 x2 = some hz → CE (EX D aC ad h) (Rg ad) s H locs → lv_has ls 4 [(0, .ref (ad x0)), (1, .int x1), (2, .int x2)] → W p l e (RM 5 128 0 0) s m args below meth c H locs 0 0 (MQ below (PQ (EX D aC ad hz) (Rg ad) none) args s 0 0 (Rg ad)) (F0 m 16 ls [])) {h : PH} {x0 : Nat} {x1 : Int32} {x2 : Int32}  {H : Heap} {locs : List Loc} {ls : Array Slot} (hf : fX5_reckon_16F k16 h x0 x1 x2 = some hz) (hE : CE (EX D aC ad h) (Rg ad) s H locs) (hl : lv_has ls 4 [(0, .ref (ad x0)), (1, .int x1), (2, .int x2)]) : W p l e (RM 5 128 0 0) s m args below meth c H locs 0 0 (MQ below (PQ (EX D aC ad hz) (Rg ad) none) args s 0 0 (Rg ad)) (F0 m 16 ls []) := by
  unfold fX5_reckon_16F at hf
  refine lv_iload_n b.1 b.2.1 dX5_reckon_16 rfl (lv_at hl 2 rfl) ?_
  refine lv_aload_n b.1 b.2.1 dX5_reckon_17 rfl (lv_at hl 0 rfl) ?_
  obtain ⟨t14, hf⟩ := oC_s hf
  have t14 := of_decide_eq_true t14
  refine gX5_90 (x := (some x0)) b hE rfl t14 dX5_reckon_18 ?_
  refine lv_icmp_ge (tgt := 90) b.1 b.2.1 dX5_reckon_21 (by decide) (fun c15 => ?_) (fun c15 => ?_)
  · have hf := oI_t c15 hf
    refine lv_aload_n b.1 b.2.1 dX5_reckon_90 rfl (lv_at hl 0 rfl) ?_
    refine gX5_59 (x := (some x0)) b hE rfl t14 dX5_reckon_91 ?_
    obtain ⟨a16, ea16, hf⟩ := oN_s hf
    obtain ⟨t17, hf⟩ := oC_s hf
    have t17 := of_decide_eq_true t17
    obtain ⟨h20, r19, hc18, hf⟩ := oB2_s hf
    refine k_stk [] ea16 ?_
    refine k_callV0 (C := RX6) b zs zk hE (CX6_finishSum l D aC ad zk hc18) mc_X6_finishSum (in5 83 rfl rfl) mi_X6_finishSum ms_X6_finishSum ini_RX6 ok_X6_finishSum (x_recv b hE (ci := 6) rfl (by decide) t17) ⟨Nat.le_of_ble_eq_true rfl, Nat.le_of_ble_eq_true rfl⟩ rfl hl.1 rfl (k_room _ (by exact Nat.le_of_ble_eq_true rfl)) ⟨Nat.le_refl _, Nat.le_refl _⟩ dX5_reckon_94 (fun H locs hE => ?_)
    refine k_astore_n (x := Option.map ad r19) (lv' := [(2, va_rf (Option.map ad r19)), (0, .ref (ad x0)), (1, .int x1)]) b dX5_reckon_97 rfl hl (by decide) rfl (fun ls hl => ?_)
    refine lv_aload_n b.1 b.2.1 dX5_reckon_98 rfl (lv_at hl 1 rfl) ?_
    obtain ⟨t21, hf⟩ := oC_s hf
    have t21 := of_decide_eq_true t21
    refine gX5_46 (x := (some x0)) b hE rfl t21 dX5_reckon_99 ?_
    refine lv_iload_n b.1 b.2.1 dX5_reckon_102 rfl (lv_at hl 2 rfl) ?_
    refine lv_iconst (v := 2) b.1 b.2.1 dX5_reckon_103 (by decide) ?_
    refine lv_imul b.1 b.2.1 dX5_reckon_104 ?_
    refine k_aload_n (x := Option.map ad r19) b dX5_reckon_105 rfl (lv_at hl 0 rfl) ?_
    obtain ⟨a22, ea22, hf⟩ := oN_s hf
    obtain ⟨t23, hf⟩ := oC_s hf
    have t23 := of_decide_eq_true t23
    refine gX5_176 (x := r19) b hE ea22 t23 dX5_reckon_106 ?_
    refine lv_if_eq (tgt := 116) b.1 b.2.1 dX5_reckon_109 (by decide) (fun c24 => ?_) (fun c24 => ?_)
    · have hf := oI_t c24 hf
      refine k_aload_n (x := Option.map ad r19) b dX5_reckon_116 rfl (lv_at hl 0 rfl) ?_
      refine gX5_182 (x := r19) b hE ea22 t23 dX5_reckon_117 ?_
      exact wfX5_reckon_120 b hlk hr zs zk  hf hE (lv_sub hl [1, 2, 0] rfl)
    · have hf := oI_f c24 hf
      refine lv_lconst (v := 0) b.1 b.2.1 dX5_reckon_112 rfl ?_
      refine lv_goto (tgt := 120) b.1 b.2.1 dX5_reckon_113 (by decide) ?_
      exact wfX5_reckon_120 b hlk hr zs zk  hf hE (lv_sub hl [1, 2, 0] rfl)
  · have hf := oI_f c15 hf
    refine lv_aload_n b.1 b.2.1 dX5_reckon_24 rfl (lv_at hl 0 rfl) ?_
    refine gX5_34 (x := (some x0)) b hE rfl t14 dX5_reckon_25 ?_
    refine lv_iload_n b.1 b.2.1 dX5_reckon_28 rfl (lv_at hl 2 rfl) ?_
    obtain ⟨a25, ea25, hf⟩ := oN_s hf
    obtain ⟨t26, hf⟩ := oC_s hf
    have t26 := of_decide_eq_true t26
    obtain ⟨g27, hf⟩ := oC_s hf
    refine q_iald (x := (hR h 653 x0)) b hE ea25 t26 g27 dX5_reckon_29 ?_
    refine lv_sipush (v := 600) b.1 b.2.1 dX5_reckon_30 (by decide) ?_
    refine lv_iload_n b.1 b.2.1 dX5_reckon_33 rfl (lv_at hl 1 rfl) ?_
    refine lv_iadd b.1 b.2.1 dX5_reckon_34 ?_
    refine lv_icmp_ne (tgt := 84) b.1 b.2.1 dX5_reckon_35 (by decide) (fun c28 => ?_) (fun c28 => ?_)
    · have hf := oI_f c28 hf
      exact wfX5_reckon_84 b hlk hr zs zk H16 hf hE (lv_sub hl [0, 1, 2] rfl)
    · have hf := oI_t c28 hf
      refine lv_aload_n b.1 b.2.1 dX5_reckon_38 rfl (lv_at hl 0 rfl) ?_
      refine gX5_37 (x := (some x0)) b hE rfl t14 dX5_reckon_39 ?_
      refine lv_iload_n b.1 b.2.1 dX5_reckon_42 rfl (lv_at hl 2 rfl) ?_
      obtain ⟨a29, ea29, hf⟩ := oN_s hf
      obtain ⟨t30, hf⟩ := oC_s hf
      have t30 := of_decide_eq_true t30
      obtain ⟨g31, hf⟩ := oC_s hf
      refine q_bald (x := (hR h 654 x0)) b hE ea29 t30 g31 dX5_reckon_43 ?_
      refine lv_iconst (v := 1) b.1 b.2.1 dX5_reckon_44 (by decide) ?_
      refine lv_icmp_ne (tgt := 84) b.1 b.2.1 dX5_reckon_45 (by decide) (fun c32 => ?_) (fun c32 => ?_)
      · have hf := oI_f c32 hf
        exact wfX5_reckon_84 b hlk hr zs zk H16 hf hE (lv_sub hl [0, 1, 2] rfl)
      · have hf := oI_t c32 hf
        refine lv_aload_n b.1 b.2.1 dX5_reckon_48 rfl (lv_at hl 0 rfl) ?_
        refine lv_aload_n b.1 b.2.1 dX5_reckon_49 rfl (lv_at hl 0 rfl) ?_
        refine gX5_31 (x := (some x0)) b hE rfl t14 dX5_reckon_50 ?_
        refine lv_iload_n b.1 b.2.1 dX5_reckon_53 rfl (lv_at hl 2 rfl) ?_
        obtain ⟨a33, ea33, hf⟩ := oN_s hf
        obtain ⟨t34, hf⟩ := oC_s hf
        have t34 := of_decide_eq_true t34
        obtain ⟨g35, hf⟩ := oC_s hf
        refine q_iald (x := (hR h 652 x0)) b hE ea33 t34 g35 dX5_reckon_54 ?_
        obtain ⟨h38, r37, hc36, hf⟩ := oB2_s hf
        refine k_callV0 (C := RX5) b zs zk hE (CX5_bound l D aC ad zk hc36) mc_X5_bound (in5 35 rfl rfl) mi_X5_bound ms_X5_bound ini_RX5 ok_X5_bound (x_recv b hE (ci := 5) rfl (by decide) t14) ⟨Nat.le_of_ble_eq_true rfl, Nat.le_of_ble_eq_true rfl⟩ rfl hl.1 rfl (k_room _ (by exact Nat.le_of_ble_eq_true rfl)) ⟨Nat.le_refl _, Nat.le_refl _⟩ dX5_reckon_55 (fun H locs hE => ?_)
        refine k_astore_n (x := Option.map ad r37) (lv' := [(3, va_rf (Option.map ad r37)), (0, .ref (ad x0)), (1, .int x1), (2, .int x2)]) b dX5_reckon_58 rfl hl (by decide) rfl (fun ls hl => ?_)
        refine k_aload_n (x := Option.map ad r37) b dX5_reckon_59 rfl (lv_at hl 0 rfl) ?_
        refine k_ifnull (x := Option.map ad r37) b dX5_reckon_60 (tgt := 84) (by decide) (fun c39 => ?_) (fun c39 => ?_)
        · have hf := oI_t (Option.map_eq_none_iff.mp c39) hf
          exact wfX5_reckon_84 b hlk hr zs zk H16 hf hE (lv_sub hl [1, 2, 3] rfl)
        · have hf := oI_f (fun z => c39 (Option.map_eq_none_iff.mpr z)) hf
          refine lv_aload_n b.1 b.2.1 dX5_reckon_63 rfl (lv_at hl 1 rfl) ?_
          obtain ⟨t40, hf⟩ := oC_s hf
          have t40 := of_decide_eq_true t40
          refine gX5_59 (x := (some x0)) b hE rfl t40 dX5_reckon_64 ?_
          refine k_aload_n (x := Option.map ad r37) b dX5_reckon_67 rfl (lv_at hl 0 rfl) ?_
          obtain ⟨a41, ea41, hf⟩ := oN_s hf
          obtain ⟨t42, hf⟩ := oC_s hf
          have t42 := of_decide_eq_true t42
          refine gX5_164 (x := r37) b hE ea41 t42 dX5_reckon_68 ?_
          obtain ⟨a43, ea43, hf⟩ := oN_s hf
          obtain ⟨t44, hf⟩ := oC_s hf
          have t44 := of_decide_eq_true t44
          obtain ⟨h46, hc45, hf⟩ := oB_s hf
          refine k_stk [va_rf (Option.map ad (hR h38 1029 a41))] ea43 ?_
          refine k_callV0 (C := RX6) b zs zk hE (CX6_take l D aC ad zk hc45) mc_X6_take (in5 75 rfl rfl) mi_X6_take ms_X6_take ini_RX6 ok_X6_take (x_recv b hE (ci := 6) rfl (by decide) t44) ⟨Nat.le_of_ble_eq_true rfl, Nat.le_of_ble_eq_true rfl⟩ rfl hl.1 rfl (k_room _ (by exact Nat.le_of_ble_eq_true rfl)) ⟨Nat.le_refl _, Nat.le_refl _⟩ dX5_reckon_71 (fun H locs hE => ?_)
          refine lv_aload_n b.1 b.2.1 dX5_reckon_74 rfl (lv_at hl 1 rfl) ?_
          obtain ⟨t47, hf⟩ := oC_s hf
          have t47 := of_decide_eq_true t47
          refine gX5_43 (x := (some x0)) b hE rfl t47 dX5_reckon_75 ?_
          refine lv_iload_n b.1 b.2.1 dX5_reckon_78 rfl (lv_at hl 2 rfl) ?_
          refine lv_dup2_11 b.1 b.2.1 dX5_reckon_79 rfl (rf_cat _) ?_
          obtain ⟨a48, ea48, hf⟩ := oN_s hf
          obtain ⟨t49, hf⟩ := oC_s hf
          have t49 := of_decide_eq_true t49
          obtain ⟨g50, hf⟩ := oC_s hf
          refine q_iald (x := (hR h46 657 x0)) b hE ea48 t49 g50 dX5_reckon_80 ?_
          refine lv_iconst (v := 1) b.1 b.2.1 dX5_reckon_81 (by decide) ?_
          refine lv_iadd b.1 b.2.1 dX5_reckon_82 ?_
          obtain ⟨g51, hf⟩ := oC_s hf
          obtain ⟨h52, eh52, hf⟩ := oL_s hf
          refine q_iast (x := (hR h46 657 x0)) b hE ea48 t49 g51 eh52 dX5_reckon_83 (fun H locs hE => ?_)
          exact wfX5_reckon_84 b hlk hr zs zk H16 hf hE (lv_sub hl [1, 2, 3] rfl)
def fX5_reckon_16  : Nat → PH → Nat → Int32 → Int32 → Option (PH)
  | 0 => fun _ _ _ _ => none
  | n + 1 => fX5_reckon_16F  (fX5_reckon_16  n)
set_option maxHeartbeats 4000000 in
theorem wfX5_reckon_16 {args : Array Value} (b : Bd p s m c cX5_reckon 4 RX5 D aC) (hlk : meth.locks = false) (hr : meth.sig.returnType = none) {Z : State → Prop} (zs : Z s) (zk : ZOK Z (Rg ad)) {hz : PH} : ∀ n : Nat, ∀ (h : PH) (x0 : Nat) (x1 : Int32) (x2 : Int32), ∀ (H : Heap) (locs : List Loc) (ls : Array Slot), fX5_reckon_16  n h x0 x1 x2 = some hz → CE (EX D aC ad h) (Rg ad) s H locs → lv_has ls 4 [(0, .ref (ad x0)), (1, .int x1), (2, .int x2)] → W p l e (RM 5 128 0 0) s m args below meth c H locs 0 0 (MQ below (PQ (EX D aC ad hz) (Rg ad) none) args s 0 0 (Rg ad)) (F0 m 16 ls []) := by
  intro n
  induction n with
  | zero =>
    intro h x0 x1 x2 H locs ls hf
    have hf : (none : Option (PH)) = some _ := hf
    cases hf
  | succ n ih =>
    intro h x0 x1 x2 H locs ls hf hE hl
    exact wfX5_reckon_16F b hlk hr zs zk  ih hf hE hl
def fX5_reckon_0  (h : PH) (x0 : Nat) (x1 : Int32) : Option (PH) :=
  oC (decide (hT h x0 = 6)) (oN (hR h 641 x0) (fun a54 => oC (decide (hT h a54 = 7)) (oB (fX6_beginSum h a54) (fun h57 => oC (decide (hT h57 x0 = 6)) (oN (hR h57 657 x0) (fun a59 => oC (decide (hT h57 a59 = 101)) (oC (ix x1 (hN h57 a59)) (oL (sA h57 a59 (Int32.toNatClampNeg x1) 0) (fun h62 => fX5_reckon_16  FU h62 x0 x1 0)))))))))
set_option maxHeartbeats 4000000 in
theorem wfX5_reckon_0 {args : Array Value} (b : Bd p s m c cX5_reckon 4 RX5 D aC) (hlk : meth.locks = false) (hr : meth.sig.returnType = none) {Z : State → Prop} (zs : Z s) (zk : ZOK Z (Rg ad)) {hz : PH} {h : PH} {x0 : Nat} {x1 : Int32}  {H : Heap} {locs : List Loc} {ls : Array Slot} (hf : fX5_reckon_0 h x0 x1 = some hz) (hE : CE (EX D aC ad h) (Rg ad) s H locs) (hl : lv_has ls 4 [(0, .ref (ad x0)), (1, .int x1)]) : W p l e (RM 5 128 0 0) s m args below meth c H locs 0 0 (MQ below (PQ (EX D aC ad hz) (Rg ad) none) args s 0 0 (Rg ad)) (F0 m 0 ls []) := by
  unfold fX5_reckon_0 at hf
  refine lv_aload_n b.1 b.2.1 dX5_reckon_0 rfl (lv_at hl 0 rfl) ?_
  obtain ⟨t53, hf⟩ := oC_s hf
  have t53 := of_decide_eq_true t53
  refine gX5_59 (x := (some x0)) b hE rfl t53 dX5_reckon_1 ?_
  obtain ⟨a54, ea54, hf⟩ := oN_s hf
  obtain ⟨t55, hf⟩ := oC_s hf
  have t55 := of_decide_eq_true t55
  obtain ⟨h57, hc56, hf⟩ := oB_s hf
  refine k_stk [] ea54 ?_
  refine k_callV0 (C := RX6) b zs zk hE (CX6_beginSum l D aC ad zk hc56) mc_X6_beginSum (in5 71 rfl rfl) mi_X6_beginSum ms_X6_beginSum ini_RX6 ok_X6_beginSum (x_recv b hE (ci := 6) rfl (by decide) t55) ⟨Nat.le_of_ble_eq_true rfl, Nat.le_of_ble_eq_true rfl⟩ rfl hl.1 rfl (k_room _ (by exact Nat.le_of_ble_eq_true rfl)) ⟨Nat.le_refl _, Nat.le_refl _⟩ dX5_reckon_4 (fun H locs hE => ?_)
  refine lv_aload_n b.1 b.2.1 dX5_reckon_7 rfl (lv_at hl 0 rfl) ?_
  obtain ⟨t58, hf⟩ := oC_s hf
  have t58 := of_decide_eq_true t58
  refine gX5_43 (x := (some x0)) b hE rfl t58 dX5_reckon_8 ?_
  refine lv_iload_n b.1 b.2.1 dX5_reckon_11 rfl (lv_at hl 1 rfl) ?_
  refine lv_iconst (v := 0) b.1 b.2.1 dX5_reckon_12 (by decide) ?_
  obtain ⟨a59, ea59, hf⟩ := oN_s hf
  obtain ⟨t60, hf⟩ := oC_s hf
  have t60 := of_decide_eq_true t60
  obtain ⟨g61, hf⟩ := oC_s hf
  obtain ⟨h62, eh62, hf⟩ := oL_s hf
  refine q_iast (x := (hR h57 657 x0)) b hE ea59 t60 g61 eh62 dX5_reckon_13 (fun H locs hE => ?_)
  refine lv_iconst (v := 0) b.1 b.2.1 dX5_reckon_14 (by decide) ?_
  refine lv_istore_n (lv' := [(2, .int 0), (0, .ref (ad x0)), (1, .int x1)]) b.1 b.2.1 dX5_reckon_15 rfl hl (by decide) rfl (fun ls hl => ?_)
  exact wfX5_reckon_16 b hlk hr zs zk  FU h62 x0 x1 0 _ _ _ hf hE (lv_sub hl [1, 2, 0] rfl)
def fX5_reckon (h : PH) (x0 : Nat) (x1 : Int32) : Option (PH) := fX5_reckon_0 h x0 x1
set_option maxHeartbeats 4000000 in
theorem CX5_reckon (l : Launch) (D : va_G) (aC : Nat → ClassId) (ad : Nat → Nat) {Z : State → Prop} (zk : ZOK Z (Rg ad)) {h : PH} {x0 : Nat} {x1 : Int32} {hz : PH} (hf : fX5_reckon h x0 x1 = some hz) : CM l D aC Z yX5_reckon cX5_reckon 4 (none) 5 128 0 0 (EX D aC ad h) [.ref (ad x0), .int x1] (EX D aC ad hz) none (Rg ad) := by
  refine CM.of rfl ?_
  intro p e s m below meth c b hr hlk hin2 zs hE
  refine k_ent (Nat.le_of_ble_eq_true rfl) (fun ls hl => ?_)
  exact wfX5_reckon_0 b hlk hr zs zk hf hE (lv_sub hl [0, 1] rfl)
theorem dX5_find_0 : decode cX5_find 0 = .ok (.aload_n 0, 1) := by decide +kernel
theorem dX5_find_1 : decode cX5_find 1 = .ok (.getfield 50, 3) := by decide +kernel
theorem dX5_find_4 : decode cX5_find 4 = .ok (.iload_n 1, 1) := by decide +kernel
theorem dX5_find_5 : decode cX5_find 5 = .ok (.iload_n 2, 1) := by decide +kernel
theorem dX5_find_6 : decode cX5_find 6 = .ok (.iload_n 3, 1) := by decide +kernel
theorem dX5_find_7 : decode cX5_find 7 = .ok (.iload 4, 2) := by decide +kernel
theorem dX5_find_9 : decode cX5_find 9 = .ok (.aload_n 0, 1) := by decide +kernel
theorem dX5_find_10 : decode cX5_find 10 = .ok (.getfield 80, 3) := by decide +kernel
theorem dX5_find_13 : decode cX5_find 13 = .ok (.aload_n 0, 1) := by decide +kernel
theorem dX5_find_14 : decode cX5_find 14 = .ok (.getfield 75, 3) := by decide +kernel
theorem dX5_find_17 : decode cX5_find 17 = .ok (.invokevirtual 189, 3) := by decide +kernel
theorem dX5_find_20 : decode cX5_find 20 = .ok (.ireturn, 1) := by decide +kernel
def fX5_find_0  (h : PH) (x0 : Nat) (x1 : Int32) (x2 : Int32) (x3 : Int32) (x4 : Int32) : Option (Int32) :=
  oC (decide (hT h x0 = 6)) (oN (hR h 640 x0) (fun a2 => oC (decide (hT h a2 = 2)) (oB (fX1_literal h a2 x1 x2 x3 x4 (hI h 643 x0) (hI h 642 x0)) (fun r5 => some (r5)))))
set_option maxHeartbeats 4000000 in
theorem wfX5_find_0 {args : Array Value} (b : Bd p s m c cX5_find 5 RX5 D aC) (hlk : meth.locks = false) (hr : meth.sig.returnType = some .int) {Z : State → Prop} (zs : Z s) (zk : ZOK Z (Rg ad)) {rz : Int32} {h : PH} {x0 : Nat} {x1 : Int32} {x2 : Int32} {x3 : Int32} {x4 : Int32}  {H : Heap} {locs : List Loc} {ls : Array Slot} (hf : fX5_find_0 h x0 x1 x2 x3 x4 = some rz) (hE : CE (EX D aC ad h) (Rg ad) s H locs) (hl : lv_has ls 5 [(0, .ref (ad x0)), (1, .int x1), (2, .int x2), (3, .int x3), (4, .int x4)]) : W p l e (RM 2 51 0 0) s m args below meth c H locs 0 0 (MQ below (PQ (EX D aC ad h) (Rg ad) (some (.int rz))) args s 0 0 (Rg ad)) (F0 m 0 ls []) := by
  unfold fX5_find_0 at hf
  refine lv_aload_n b.1 b.2.1 dX5_find_0 rfl (lv_at hl 0 rfl) ?_
  obtain ⟨t1, hf⟩ := oC_s hf
  have t1 := of_decide_eq_true t1
  refine gX5_50 (x := (some x0)) b hE rfl t1 dX5_find_1 ?_
  refine lv_iload_n b.1 b.2.1 dX5_find_4 rfl (lv_at hl 1 rfl) ?_
  refine lv_iload_n b.1 b.2.1 dX5_find_5 rfl (lv_at hl 2 rfl) ?_
  refine lv_iload_n b.1 b.2.1 dX5_find_6 rfl (lv_at hl 3 rfl) ?_
  refine lv_iload b.1 b.2.1 dX5_find_7 (lv_at hl 4 rfl) ?_
  refine lv_aload_n b.1 b.2.1 dX5_find_9 rfl (lv_at hl 0 rfl) ?_
  refine gX5_80 (x := (some x0)) b hE rfl t1 dX5_find_10 ?_
  refine lv_aload_n b.1 b.2.1 dX5_find_13 rfl (lv_at hl 0 rfl) ?_
  refine gX5_75 (x := (some x0)) b hE rfl t1 dX5_find_14 ?_
  obtain ⟨a2, ea2, hf⟩ := oN_s hf
  obtain ⟨t3, hf⟩ := oC_s hf
  have t3 := of_decide_eq_true t3
  obtain ⟨r5, hc4, hf⟩ := oB_s hf
  refine k_stk [.int (hI h 642 x0), .int (hI h 643 x0), .int x4, .int x3, .int x2, .int x1] ea2 ?_
  refine k_callV0 (C := RX1) b zs zk hE (CX1_literal l D aC ad zk hc4) mc_X1_literal (in5 95 rfl rfl) mi_X1_literal ms_X1_literal ini_RX1 ok_X1_literal (x_recv b hE (ci := 1) rfl (by decide) t3) ⟨Nat.le_of_ble_eq_true rfl, Nat.le_of_ble_eq_true rfl⟩ rfl hl.1 rfl (k_room _ (by exact Nat.le_of_ble_eq_true rfl)) ⟨Nat.le_refl _, Nat.le_refl _⟩ dX5_find_17 (fun H locs hE => ?_)
  cases hf
  exact k_iret b hlk hr hE (Nat.le_refl _) (Nat.le_refl _) dX5_find_20
def fX5_find (h : PH) (x0 : Nat) (x1 : Int32) (x2 : Int32) (x3 : Int32) (x4 : Int32) : Option (Int32) := fX5_find_0 h x0 x1 x2 x3 x4
set_option maxHeartbeats 4000000 in
theorem CX5_find (l : Launch) (D : va_G) (aC : Nat → ClassId) (ad : Nat → Nat) {Z : State → Prop} (zk : ZOK Z (Rg ad)) {h : PH} {x0 : Nat} {x1 : Int32} {x2 : Int32} {x3 : Int32} {x4 : Int32} {rz : Int32} (hf : fX5_find h x0 x1 x2 x3 x4 = some rz) : CM l D aC Z yX5_find cX5_find 5 (some .int) 2 51 0 0 (EX D aC ad h) [.ref (ad x0), .int x1, .int x2, .int x3, .int x4] (EX D aC ad h) (some (.int rz)) (Rg ad) := by
  refine CM.of rfl ?_
  intro p e s m below meth c b hr hlk hin2 zs hE
  refine k_ent (Nat.le_of_ble_eq_true rfl) (fun ls hl => ?_)
  exact wfX5_find_0 b hlk hr zs zk hf hE (lv_sub hl [0, 1, 2, 3, 4] rfl)
theorem dX5_kindOfReason_0 : decode cX5_kindOfReason 0 = .ok (.aload_n 0, 1) := by decide +kernel
theorem dX5_kindOfReason_1 : decode cX5_kindOfReason 1 = .ok (.getfield 15, 3) := by decide +kernel
theorem dX5_kindOfReason_4 : decode cX5_kindOfReason 4 = .ok (.iload_n 1, 1) := by decide +kernel
theorem dX5_kindOfReason_5 : decode cX5_kindOfReason 5 = .ok (.baload, 1) := by decide +kernel
theorem dX5_kindOfReason_6 : decode cX5_kindOfReason 6 = .ok (.iconst 2, 1) := by decide +kernel
theorem dX5_kindOfReason_7 : decode cX5_kindOfReason 7 = .ok (.if_icmp .ne 5, 3) := by decide +kernel
theorem dX5_kindOfReason_10 : decode cX5_kindOfReason 10 = .ok (.iconst 3, 1) := by decide +kernel
theorem dX5_kindOfReason_11 : decode cX5_kindOfReason 11 = .ok (.ireturn, 1) := by decide +kernel
theorem dX5_kindOfReason_12 : decode cX5_kindOfReason 12 = .ok (.aload_n 0, 1) := by decide +kernel
theorem dX5_kindOfReason_13 : decode cX5_kindOfReason 13 = .ok (.getfield 19, 3) := by decide +kernel
theorem dX5_kindOfReason_16 : decode cX5_kindOfReason 16 = .ok (.iload_n 1, 1) := by decide +kernel
theorem dX5_kindOfReason_17 : decode cX5_kindOfReason 17 = .ok (.iaload, 1) := by decide +kernel
theorem dX5_kindOfReason_18 : decode cX5_kindOfReason 18 = .ok (.bipush (-2), 2) := by decide +kernel
theorem dX5_kindOfReason_20 : decode cX5_kindOfReason 20 = .ok (.if_icmp .ne 5, 3) := by decide +kernel
theorem dX5_kindOfReason_23 : decode cX5_kindOfReason 23 = .ok (.iconst 0, 1) := by decide +kernel
theorem dX5_kindOfReason_24 : decode cX5_kindOfReason 24 = .ok (.ireturn, 1) := by decide +kernel
theorem dX5_kindOfReason_25 : decode cX5_kindOfReason 25 = .ok (.aload_n 0, 1) := by decide +kernel
theorem dX5_kindOfReason_26 : decode cX5_kindOfReason 26 = .ok (.getfield 19, 3) := by decide +kernel
theorem dX5_kindOfReason_29 : decode cX5_kindOfReason 29 = .ok (.iload_n 1, 1) := by decide +kernel
theorem dX5_kindOfReason_30 : decode cX5_kindOfReason 30 = .ok (.iaload, 1) := by decide +kernel
theorem dX5_kindOfReason_31 : decode cX5_kindOfReason 31 = .ok (.iconst (-1), 1) := by decide +kernel
theorem dX5_kindOfReason_32 : decode cX5_kindOfReason 32 = .ok (.if_icmp .ne 7, 3) := by decide +kernel
theorem dX5_kindOfReason_35 : decode cX5_kindOfReason 35 = .ok (.iconst 2, 1) := by decide +kernel
theorem dX5_kindOfReason_36 : decode cX5_kindOfReason 36 = .ok (.goto 4, 3) := by decide +kernel
theorem dX5_kindOfReason_39 : decode cX5_kindOfReason 39 = .ok (.iconst 1, 1) := by decide +kernel
theorem dX5_kindOfReason_40 : decode cX5_kindOfReason 40 = .ok (.ireturn, 1) := by decide +kernel
def fX5_kindOfReason_0  (h : PH) (x0 : Nat) (x1 : Int32) : Option (Int32) :=
  oC (decide (hT h x0 = 6)) (oN (hR h 646 x0) (fun a2 => oC (decide (hT h a2 = 100)) (oC (ix x1 (hN h a2)) (if (hA h a2 (Int32.toNatClampNeg x1)) = 2 then (some (3)) else (oN (hR h 647 x0) (fun a6 => oC (decide (hT h a6 = 101)) (oC (ix x1 (hN h a6)) (if (hA h a6 (Int32.toNatClampNeg x1)) = (-2) then (some (0)) else (oC (ix x1 (hN h a6)) (if (hA h a6 (Int32.toNatClampNeg x1)) = (-1) then (some (2)) else (some (1))))))))))))
set_option maxHeartbeats 4000000 in
theorem wfX5_kindOfReason_0 {args : Array Value} (b : Bd p s m c cX5_kindOfReason 2 RX5 D aC) (hlk : meth.locks = false) (hr : meth.sig.returnType = some .int) {Z : State → Prop} (zs : Z s) (zk : ZOK Z (Rg ad)) {rz : Int32} {h : PH} {x0 : Nat} {x1 : Int32}  {H : Heap} {locs : List Loc} {ls : Array Slot} (hf : fX5_kindOfReason_0 h x0 x1 = some rz) (hE : CE (EX D aC ad h) (Rg ad) s H locs) (hl : lv_has ls 2 [(0, .ref (ad x0)), (1, .int x1)]) : W p l e (RM 0 0 0 0) s m args below meth c H locs 0 0 (MQ below (PQ (EX D aC ad h) (Rg ad) (some (.int rz))) args s 0 0 (Rg ad)) (F0 m 0 ls []) := by
  unfold fX5_kindOfReason_0 at hf
  refine lv_aload_n b.1 b.2.1 dX5_kindOfReason_0 rfl (lv_at hl 0 rfl) ?_
  obtain ⟨t1, hf⟩ := oC_s hf
  have t1 := of_decide_eq_true t1
  refine gX5_15 (x := (some x0)) b hE rfl t1 dX5_kindOfReason_1 ?_
  refine lv_iload_n b.1 b.2.1 dX5_kindOfReason_4 rfl (lv_at hl 1 rfl) ?_
  obtain ⟨a2, ea2, hf⟩ := oN_s hf
  obtain ⟨t3, hf⟩ := oC_s hf
  have t3 := of_decide_eq_true t3
  obtain ⟨g4, hf⟩ := oC_s hf
  refine q_bald (x := (hR h 646 x0)) b hE ea2 t3 g4 dX5_kindOfReason_5 ?_
  refine lv_iconst (v := 2) b.1 b.2.1 dX5_kindOfReason_6 (by decide) ?_
  refine lv_icmp_ne (tgt := 12) b.1 b.2.1 dX5_kindOfReason_7 (by decide) (fun c5 => ?_) (fun c5 => ?_)
  · have hf := oI_f c5 hf
    refine lv_aload_n b.1 b.2.1 dX5_kindOfReason_12 rfl (lv_at hl 0 rfl) ?_
    refine gX5_19 (x := (some x0)) b hE rfl t1 dX5_kindOfReason_13 ?_
    refine lv_iload_n b.1 b.2.1 dX5_kindOfReason_16 rfl (lv_at hl 1 rfl) ?_
    obtain ⟨a6, ea6, hf⟩ := oN_s hf
    obtain ⟨t7, hf⟩ := oC_s hf
    have t7 := of_decide_eq_true t7
    obtain ⟨g8, hf⟩ := oC_s hf
    refine q_iald (x := (hR h 647 x0)) b hE ea6 t7 g8 dX5_kindOfReason_17 ?_
    refine lv_bipush (v := (-2)) b.1 b.2.1 dX5_kindOfReason_18 (by decide) ?_
    refine lv_icmp_ne (tgt := 25) b.1 b.2.1 dX5_kindOfReason_20 (by decide) (fun c9 => ?_) (fun c9 => ?_)
    · have hf := oI_f c9 hf
      refine lv_aload_n b.1 b.2.1 dX5_kindOfReason_25 rfl (lv_at hl 0 rfl) ?_
      refine gX5_19 (x := (some x0)) b hE rfl t1 dX5_kindOfReason_26 ?_
      refine lv_iload_n b.1 b.2.1 dX5_kindOfReason_29 rfl (lv_at hl 1 rfl) ?_
      obtain ⟨g10, hf⟩ := oC_s hf
      refine q_iald (x := (hR h 647 x0)) b hE ea6 t7 g10 dX5_kindOfReason_30 ?_
      refine lv_iconst (v := (-1)) b.1 b.2.1 dX5_kindOfReason_31 (by decide) ?_
      refine lv_icmp_ne (tgt := 39) b.1 b.2.1 dX5_kindOfReason_32 (by decide) (fun c11 => ?_) (fun c11 => ?_)
      · have hf := oI_f c11 hf
        refine lv_iconst (v := 1) b.1 b.2.1 dX5_kindOfReason_39 (by decide) ?_
        cases hf
        exact k_iret b hlk hr hE (Nat.le_refl _) (Nat.le_refl _) dX5_kindOfReason_40
      · have hf := oI_t c11 hf
        refine lv_iconst (v := 2) b.1 b.2.1 dX5_kindOfReason_35 (by decide) ?_
        refine lv_goto (tgt := 40) b.1 b.2.1 dX5_kindOfReason_36 (by decide) ?_
        cases hf
        exact k_iret b hlk hr hE (Nat.le_refl _) (Nat.le_refl _) dX5_kindOfReason_40
    · have hf := oI_t c9 hf
      refine lv_iconst (v := 0) b.1 b.2.1 dX5_kindOfReason_23 (by decide) ?_
      cases hf
      exact k_iret b hlk hr hE (Nat.le_refl _) (Nat.le_refl _) dX5_kindOfReason_24
  · have hf := oI_t c5 hf
    refine lv_iconst (v := 3) b.1 b.2.1 dX5_kindOfReason_10 (by decide) ?_
    cases hf
    exact k_iret b hlk hr hE (Nat.le_refl _) (Nat.le_refl _) dX5_kindOfReason_11
def fX5_kindOfReason (h : PH) (x0 : Nat) (x1 : Int32) : Option (Int32) := fX5_kindOfReason_0 h x0 x1
set_option maxHeartbeats 4000000 in
theorem CX5_kindOfReason (l : Launch) (D : va_G) (aC : Nat → ClassId) (ad : Nat → Nat) {Z : State → Prop} (zk : ZOK Z (Rg ad)) {h : PH} {x0 : Nat} {x1 : Int32} {rz : Int32} (hf : fX5_kindOfReason h x0 x1 = some rz) : CM l D aC Z yX5_kindOfReason cX5_kindOfReason 2 (some .int) 0 0 0 0 (EX D aC ad h) [.ref (ad x0), .int x1] (EX D aC ad h) (some (.int rz)) (Rg ad) := by
  refine CM.of rfl ?_
  intro p e s m below meth c b hr hlk hin2 zs hE
  refine k_ent (Nat.le_of_ble_eq_true rfl) (fun ls hl => ?_)
  exact wfX5_kindOfReason_0 b hlk hr zs zk hf hE (lv_sub hl [0, 1] rfl)
theorem dX5_reason_0 : decode cX5_reason 0 = .ok (.aload_n 0, 1) := by decide +kernel
theorem dX5_reason_1 : decode cX5_reason 1 = .ok (.getfield 19, 3) := by decide +kernel
theorem dX5_reason_4 : decode cX5_reason 4 = .ok (.iload_n 1, 1) := by decide +kernel
theorem dX5_reason_5 : decode cX5_reason 5 = .ok (.iaload, 1) := by decide +kernel
theorem dX5_reason_6 : decode cX5_reason 6 = .ok (.istore_n 3, 1) := by decide +kernel
theorem dX5_reason_7 : decode cX5_reason 7 = .ok (.iload_n 2, 1) := by decide +kernel
theorem dX5_reason_8 : decode cX5_reason 8 = .ok (.ifCond .ne 9, 3) := by decide +kernel
theorem dX5_reason_11 : decode cX5_reason 11 = .ok (.aload_n 0, 1) := by decide +kernel
theorem dX5_reason_12 : decode cX5_reason 12 = .ok (.iload_n 1, 1) := by decide +kernel
theorem dX5_reason_13 : decode cX5_reason 13 = .ok (.invokevirtual 192, 3) := by decide +kernel
theorem dX5_reason_16 : decode cX5_reason 16 = .ok (.ireturn, 1) := by decide +kernel
theorem dX5_reason_17 : decode cX5_reason 17 = .ok (.aload_n 0, 1) := by decide +kernel
theorem dX5_reason_18 : decode cX5_reason 18 = .ok (.iload_n 3, 1) := by decide +kernel
theorem dX5_reason_19 : decode cX5_reason 19 = .ok (.invokevirtual 161, 3) := by decide +kernel
theorem dX5_reason_22 : decode cX5_reason 22 = .ok (.astore 4, 2) := by decide +kernel
theorem dX5_reason_24 : decode cX5_reason 24 = .ok (.aload 4, 2) := by decide +kernel
theorem dX5_reason_26 : decode cX5_reason 26 = .ok (.ifnull 8, 3) := by decide +kernel
theorem dX5_reason_29 : decode cX5_reason 29 = .ok (.iload_n 2, 1) := by decide +kernel
theorem dX5_reason_30 : decode cX5_reason 30 = .ok (.iconst 1, 1) := by decide +kernel
theorem dX5_reason_31 : decode cX5_reason 31 = .ok (.if_icmp .ge 5, 3) := by decide +kernel
theorem dX5_reason_34 : decode cX5_reason 34 = .ok (.iconst (-1), 1) := by decide +kernel
theorem dX5_reason_35 : decode cX5_reason 35 = .ok (.ireturn, 1) := by decide +kernel
theorem dX5_reason_36 : decode cX5_reason 36 = .ok (.iload_n 2, 1) := by decide +kernel
theorem dX5_reason_37 : decode cX5_reason 37 = .ok (.iconst 1, 1) := by decide +kernel
theorem dX5_reason_38 : decode cX5_reason 38 = .ok (.if_icmp .ne 8, 3) := by decide +kernel
theorem dX5_reason_41 : decode cX5_reason 41 = .ok (.iload_n 3, 1) := by decide +kernel
theorem dX5_reason_42 : decode cX5_reason 42 = .ok (.bipush 125, 2) := by decide +kernel
theorem dX5_reason_44 : decode cX5_reason 44 = .ok (.idiv, 1) := by decide +kernel
theorem dX5_reason_45 : decode cX5_reason 45 = .ok (.ireturn, 1) := by decide +kernel
theorem dX5_reason_46 : decode cX5_reason 46 = .ok (.iload_n 2, 1) := by decide +kernel
theorem dX5_reason_47 : decode cX5_reason 47 = .ok (.iconst 2, 1) := by decide +kernel
theorem dX5_reason_48 : decode cX5_reason 48 = .ok (.isub, 1) := by decide +kernel
theorem dX5_reason_49 : decode cX5_reason 49 = .ok (.aload 4, 2) := by decide +kernel
theorem dX5_reason_51 : decode cX5_reason 51 = .ok (.getfield 130, 3) := by decide +kernel
theorem dX5_reason_54 : decode cX5_reason 54 = .ok (.if_icmp .ge 18, 3) := by decide +kernel
theorem dX5_reason_57 : decode cX5_reason 57 = .ok (.aload_n 0, 1) := by decide +kernel
theorem dX5_reason_58 : decode cX5_reason 58 = .ok (.getfield 59, 3) := by decide +kernel
theorem dX5_reason_61 : decode cX5_reason 61 = .ok (.iconst 5, 1) := by decide +kernel
theorem dX5_reason_62 : decode cX5_reason 62 = .ok (.iload_n 2, 1) := by decide +kernel
theorem dX5_reason_63 : decode cX5_reason 63 = .ok (.iadd, 1) := by decide +kernel
theorem dX5_reason_64 : decode cX5_reason 64 = .ok (.iconst 2, 1) := by decide +kernel
theorem dX5_reason_65 : decode cX5_reason 65 = .ok (.isub, 1) := by decide +kernel
theorem dX5_reason_66 : decode cX5_reason 66 = .ok (.invokevirtual 195, 3) := by decide +kernel
theorem dX5_reason_69 : decode cX5_reason 69 = .ok (.goto 4, 3) := by decide +kernel
theorem dX5_reason_72 : decode cX5_reason 72 = .ok (.iconst (-1), 1) := by decide +kernel
theorem dX5_reason_73 : decode cX5_reason 73 = .ok (.ireturn, 1) := by decide +kernel
def fX5_reason_0  (h : PH) (x0 : Nat) (x1 : Int32) (x2 : Int32) : Option (PH × Int32) :=
  oC (decide (hT h x0 = 6)) (oN (hR h 647 x0) (fun a2 => oC (decide (hT h a2 = 101)) (oC (ix x1 (hN h a2)) (oL (hA h a2 (Int32.toNatClampNeg x1)) (fun y5 => if x2 = 0 then (oB (fX5_kindOfReason h x0 x1) (fun r22 => some (h, r22))) else (oB2 (fX5_bound h x0 y5) (fun h9 r8 => if r8 = none then (some (h9, (-1))) else (if 1 ≤ x2 then (if x2 = 1 then (some (h9, (y5 / 125))) else (oN r8 (fun a13 => oC (decide (hT h9 a13 = 9)) (if (hI h9 1026 a13) ≤ (x2 - 2) then (some (h9, (-1))) else (oC (decide (hT h9 x0 = 6)) (oN (hR h9 641 x0) (fun a17 => oC (decide (hT h9 a17 = 7)) (oB (fX6_personOf h9 a17 ((5 + x2) - 2)) (fun r20 => some (h9, r20)))))))))) else (some (h9, (-1)))))))))))
set_option maxHeartbeats 4000000 in
theorem wfX5_reason_0 {args : Array Value} (b : Bd p s m c cX5_reason 5 RX5 D aC) (hlk : meth.locks = false) (hr : meth.sig.returnType = some .int) {Z : State → Prop} (zs : Z s) (zk : ZOK Z (Rg ad)) {hz : PH} {rz : Int32} {h : PH} {x0 : Nat} {x1 : Int32} {x2 : Int32}  {H : Heap} {locs : List Loc} {ls : Array Slot} (hf : fX5_reason_0 h x0 x1 x2 = some (hz, rz)) (hE : CE (EX D aC ad h) (Rg ad) s H locs) (hl : lv_has ls 5 [(0, .ref (ad x0)), (1, .int x1), (2, .int x2)]) : W p l e (RM 3 71 0 0) s m args below meth c H locs 0 0 (MQ below (PQ (EX D aC ad hz) (Rg ad) (some (.int rz))) args s 0 0 (Rg ad)) (F0 m 0 ls []) := by
  unfold fX5_reason_0 at hf
  refine lv_aload_n b.1 b.2.1 dX5_reason_0 rfl (lv_at hl 0 rfl) ?_
  obtain ⟨t1, hf⟩ := oC_s hf
  have t1 := of_decide_eq_true t1
  refine gX5_19 (x := (some x0)) b hE rfl t1 dX5_reason_1 ?_
  refine lv_iload_n b.1 b.2.1 dX5_reason_4 rfl (lv_at hl 1 rfl) ?_
  obtain ⟨a2, ea2, hf⟩ := oN_s hf
  obtain ⟨t3, hf⟩ := oC_s hf
  have t3 := of_decide_eq_true t3
  obtain ⟨g4, hf⟩ := oC_s hf
  refine q_iald (x := (hR h 647 x0)) b hE ea2 t3 g4 dX5_reason_5 ?_
  obtain ⟨y5, ey5, hf⟩ := oL_s hf
  refine k_nmI ey5 ?_
  refine lv_istore_n (lv' := [(3, .int y5), (0, .ref (ad x0)), (1, .int x1), (2, .int x2)]) b.1 b.2.1 dX5_reason_6 rfl hl (by decide) rfl (fun ls hl => ?_)
  refine lv_iload_n b.1 b.2.1 dX5_reason_7 rfl (lv_at hl 3 rfl) ?_
  refine lv_if_ne (tgt := 17) b.1 b.2.1 dX5_reason_8 (by decide) (fun c6 => ?_) (fun c6 => ?_)
  · have hf := oI_f c6 hf
    refine lv_aload_n b.1 b.2.1 dX5_reason_17 rfl (lv_at hl 1 rfl) ?_
    refine lv_iload_n b.1 b.2.1 dX5_reason_18 rfl (lv_at hl 0 rfl) ?_
    obtain ⟨h9, r8, hc7, hf⟩ := oB2_s hf
    refine k_callV0 (C := RX5) b zs zk hE (CX5_bound l D aC ad zk hc7) mc_X5_bound (in5 35 rfl rfl) mi_X5_bound ms_X5_bound ini_RX5 ok_X5_bound (x_recv b hE (ci := 5) rfl (by decide) t1) ⟨Nat.le_of_ble_eq_true rfl, Nat.le_of_ble_eq_true rfl⟩ rfl hl.1 rfl (k_room _ (by exact Nat.le_of_ble_eq_true rfl)) ⟨Nat.le_refl _, Nat.le_refl _⟩ dX5_reason_19 (fun H locs hE => ?_)
    refine k_astore (x := Option.map ad r8) (lv' := [(4, va_rf (Option.map ad r8)), (3, .int y5), (0, .ref (ad x0)), (1, .int x1), (2, .int x2)]) b dX5_reason_22 hl (by decide) rfl (fun ls hl => ?_)
    have hl := lv_sub (l' := [(4, va_rf (Option.map ad r8)), (3, .int y5), (0, .ref (ad x0)), (2, .int x2)]) hl [0, 1, 2, 4] rfl
    refine k_aload (x := Option.map ad r8) b dX5_reason_24 (lv_at hl 0 rfl) ?_
    refine k_ifnull (x := Option.map ad r8) b dX5_reason_26 (tgt := 34) (by decide) (fun c10 => ?_) (fun c10 => ?_)
    · have hf := oI_t (Option.map_eq_none_iff.mp c10) hf
      refine lv_iconst (v := (-1)) b.1 b.2.1 dX5_reason_34 (by decide) ?_
      cases hf
      exact k_iret b hlk hr hE (Nat.le_refl _) (Nat.le_refl _) dX5_reason_35
    · have hf := oI_f (fun z => c10 (Option.map_eq_none_iff.mpr z)) hf
      refine lv_iload_n b.1 b.2.1 dX5_reason_29 rfl (lv_at hl 3 rfl) ?_
      refine lv_iconst (v := 1) b.1 b.2.1 dX5_reason_30 (by decide) ?_
      refine lv_icmp_ge (tgt := 36) b.1 b.2.1 dX5_reason_31 (by decide) (fun c11 => ?_) (fun c11 => ?_)
      · have hf := oI_t c11 hf
        refine lv_iload_n b.1 b.2.1 dX5_reason_36 rfl (lv_at hl 3 rfl) ?_
        refine lv_iconst (v := 1) b.1 b.2.1 dX5_reason_37 (by decide) ?_
        refine lv_icmp_ne (tgt := 46) b.1 b.2.1 dX5_reason_38 (by decide) (fun c12 => ?_) (fun c12 => ?_)
        · have hf := oI_f c12 hf
          refine lv_iload_n b.1 b.2.1 dX5_reason_46 rfl (lv_at hl 3 rfl) ?_
          refine lv_iconst (v := 2) b.1 b.2.1 dX5_reason_47 (by decide) ?_
          refine lv_isub b.1 b.2.1 dX5_reason_48 ?_
          refine k_aload (x := Option.map ad r8) b dX5_reason_49 (lv_at hl 0 rfl) ?_
          obtain ⟨a13, ea13, hf⟩ := oN_s hf
          obtain ⟨t14, hf⟩ := oC_s hf
          have t14 := of_decide_eq_true t14
          refine gX5_130 (x := r8) b hE ea13 t14 dX5_reason_51 ?_
          refine lv_icmp_ge (tgt := 72) b.1 b.2.1 dX5_reason_54 (by decide) (fun c15 => ?_) (fun c15 => ?_)
          · have hf := oI_t c15 hf
            refine lv_iconst (v := (-1)) b.1 b.2.1 dX5_reason_72 (by decide) ?_
            cases hf
            exact k_iret b hlk hr hE (Nat.le_refl _) (Nat.le_refl _) dX5_reason_73
          · have hf := oI_f c15 hf
            refine lv_aload_n b.1 b.2.1 dX5_reason_57 rfl (lv_at hl 2 rfl) ?_
            obtain ⟨t16, hf⟩ := oC_s hf
            have t16 := of_decide_eq_true t16
            refine gX5_59 (x := (some x0)) b hE rfl t16 dX5_reason_58 ?_
            refine lv_iconst (v := 5) b.1 b.2.1 dX5_reason_61 (by decide) ?_
            refine lv_iload_n b.1 b.2.1 dX5_reason_62 rfl (lv_at hl 3 rfl) ?_
            refine lv_iadd b.1 b.2.1 dX5_reason_63 ?_
            refine lv_iconst (v := 2) b.1 b.2.1 dX5_reason_64 (by decide) ?_
            refine lv_isub b.1 b.2.1 dX5_reason_65 ?_
            obtain ⟨a17, ea17, hf⟩ := oN_s hf
            obtain ⟨t18, hf⟩ := oC_s hf
            have t18 := of_decide_eq_true t18
            obtain ⟨r20, hc19, hf⟩ := oB_s hf
            refine k_stk [.int ((5 + x2) - 2)] ea17 ?_
            refine k_callV0 (C := RX6) b zs zk hE (CX6_personOf l D aC ad zk hc19) mc_X6_personOf (in5 15 rfl rfl) mi_X6_personOf ms_X6_personOf ini_RX6 ok_X6_personOf (x_recv b hE (ci := 6) rfl (by decide) t18) ⟨Nat.le_of_ble_eq_true rfl, Nat.le_of_ble_eq_true rfl⟩ rfl hl.1 rfl (k_room _ (by exact Nat.le_of_ble_eq_true rfl)) ⟨Nat.le_refl _, Nat.le_refl _⟩ dX5_reason_66 (fun H locs hE => ?_)
            refine lv_goto (tgt := 73) b.1 b.2.1 dX5_reason_69 (by decide) ?_
            cases hf
            exact k_iret b hlk hr hE (Nat.le_refl _) (Nat.le_refl _) dX5_reason_73
        · have hf := oI_t c12 hf
          refine lv_iload_n b.1 b.2.1 dX5_reason_41 rfl (lv_at hl 1 rfl) ?_
          refine lv_bipush (v := 125) b.1 b.2.1 dX5_reason_42 (by decide) ?_
          refine lv_idiv b.1 b.2.1 dX5_reason_44 (by decide) ?_
          cases hf
          exact k_iret b hlk hr hE (Nat.le_refl _) (Nat.le_refl _) dX5_reason_45
      · have hf := oI_f c11 hf
        refine lv_iconst (v := (-1)) b.1 b.2.1 dX5_reason_34 (by decide) ?_
        cases hf
        exact k_iret b hlk hr hE (Nat.le_refl _) (Nat.le_refl _) dX5_reason_35
  · have hf := oI_t c6 hf
    refine lv_aload_n b.1 b.2.1 dX5_reason_11 rfl (lv_at hl 1 rfl) ?_
    refine lv_iload_n b.1 b.2.1 dX5_reason_12 rfl (lv_at hl 2 rfl) ?_
    obtain ⟨r22, hc21, hf⟩ := oB_s hf
    refine k_callV0 (C := RX5) b zs zk hE (CX5_kindOfReason l D aC ad zk hc21) mc_X5_kindOfReason (in5 104 rfl rfl) mi_X5_kindOfReason ms_X5_kindOfReason ini_RX5 ok_X5_kindOfReason (x_recv b hE (ci := 5) rfl (by decide) t1) ⟨Nat.le_of_ble_eq_true rfl, Nat.le_of_ble_eq_true rfl⟩ rfl hl.1 rfl (k_room _ (by exact Nat.le_of_ble_eq_true rfl)) ⟨Nat.le_refl _, Nat.le_refl _⟩ dX5_reason_13 (fun H locs hE => ?_)
    cases hf
    exact k_iret b hlk hr hE (Nat.le_refl _) (Nat.le_refl _) dX5_reason_16
def fX5_reason (h : PH) (x0 : Nat) (x1 : Int32) (x2 : Int32) : Option (PH × Int32) := fX5_reason_0 h x0 x1 x2
set_option maxHeartbeats 4000000 in
theorem CX5_reason (l : Launch) (D : va_G) (aC : Nat → ClassId) (ad : Nat → Nat) {Z : State → Prop} (zk : ZOK Z (Rg ad)) {h : PH} {x0 : Nat} {x1 : Int32} {x2 : Int32} {hz : PH} {rz : Int32} (hf : fX5_reason h x0 x1 x2 = some (hz, rz)) : CM l D aC Z yX5_reason cX5_reason 5 (some .int) 3 71 0 0 (EX D aC ad h) [.ref (ad x0), .int x1, .int x2] (EX D aC ad hz) (some (.int rz)) (Rg ad) := by
  refine CM.of rfl ?_
  intro p e s m below meth c b hr hlk hin2 zs hE
  refine k_ent (Nat.le_of_ble_eq_true rfl) (fun ls hl => ?_)
  exact wfX5_reason_0 b hlk hr zs zk hf hE (lv_sub hl [0, 1, 2] rfl)
theorem dX5_amount_0 : decode cX5_amount 0 = .ok (.iload_n 1, 1) := by decide +kernel
theorem dX5_amount_1 : decode cX5_amount 1 = .ok (.ifCond .lt 23, 3) := by decide +kernel
theorem dX5_amount_4 : decode cX5_amount 4 = .ok (.iload_n 1, 1) := by decide +kernel
theorem dX5_amount_5 : decode cX5_amount 5 = .ok (.aload_n 0, 1) := by decide +kernel
theorem dX5_amount_6 : decode cX5_amount 6 = .ok (.getfield 85, 3) := by decide +kernel
theorem dX5_amount_9 : decode cX5_amount 9 = .ok (.if_icmp .ge 15, 3) := by decide +kernel
theorem dX5_amount_12 : decode cX5_amount 12 = .ok (.iload_n 2, 1) := by decide +kernel
theorem dX5_amount_13 : decode cX5_amount 13 = .ok (.ifCond .lt 11, 3) := by decide +kernel
theorem dX5_amount_16 : decode cX5_amount 16 = .ok (.iload_n 2, 1) := by decide +kernel
theorem dX5_amount_17 : decode cX5_amount 17 = .ok (.aload_n 0, 1) := by decide +kernel
theorem dX5_amount_18 : decode cX5_amount 18 = .ok (.getfield 75, 3) := by decide +kernel
theorem dX5_amount_21 : decode cX5_amount 21 = .ok (.if_icmp .lt 7, 3) := by decide +kernel
theorem dX5_amount_24 : decode cX5_amount 24 = .ok (.ldc2_w 198, 3) := by decide +kernel
theorem dX5_amount_27 : decode cX5_amount 27 = .ok (.lreturn, 1) := by decide +kernel
theorem dX5_amount_28 : decode cX5_amount 28 = .ok (.iload_n 1, 1) := by decide +kernel
theorem dX5_amount_29 : decode cX5_amount 29 = .ok (.iconst 5, 1) := by decide +kernel
theorem dX5_amount_30 : decode cX5_amount 30 = .ok (.imul, 1) := by decide +kernel
theorem dX5_amount_31 : decode cX5_amount 31 = .ok (.iload_n 2, 1) := by decide +kernel
theorem dX5_amount_32 : decode cX5_amount 32 = .ok (.iadd, 1) := by decide +kernel
theorem dX5_amount_33 : decode cX5_amount 33 = .ok (.istore 4, 2) := by decide +kernel
theorem dX5_amount_35 : decode cX5_amount 35 = .ok (.iload_n 3, 1) := by decide +kernel
theorem dX5_amount_36 : decode cX5_amount 36 = .ok (.tableswitch 85 0 3 #[32, 42, 54, 63], 32) := by decide +kernel
theorem dX5_amount_68 : decode cX5_amount 68 = .ok (.aload_n 0, 1) := by decide +kernel
theorem dX5_amount_69 : decode cX5_amount 69 = .ok (.getfield 46, 3) := by decide +kernel
theorem dX5_amount_72 : decode cX5_amount 72 = .ok (.iload 4, 2) := by decide +kernel
theorem dX5_amount_74 : decode cX5_amount 74 = .ok (.iconst 2, 1) := by decide +kernel
theorem dX5_amount_75 : decode cX5_amount 75 = .ok (.imul, 1) := by decide +kernel
theorem dX5_amount_76 : decode cX5_amount 76 = .ok (.laload, 1) := by decide +kernel
theorem dX5_amount_77 : decode cX5_amount 77 = .ok (.lreturn, 1) := by decide +kernel
theorem dX5_amount_78 : decode cX5_amount 78 = .ok (.aload_n 0, 1) := by decide +kernel
theorem dX5_amount_79 : decode cX5_amount 79 = .ok (.getfield 46, 3) := by decide +kernel
theorem dX5_amount_82 : decode cX5_amount 82 = .ok (.iload 4, 2) := by decide +kernel
theorem dX5_amount_84 : decode cX5_amount 84 = .ok (.iconst 2, 1) := by decide +kernel
theorem dX5_amount_85 : decode cX5_amount 85 = .ok (.imul, 1) := by decide +kernel
theorem dX5_amount_86 : decode cX5_amount 86 = .ok (.iconst 1, 1) := by decide +kernel
theorem dX5_amount_87 : decode cX5_amount 87 = .ok (.iadd, 1) := by decide +kernel
theorem dX5_amount_88 : decode cX5_amount 88 = .ok (.laload, 1) := by decide +kernel
theorem dX5_amount_89 : decode cX5_amount 89 = .ok (.lreturn, 1) := by decide +kernel
theorem dX5_amount_90 : decode cX5_amount 90 = .ok (.aload_n 0, 1) := by decide +kernel
theorem dX5_amount_91 : decode cX5_amount 91 = .ok (.getfield 43, 3) := by decide +kernel
theorem dX5_amount_94 : decode cX5_amount 94 = .ok (.iload 4, 2) := by decide +kernel
theorem dX5_amount_96 : decode cX5_amount 96 = .ok (.iaload, 1) := by decide +kernel
theorem dX5_amount_97 : decode cX5_amount 97 = .ok (.i2l, 1) := by decide +kernel
theorem dX5_amount_98 : decode cX5_amount 98 = .ok (.lreturn, 1) := by decide +kernel
theorem dX5_amount_99 : decode cX5_amount 99 = .ok (.aload_n 0, 1) := by decide +kernel
theorem dX5_amount_100 : decode cX5_amount 100 = .ok (.getfield 46, 3) := by decide +kernel
theorem dX5_amount_103 : decode cX5_amount 103 = .ok (.iload 4, 2) := by decide +kernel
theorem dX5_amount_105 : decode cX5_amount 105 = .ok (.iconst 2, 1) := by decide +kernel
theorem dX5_amount_106 : decode cX5_amount 106 = .ok (.imul, 1) := by decide +kernel
theorem dX5_amount_107 : decode cX5_amount 107 = .ok (.iconst 1, 1) := by decide +kernel
theorem dX5_amount_108 : decode cX5_amount 108 = .ok (.iadd, 1) := by decide +kernel
theorem dX5_amount_109 : decode cX5_amount 109 = .ok (.laload, 1) := by decide +kernel
theorem dX5_amount_110 : decode cX5_amount 110 = .ok (.lconst 0, 1) := by decide +kernel
theorem dX5_amount_111 : decode cX5_amount 111 = .ok (.lcmp, 1) := by decide +kernel
theorem dX5_amount_112 : decode cX5_amount 112 = .ok (.ifCond .ne 7, 3) := by decide +kernel
theorem dX5_amount_115 : decode cX5_amount 115 = .ok (.lconst 1, 1) := by decide +kernel
theorem dX5_amount_116 : decode cX5_amount 116 = .ok (.goto 4, 3) := by decide +kernel
theorem dX5_amount_119 : decode cX5_amount 119 = .ok (.lconst 0, 1) := by decide +kernel
theorem dX5_amount_120 : decode cX5_amount 120 = .ok (.lreturn, 1) := by decide +kernel
theorem dX5_amount_121 : decode cX5_amount 121 = .ok (.ldc2_w 198, 3) := by decide +kernel
theorem dX5_amount_124 : decode cX5_amount 124 = .ok (.lreturn, 1) := by decide +kernel
def fX5_amount_24  (h : PH) : Option (Int64) :=
  some ((-1))
set_option maxHeartbeats 4000000 in
theorem wfX5_amount_24 {args : Array Value} (b : Bd p s m c cX5_amount 5 RX5 D aC) (hlk : meth.locks = false) (hr : meth.sig.returnType = some .long) {Z : State → Prop} (zs : Z s) (zk : ZOK Z (Rg ad)) {rz : Int64} {h : PH}  {H : Heap} {locs : List Loc} {ls : Array Slot} (hf : fX5_amount_24 h = some rz) (hE : CE (EX D aC ad h) (Rg ad) s H locs) (hl : lv_has ls 5 []) : W p l e (RM 0 0 0 0) s m args below meth c H locs 0 0 (MQ below (PQ (EX D aC ad h) (Rg ad) (some (.long rz))) args s 0 0 (Rg ad)) (F0 m 24 ls []) := by
  unfold fX5_amount_24 at hf
  refine k_ldc2 (v := (-1)) b (in5 117 rfl rfl) dX5_amount_24 ?_
  cases hf
  exact k_lret b hlk hr hE (Nat.le_refl _) (Nat.le_refl _) dX5_amount_27
def fX5_amount_0  (h : PH) (x0 : Nat) (x1 : Int32) (x2 : Int32) (x3 : Int32) : Option (Int64) :=
  if x1 < 0 then (fX5_amount_24  h) else (oC (decide (hT h x0 = 6)) (if (hI h 644 x0) ≤ x1 then (fX5_amount_24  h) else (if x2 < 0 then (fX5_amount_24  h) else (if x2 < (hI h 642 x0) then (oL ((x1 * 5) + x2) (fun y6 => if x3 = 0 then (oN (hR h 658 x0) (fun a8 => oC (decide (hT h a8 = 102)) (oC (ix (y6 * 2) (hN h a8)) (some ((hB h a8 (Int32.toNatClampNeg (y6 * 2)))))))) else (if x3 = 1 then (oN (hR h 658 x0) (fun a12 => oC (decide (hT h a12 = 102)) (oC (ix ((y6 * 2) + 1) (hN h a12)) (some ((hB h a12 (Int32.toNatClampNeg ((y6 * 2) + 1)))))))) else (if x3 = 2 then (oN (hR h 657 x0) (fun a16 => oC (decide (hT h a16 = 101)) (oC (ix y6 (hN h a16)) (some ((Int32.toInt64 (hA h a16 (Int32.toNatClampNeg y6)))))))) else (if x3 = 3 then (oN (hR h 658 x0) (fun a20 => oC (decide (hT h a20 = 102)) (oC (ix ((y6 * 2) + 1) (hN h a20)) (if (lg_cmp (hB h a20 (Int32.toNatClampNeg ((y6 * 2) + 1))) 0) = 0 then (some (1)) else (some (0)))))) else (some ((-1)))))))) else (fX5_amount_24  h)))))
set_option maxHeartbeats 4000000 in
theorem wfX5_amount_0 {args : Array Value} (b : Bd p s m c cX5_amount 5 RX5 D aC) (hlk : meth.locks = false) (hr : meth.sig.returnType = some .long) {Z : State → Prop} (zs : Z s) (zk : ZOK Z (Rg ad)) {rz : Int64} {h : PH} {x0 : Nat} {x1 : Int32} {x2 : Int32} {x3 : Int32}  {H : Heap} {locs : List Loc} {ls : Array Slot} (hf : fX5_amount_0 h x0 x1 x2 x3 = some rz) (hE : CE (EX D aC ad h) (Rg ad) s H locs) (hl : lv_has ls 5 [(0, .ref (ad x0)), (1, .int x1), (2, .int x2), (3, .int x3)]) : W p l e (RM 0 0 0 0) s m args below meth c H locs 0 0 (MQ below (PQ (EX D aC ad h) (Rg ad) (some (.long rz))) args s 0 0 (Rg ad)) (F0 m 0 ls []) := by
  unfold fX5_amount_0 at hf
  refine lv_iload_n b.1 b.2.1 dX5_amount_0 rfl (lv_at hl 1 rfl) ?_
  refine lv_if_lt (tgt := 24) b.1 b.2.1 dX5_amount_1 (by decide) (fun c1 => ?_) (fun c1 => ?_)
  · have hf := oI_t c1 hf
    exact wfX5_amount_24 b hlk hr zs zk  hf hE (lv_sub hl [] rfl)
  · have hf := oI_f c1 hf
    refine lv_iload_n b.1 b.2.1 dX5_amount_4 rfl (lv_at hl 1 rfl) ?_
    refine lv_aload_n b.1 b.2.1 dX5_amount_5 rfl (lv_at hl 0 rfl) ?_
    obtain ⟨t2, hf⟩ := oC_s hf
    have t2 := of_decide_eq_true t2
    refine gX5_85 (x := (some x0)) b hE rfl t2 dX5_amount_6 ?_
    refine lv_icmp_ge (tgt := 24) b.1 b.2.1 dX5_amount_9 (by decide) (fun c3 => ?_) (fun c3 => ?_)
    · have hf := oI_t c3 hf
      exact wfX5_amount_24 b hlk hr zs zk  hf hE (lv_sub hl [] rfl)
    · have hf := oI_f c3 hf
      refine lv_iload_n b.1 b.2.1 dX5_amount_12 rfl (lv_at hl 2 rfl) ?_
      refine lv_if_lt (tgt := 24) b.1 b.2.1 dX5_amount_13 (by decide) (fun c4 => ?_) (fun c4 => ?_)
      · have hf := oI_t c4 hf
        exact wfX5_amount_24 b hlk hr zs zk  hf hE (lv_sub hl [] rfl)
      · have hf := oI_f c4 hf
        refine lv_iload_n b.1 b.2.1 dX5_amount_16 rfl (lv_at hl 2 rfl) ?_
        refine lv_aload_n b.1 b.2.1 dX5_amount_17 rfl (lv_at hl 0 rfl) ?_
        refine gX5_75 (x := (some x0)) b hE rfl t2 dX5_amount_18 ?_
        refine lv_icmp_lt (tgt := 28) b.1 b.2.1 dX5_amount_21 (by decide) (fun c5 => ?_) (fun c5 => ?_)
        · have hf := oI_t c5 hf
          refine lv_iload_n b.1 b.2.1 dX5_amount_28 rfl (lv_at hl 1 rfl) ?_
          refine lv_iconst (v := 5) b.1 b.2.1 dX5_amount_29 (by decide) ?_
          refine lv_imul b.1 b.2.1 dX5_amount_30 ?_
          refine lv_iload_n b.1 b.2.1 dX5_amount_31 rfl (lv_at hl 2 rfl) ?_
          refine lv_iadd b.1 b.2.1 dX5_amount_32 ?_
          obtain ⟨y6, ey6, hf⟩ := oL_s hf
          refine k_nmI ey6 ?_
          refine lv_istore (lv' := [(4, .int y6), (0, .ref (ad x0)), (1, .int x1), (2, .int x2), (3, .int x3)]) b.1 b.2.1 dX5_amount_33 hl (by decide) rfl (fun ls hl => ?_)
          have hl := lv_sub (l' := [(4, .int y6), (0, .ref (ad x0)), (3, .int x3)]) hl [0, 1, 4] rfl
          refine lv_iload_n b.1 b.2.1 dX5_amount_35 rfl (lv_at hl 2 rfl) ?_
          rcases Decidable.em (x3 = 0) with c7 | c7
          · have hf := oI_t c7 hf
            refine lv_tableIn (tgt := 68) b.1 b.2.1 dX5_amount_36 (off := 32) (by rw [c7]; decide) (by rw [c7]; decide) (by rw [c7] <;> rfl) (by decide) ?_
            refine lv_aload_n b.1 b.2.1 dX5_amount_68 rfl (lv_at hl 1 rfl) ?_
            refine gX5_46 (x := (some x0)) b hE rfl t2 dX5_amount_69 ?_
            refine lv_iload b.1 b.2.1 dX5_amount_72 (lv_at hl 0 rfl) ?_
            refine lv_iconst (v := 2) b.1 b.2.1 dX5_amount_74 (by decide) ?_
            refine lv_imul b.1 b.2.1 dX5_amount_75 ?_
            obtain ⟨a8, ea8, hf⟩ := oN_s hf
            obtain ⟨t9, hf⟩ := oC_s hf
            have t9 := of_decide_eq_true t9
            obtain ⟨g10, hf⟩ := oC_s hf
            refine q_lald (x := (hR h 658 x0)) b hE ea8 t9 g10 dX5_amount_76 ?_
            cases hf
            exact k_lret b hlk hr hE (Nat.le_refl _) (Nat.le_refl _) dX5_amount_77
          have hf := oI_f c7 hf
          rcases Decidable.em (x3 = 1) with c11 | c11
          · have hf := oI_t c11 hf
            refine lv_tableIn (tgt := 78) b.1 b.2.1 dX5_amount_36 (off := 42) (by rw [c11]; decide) (by rw [c11]; decide) (by rw [c11] <;> rfl) (by decide) ?_
            refine lv_aload_n b.1 b.2.1 dX5_amount_78 rfl (lv_at hl 1 rfl) ?_
            refine gX5_46 (x := (some x0)) b hE rfl t2 dX5_amount_79 ?_
            refine lv_iload b.1 b.2.1 dX5_amount_82 (lv_at hl 0 rfl) ?_
            refine lv_iconst (v := 2) b.1 b.2.1 dX5_amount_84 (by decide) ?_
            refine lv_imul b.1 b.2.1 dX5_amount_85 ?_
            refine lv_iconst (v := 1) b.1 b.2.1 dX5_amount_86 (by decide) ?_
            refine lv_iadd b.1 b.2.1 dX5_amount_87 ?_
            obtain ⟨a12, ea12, hf⟩ := oN_s hf
            obtain ⟨t13, hf⟩ := oC_s hf
            have t13 := of_decide_eq_true t13
            obtain ⟨g14, hf⟩ := oC_s hf
            refine q_lald (x := (hR h 658 x0)) b hE ea12 t13 g14 dX5_amount_88 ?_
            cases hf
            exact k_lret b hlk hr hE (Nat.le_refl _) (Nat.le_refl _) dX5_amount_89
          have hf := oI_f c11 hf
          rcases Decidable.em (x3 = 2) with c15 | c15
          · have hf := oI_t c15 hf
            refine lv_tableIn (tgt := 90) b.1 b.2.1 dX5_amount_36 (off := 54) (by rw [c15]; decide) (by rw [c15]; decide) (by rw [c15] <;> rfl) (by decide) ?_
            refine lv_aload_n b.1 b.2.1 dX5_amount_90 rfl (lv_at hl 1 rfl) ?_
            refine gX5_43 (x := (some x0)) b hE rfl t2 dX5_amount_91 ?_
            refine lv_iload b.1 b.2.1 dX5_amount_94 (lv_at hl 0 rfl) ?_
            obtain ⟨a16, ea16, hf⟩ := oN_s hf
            obtain ⟨t17, hf⟩ := oC_s hf
            have t17 := of_decide_eq_true t17
            obtain ⟨g18, hf⟩ := oC_s hf
            refine q_iald (x := (hR h 657 x0)) b hE ea16 t17 g18 dX5_amount_96 ?_
            refine lv_i2l b.1 b.2.1 dX5_amount_97 rfl ?_
            cases hf
            exact k_lret b hlk hr hE (Nat.le_refl _) (Nat.le_refl _) dX5_amount_98
          have hf := oI_f c15 hf
          rcases Decidable.em (x3 = 3) with c19 | c19
          · have hf := oI_t c19 hf
            refine lv_tableIn (tgt := 99) b.1 b.2.1 dX5_amount_36 (off := 63) (by rw [c19]; decide) (by rw [c19]; decide) (by rw [c19] <;> rfl) (by decide) ?_
            refine lv_aload_n b.1 b.2.1 dX5_amount_99 rfl (lv_at hl 1 rfl) ?_
            refine gX5_46 (x := (some x0)) b hE rfl t2 dX5_amount_100 ?_
            refine lv_iload b.1 b.2.1 dX5_amount_103 (lv_at hl 0 rfl) ?_
            refine lv_iconst (v := 2) b.1 b.2.1 dX5_amount_105 (by decide) ?_
            refine lv_imul b.1 b.2.1 dX5_amount_106 ?_
            refine lv_iconst (v := 1) b.1 b.2.1 dX5_amount_107 (by decide) ?_
            refine lv_iadd b.1 b.2.1 dX5_amount_108 ?_
            obtain ⟨a20, ea20, hf⟩ := oN_s hf
            obtain ⟨t21, hf⟩ := oC_s hf
            have t21 := of_decide_eq_true t21
            obtain ⟨g22, hf⟩ := oC_s hf
            refine q_lald (x := (hR h 658 x0)) b hE ea20 t21 g22 dX5_amount_109 ?_
            refine lv_lconst (v := 0) b.1 b.2.1 dX5_amount_110 rfl ?_
            refine W.lcmp b.1 b.2.1 dX5_amount_111 ?_
            refine lv_if_ne (tgt := 119) b.1 b.2.1 dX5_amount_112 (by decide) (fun c23 => ?_) (fun c23 => ?_)
            · have hf := oI_f c23 hf
              refine lv_lconst (v := 0) b.1 b.2.1 dX5_amount_119 rfl ?_
              cases hf
              exact k_lret b hlk hr hE (Nat.le_refl _) (Nat.le_refl _) dX5_amount_120
            · have hf := oI_t c23 hf
              refine lv_lconst (v := 1) b.1 b.2.1 dX5_amount_115 rfl ?_
              refine lv_goto (tgt := 120) b.1 b.2.1 dX5_amount_116 (by decide) ?_
              cases hf
              exact k_lret b hlk hr hE (Nat.le_refl _) (Nat.le_refl _) dX5_amount_120
          have hf := oI_f c19 hf
          have c7 := lv_neT (a := 0) c7 (by decide)
          have c11 := lv_neT (a := 1) c11 (by decide)
          have c15 := lv_neT (a := 2) c15 (by decide)
          have c19 := lv_neT (a := 3) c19 (by decide)
          refine lv_tableOut (tgt := 121) b.1 b.2.1 dX5_amount_36 (by omega) (by decide) ?_
          refine k_ldc2 (v := (-1)) b (in5 117 rfl rfl) dX5_amount_121 ?_
          cases hf
          exact k_lret b hlk hr hE (Nat.le_refl _) (Nat.le_refl _) dX5_amount_124
        · have hf := oI_f c5 hf
          exact wfX5_amount_24 b hlk hr zs zk  hf hE (lv_sub hl [] rfl)
def fX5_amount (h : PH) (x0 : Nat) (x1 : Int32) (x2 : Int32) (x3 : Int32) : Option (Int64) := fX5_amount_0 h x0 x1 x2 x3
set_option maxHeartbeats 4000000 in
theorem CX5_amount (l : Launch) (D : va_G) (aC : Nat → ClassId) (ad : Nat → Nat) {Z : State → Prop} (zk : ZOK Z (Rg ad)) {h : PH} {x0 : Nat} {x1 : Int32} {x2 : Int32} {x3 : Int32} {rz : Int64} (hf : fX5_amount h x0 x1 x2 x3 = some rz) : CM l D aC Z yX5_amount cX5_amount 5 (some .long) 0 0 0 0 (EX D aC ad h) [.ref (ad x0), .int x1, .int x2, .int x3] (EX D aC ad h) (some (.long rz)) (Rg ad) := by
  refine CM.of rfl ?_
  intro p e s m below meth c b hr hlk hin2 zs hE
  refine k_ent (Nat.le_of_ble_eq_true rfl) (fun ls hl => ?_)
  exact wfX5_amount_0 b hlk hr zs zk hf hE (lv_sub hl [0, 1, 2, 3] rfl)
theorem dX7_nameAt_0 : decode cX7_nameAt 0 = .ok (.iload_n 1, 1) := by decide +kernel
theorem dX7_nameAt_1 : decode cX7_nameAt 1 = .ok (.ifCond .lt 20, 3) := by decide +kernel
theorem dX7_nameAt_4 : decode cX7_nameAt 4 = .ok (.iload_n 1, 1) := by decide +kernel
theorem dX7_nameAt_5 : decode cX7_nameAt 5 = .ok (.aload_n 0, 1) := by decide +kernel
theorem dX7_nameAt_6 : decode cX7_nameAt 6 = .ok (.getfield 21, 3) := by decide +kernel
theorem dX7_nameAt_9 : decode cX7_nameAt 9 = .ok (.if_icmp .ge 12, 3) := by decide +kernel
theorem dX7_nameAt_12 : decode cX7_nameAt 12 = .ok (.aload_n 0, 1) := by decide +kernel
theorem dX7_nameAt_13 : decode cX7_nameAt 13 = .ok (.getfield 15, 3) := by decide +kernel
theorem dX7_nameAt_16 : decode cX7_nameAt 16 = .ok (.iload_n 1, 1) := by decide +kernel
theorem dX7_nameAt_17 : decode cX7_nameAt 17 = .ok (.laload, 1) := by decide +kernel
theorem dX7_nameAt_18 : decode cX7_nameAt 18 = .ok (.goto 4, 3) := by decide +kernel
theorem dX7_nameAt_21 : decode cX7_nameAt 21 = .ok (.lconst 0, 1) := by decide +kernel
theorem dX7_nameAt_22 : decode cX7_nameAt 22 = .ok (.lreturn, 1) := by decide +kernel
def fX7_nameAt_0  (h : PH) (x0 : Nat) (x1 : Int32) : Option (Int64) :=
  if x1 < 0 then (some (0)) else (oC (decide (hT h x0 = 8)) (if (hI h 897 x0) ≤ x1 then (some (0)) else (oN (hR h 896 x0) (fun a4 => oC (decide (hT h a4 = 102)) (oC (ix x1 (hN h a4)) (some ((hB h a4 (Int32.toNatClampNeg x1)))))))))
set_option maxHeartbeats 4000000 in
theorem wfX7_nameAt_0 {args : Array Value} (b : Bd p s m c cX7_nameAt 2 RX7 D aC) (hlk : meth.locks = false) (hr : meth.sig.returnType = some .long) {Z : State → Prop} (zs : Z s) (zk : ZOK Z (Rg ad)) {rz : Int64} {h : PH} {x0 : Nat} {x1 : Int32}  {H : Heap} {locs : List Loc} {ls : Array Slot} (hf : fX7_nameAt_0 h x0 x1 = some rz) (hE : CE (EX D aC ad h) (Rg ad) s H locs) (hl : lv_has ls 2 [(0, .ref (ad x0)), (1, .int x1)]) : W p l e (RM 0 0 0 0) s m args below meth c H locs 0 0 (MQ below (PQ (EX D aC ad h) (Rg ad) (some (.long rz))) args s 0 0 (Rg ad)) (F0 m 0 ls []) := by
  unfold fX7_nameAt_0 at hf
  refine lv_iload_n b.1 b.2.1 dX7_nameAt_0 rfl (lv_at hl 1 rfl) ?_
  refine lv_if_lt (tgt := 21) b.1 b.2.1 dX7_nameAt_1 (by decide) (fun c1 => ?_) (fun c1 => ?_)
  · have hf := oI_t c1 hf
    refine lv_lconst (v := 0) b.1 b.2.1 dX7_nameAt_21 rfl ?_
    cases hf
    exact k_lret b hlk hr hE (Nat.le_refl _) (Nat.le_refl _) dX7_nameAt_22
  · have hf := oI_f c1 hf
    refine lv_iload_n b.1 b.2.1 dX7_nameAt_4 rfl (lv_at hl 1 rfl) ?_
    refine lv_aload_n b.1 b.2.1 dX7_nameAt_5 rfl (lv_at hl 0 rfl) ?_
    obtain ⟨t2, hf⟩ := oC_s hf
    have t2 := of_decide_eq_true t2
    refine gX7_21 (x := (some x0)) b hE rfl t2 dX7_nameAt_6 ?_
    refine lv_icmp_ge (tgt := 21) b.1 b.2.1 dX7_nameAt_9 (by decide) (fun c3 => ?_) (fun c3 => ?_)
    · have hf := oI_t c3 hf
      refine lv_lconst (v := 0) b.1 b.2.1 dX7_nameAt_21 rfl ?_
      cases hf
      exact k_lret b hlk hr hE (Nat.le_refl _) (Nat.le_refl _) dX7_nameAt_22
    · have hf := oI_f c3 hf
      refine lv_aload_n b.1 b.2.1 dX7_nameAt_12 rfl (lv_at hl 0 rfl) ?_
      refine gX7_15 (x := (some x0)) b hE rfl t2 dX7_nameAt_13 ?_
      refine lv_iload_n b.1 b.2.1 dX7_nameAt_16 rfl (lv_at hl 1 rfl) ?_
      obtain ⟨a4, ea4, hf⟩ := oN_s hf
      obtain ⟨t5, hf⟩ := oC_s hf
      have t5 := of_decide_eq_true t5
      obtain ⟨g6, hf⟩ := oC_s hf
      refine q_lald (x := (hR h 896 x0)) b hE ea4 t5 g6 dX7_nameAt_17 ?_
      refine lv_goto (tgt := 22) b.1 b.2.1 dX7_nameAt_18 (by decide) ?_
      cases hf
      exact k_lret b hlk hr hE (Nat.le_refl _) (Nat.le_refl _) dX7_nameAt_22
def fX7_nameAt (h : PH) (x0 : Nat) (x1 : Int32) : Option (Int64) := fX7_nameAt_0 h x0 x1
set_option maxHeartbeats 4000000 in
theorem CX7_nameAt (l : Launch) (D : va_G) (aC : Nat → ClassId) (ad : Nat → Nat) {Z : State → Prop} (zk : ZOK Z (Rg ad)) {h : PH} {x0 : Nat} {x1 : Int32} {rz : Int64} (hf : fX7_nameAt h x0 x1 = some rz) : CM l D aC Z yX7_nameAt cX7_nameAt 2 (some .long) 0 0 0 0 (EX D aC ad h) [.ref (ad x0), .int x1] (EX D aC ad h) (some (.long rz)) (Rg ad) := by
  refine CM.of rfl ?_
  intro p e s m below meth c b hr hlk hin2 zs hE
  refine k_ent (Nat.le_of_ble_eq_true rfl) (fun ls hl => ?_)
  exact wfX7_nameAt_0 b hlk hr zs zk hf hE (lv_sub hl [0, 1] rfl)
end
