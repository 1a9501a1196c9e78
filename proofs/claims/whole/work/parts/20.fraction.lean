section
variable {p : Program} {l : Launch} {e : Env} {s : State} {m : MethodId} {below : List Frame} {meth : Method} {c : Code} {D : va_G} {aC : Nat → ClassId} {ad : Nat → Nat}
theorem dJ13_compare_74951_0 : decode cJ13_compare_74951 0 = .ok (.lload_n 0, 1) := by decide +kernel
theorem dJ13_compare_74951_1 : decode cJ13_compare_74951 1 = .ok (.lload_n 2, 1) := by decide +kernel
theorem dJ13_compare_74951_2 : decode cJ13_compare_74951 2 = .ok (.lcmp, 1) := by decide +kernel
theorem dJ13_compare_74951_3 : decode cJ13_compare_74951 3 = .ok (.ifCond .ge 7, 3) := by decide +kernel
theorem dJ13_compare_74951_6 : decode cJ13_compare_74951 6 = .ok (.iconst (-1), 1) := by decide +kernel
theorem dJ13_compare_74951_7 : decode cJ13_compare_74951 7 = .ok (.goto 14, 3) := by decide +kernel
theorem dJ13_compare_74951_10 : decode cJ13_compare_74951 10 = .ok (.lload_n 0, 1) := by decide +kernel
theorem dJ13_compare_74951_11 : decode cJ13_compare_74951 11 = .ok (.lload_n 2, 1) := by decide +kernel
theorem dJ13_compare_74951_12 : decode cJ13_compare_74951 12 = .ok (.lcmp, 1) := by decide +kernel
theorem dJ13_compare_74951_13 : decode cJ13_compare_74951 13 = .ok (.ifCond .ne 7, 3) := by decide +kernel
theorem dJ13_compare_74951_16 : decode cJ13_compare_74951 16 = .ok (.iconst 0, 1) := by decide +kernel
theorem dJ13_compare_74951_17 : decode cJ13_compare_74951 17 = .ok (.goto 4, 3) := by decide +kernel
theorem dJ13_compare_74951_20 : decode cJ13_compare_74951 20 = .ok (.iconst 1, 1) := by decide +kernel
theorem dJ13_compare_74951_21 : decode cJ13_compare_74951 21 = .ok (.ireturn, 1) := by decide +kernel
def fJ13_compare_74951_0  (x0 : Int64) (x2 : Int64) : Option (Int32) :=
  if 0 ≤ (lg_cmp x0 x2) then (if (lg_cmp x0 x2) = 0 then (some (0)) else (some (1))) else (some ((-1)))
set_option maxHeartbeats 4000000 in
theorem wfJ13_compare_74951_0 {E : Heap → Prop} {A : Nat → Prop} {args : Array Value} (b : Bd p s m c cJ13_compare_74951 4 RJ13 D aC) (hlk : meth.locks = false) (hr : meth.sig.returnType = some .int) {Z : State → Prop} (zs : Z s) (hZ : ZOK Z A) {rz : Int32} {x0 : Int64} {x2 : Int64}  {H : Heap} {locs : List Loc} {ls : Array Slot} (hf : fJ13_compare_74951_0 x0 x2 = some rz) (hE : CE E A s H locs) (hl : lv_has ls 4 [(0, .long x0), (2, .long x2)]) : W p l e (RM 0 0 0 0) s m args below meth c H locs 0 0 (MQ below (PQ E A (some (.int rz))) args s 0 0 A) (F0 m 0 ls []) := by
  unfold fJ13_compare_74951_0 at hf
  refine lv_lload_n b.1 b.2.1 dJ13_compare_74951_0 rfl (lv_at hl 0 rfl) ?_
  refine lv_lload_n b.1 b.2.1 dJ13_compare_74951_1 rfl (lv_at hl 1 rfl) ?_
  refine W.lcmp b.1 b.2.1 dJ13_compare_74951_2 ?_
  refine lv_if_ge (tgt := 10) b.1 b.2.1 dJ13_compare_74951_3 (by decide) (fun c1 => ?_) (fun c1 => ?_)
  · have hf := oI_t c1 hf
    refine lv_lload_n b.1 b.2.1 dJ13_compare_74951_10 rfl (lv_at hl 0 rfl) ?_
    refine lv_lload_n b.1 b.2.1 dJ13_compare_74951_11 rfl (lv_at hl 1 rfl) ?_
    refine W.lcmp b.1 b.2.1 dJ13_compare_74951_12 ?_
    refine lv_if_ne (tgt := 20) b.1 b.2.1 dJ13_compare_74951_13 (by decide) (fun c2 => ?_) (fun c2 => ?_)
    · have hf := oI_f c2 hf
      refine lv_iconst (v := 1) b.1 b.2.1 dJ13_compare_74951_20 (by decide) ?_
      cases hf
      exact k_iret b hlk hr hE (Nat.le_refl _) (Nat.le_refl _) dJ13_compare_74951_21
    · have hf := oI_t c2 hf
      refine lv_iconst (v := 0) b.1 b.2.1 dJ13_compare_74951_16 (by decide) ?_
      refine lv_goto (tgt := 21) b.1 b.2.1 dJ13_compare_74951_17 (by decide) ?_
      cases hf
      exact k_iret b hlk hr hE (Nat.le_refl _) (Nat.le_refl _) dJ13_compare_74951_21
  · have hf := oI_f c1 hf
    refine lv_iconst (v := (-1)) b.1 b.2.1 dJ13_compare_74951_6 (by decide) ?_
    refine lv_goto (tgt := 21) b.1 b.2.1 dJ13_compare_74951_7 (by decide) ?_
    cases hf
    exact k_iret b hlk hr hE (Nat.le_refl _) (Nat.le_refl _) dJ13_compare_74951_21
def fJ13_compare_74951 (x0 : Int64) (x2 : Int64) : Option (Int32) := fJ13_compare_74951_0 x0 x2
set_option maxHeartbeats 4000000 in
theorem CJ13_compare_74951 (l : Launch) (D : va_G) (aC : Nat → ClassId) {E : Heap → Prop} {A : Nat → Prop} {Z : State → Prop} (hZ : ZOK Z A) {x0 : Int64} {x2 : Int64} {rz : Int32} (hf : fJ13_compare_74951 x0 x2 = some rz) : CM l D aC Z yJ13_compare_74951 cJ13_compare_74951 4 (some .int) 0 0 0 0 E [.long x0, .long x2] E (some (.int rz)) A := by
  refine CM.of rfl ?_
  intro p e s m below meth c b hr hlk hin2 zs hE
  refine k_ent (Nat.le_of_ble_eq_true rfl) (fun ls hl => ?_)
  exact wfJ13_compare_74951_0 b hlk hr zs hZ hf hE (lv_sub hl [0, 1] rfl)
theorem dX3_init_0 : decode cX3_init 0 = .ok (.aload_n 0, 1) := by decide +kernel
theorem dX3_init_1 : decode cX3_init 1 = .ok (.invokespecial 1, 3) := by decide +kernel
theorem dX3_init_4 : decode cX3_init 4 = .ok (.aload_n 0, 1) := by decide +kernel
theorem dX3_init_5 : decode cX3_init 5 = .ok (.lconst 1, 1) := by decide +kernel
theorem dX3_init_6 : decode cX3_init 6 = .ok (.putfield 7, 3) := by decide +kernel
theorem dX3_init_9 : decode cX3_init 9 = .ok (.return_, 1) := by decide +kernel
def fX3_init_0  (h : PH) (x0 : Nat) : Option (PH) :=
  oC (decide (hT h x0 = 4)) (oL (sL h 385 x0 1) (fun h2 => some (h2)))
set_option maxHeartbeats 4000000 in
theorem wfX3_init_0 {args : Array Value} (b : Bd p s m c cX3_init 1 RX3 D aC) (hlk : meth.locks = false) (hr : meth.sig.returnType = none) {Z : State → Prop} (zs : Z s) (hZ : ZOK Z (Rg ad)) (hin2 : meth.name = "<init>") {hz : PH} {h : PH} {x0 : Nat}  {H : Heap} {locs : List Loc} {ls : Array Slot} (hf : fX3_init_0 h x0 = some hz) (hE : CE (EX D aC ad h) (Rg ad) s H locs) (hl : lv_has ls 1 [(0, .ref (ad x0))]) : W p l e (RM 1 24 0 0) s m args below meth c H locs 0 0 (MQ below (PQ (EX D aC ad hz) (Rg ad) none) args s 0 0 (Rg ad)) (F0 m 0 ls []) := by
  unfold fX3_init_0 at hf
  refine lv_aload_n b.1 b.2.1 dX3_init_0 rfl (lv_at hl 0 rfl) ?_
  refine k_objInit b (in4 29 rfl rfl) objI objC hl.1 ⟨Nat.le_of_ble_eq_true rfl, Nat.le_of_ble_eq_true rfl⟩ (Nat.le_of_ble_eq_true rfl) dX3_init_1 ?_
  refine lv_aload_n b.1 b.2.1 dX3_init_4 rfl (lv_at hl 0 rfl) ?_
  refine lv_lconst (v := 1) b.1 b.2.1 dX3_init_5 rfl ?_
  obtain ⟨t1, hf⟩ := oC_s hf
  have t1 := of_decide_eq_true t1
  obtain ⟨h2, eh2, hf⟩ := oL_s hf
  refine pX3_7 (x := (some x0)) b hE rfl t1 eh2 dX3_init_6 (fun H locs hE => ?_)
  cases hf
  exact k_vret b hlk hr hE (Nat.le_refl _) (Nat.le_refl _) dX3_init_9
def fX3_init (h : PH) (x0 : Nat) : Option (PH) := fX3_init_0 h x0
set_option maxHeartbeats 4000000 in
theorem CX3_init (l : Launch) (D : va_G) (aC : Nat → ClassId) (ad : Nat → Nat) {Z : State → Prop} (hZ : ZOK Z (Rg ad)) {h : PH} {x0 : Nat} {hz : PH} (hf : fX3_init h x0 = some hz) : CM l D aC Z yX3_init cX3_init 1 (none) 1 24 0 0 (EX D aC ad h) [.ref (ad x0)] (EX D aC ad hz) none (Rg ad) := by
  refine CM.of rfl ?_
  intro p e s m below meth c b hr hlk hin2 zs hE
  refine k_ent (Nat.le_of_ble_eq_true rfl) (fun ls hl => ?_)
  exact wfX3_init_0 b hlk hr zs hZ hin2 hf hE (lv_sub hl [0] rfl)
theorem dX3_become_0 : decode cX3_become 0 = .ok (.lload_n 1, 1) := by decide +kernel
theorem dX3_become_1 : decode cX3_become 1 = .ok (.invokestatic 13, 3) := by decide +kernel
theorem dX3_become_4 : decode cX3_become 4 = .ok (.lstore 5, 2) := by decide +kernel
theorem dX3_become_6 : decode cX3_become 6 = .ok (.lload_n 3, 1) := by decide +kernel
theorem dX3_become_7 : decode cX3_become 7 = .ok (.lstore 7, 2) := by decide +kernel
theorem dX3_become_9 : decode cX3_become 9 = .ok (.iconst 0, 1) := by decide +kernel
theorem dX3_become_10 : decode cX3_become 10 = .ok (.istore 9, 2) := by decide +kernel
theorem dX3_become_12 : decode cX3_become 12 = .ok (.iload 9, 2) := by decide +kernel
theorem dX3_become_14 : decode cX3_become 14 = .ok (.sipush 128, 3) := by decide +kernel
theorem dX3_become_17 : decode cX3_become 17 = .ok (.if_icmp .ge 31, 3) := by decide +kernel
theorem dX3_become_20 : decode cX3_become 20 = .ok (.lload 7, 2) := by decide +kernel
theorem dX3_become_22 : decode cX3_become 22 = .ok (.lconst 0, 1) := by decide +kernel
theorem dX3_become_23 : decode cX3_become 23 = .ok (.lcmp, 1) := by decide +kernel
theorem dX3_become_24 : decode cX3_become 24 = .ok (.ifCond .eq 24, 3) := by decide +kernel
theorem dX3_become_27 : decode cX3_become 27 = .ok (.lload 5, 2) := by decide +kernel
theorem dX3_become_29 : decode cX3_become 29 = .ok (.lload 7, 2) := by decide +kernel
theorem dX3_become_31 : decode cX3_become 31 = .ok (.lrem, 1) := by decide +kernel
theorem dX3_become_32 : decode cX3_become 32 = .ok (.lstore 10, 2) := by decide +kernel
theorem dX3_become_34 : decode cX3_become 34 = .ok (.lload 7, 2) := by decide +kernel
theorem dX3_become_36 : decode cX3_become 36 = .ok (.lstore 5, 2) := by decide +kernel
theorem dX3_become_38 : decode cX3_become 38 = .ok (.lload 10, 2) := by decide +kernel
theorem dX3_become_40 : decode cX3_become 40 = .ok (.lstore 7, 2) := by decide +kernel
theorem dX3_become_42 : decode cX3_become 42 = .ok (.iinc 9 1, 3) := by decide +kernel
theorem dX3_become_45 : decode cX3_become 45 = .ok (.goto (-33), 3) := by decide +kernel
theorem dX3_become_48 : decode cX3_become 48 = .ok (.lload 5, 2) := by decide +kernel
theorem dX3_become_50 : decode cX3_become 50 = .ok (.lconst 0, 1) := by decide +kernel
theorem dX3_become_51 : decode cX3_become 51 = .ok (.lcmp, 1) := by decide +kernel
theorem dX3_become_52 : decode cX3_become 52 = .ok (.ifCond .le 13, 3) := by decide +kernel
theorem dX3_become_55 : decode cX3_become 55 = .ok (.lload_n 3, 1) := by decide +kernel
theorem dX3_become_56 : decode cX3_become 56 = .ok (.lconst 0, 1) := by decide +kernel
theorem dX3_become_57 : decode cX3_become 57 = .ok (.lcmp, 1) := by decide +kernel
theorem dX3_become_58 : decode cX3_become 58 = .ok (.ifCond .le 7, 3) := by decide +kernel
theorem dX3_become_61 : decode cX3_become 61 = .ok (.iconst 1, 1) := by decide +kernel
theorem dX3_become_62 : decode cX3_become 62 = .ok (.goto 4, 3) := by decide +kernel
theorem dX3_become_65 : decode cX3_become 65 = .ok (.iconst 0, 1) := by decide +kernel
theorem dX3_become_66 : decode cX3_become 66 = .ok (.istore 9, 2) := by decide +kernel
theorem dX3_become_68 : decode cX3_become 68 = .ok (.aload_n 0, 1) := by decide +kernel
theorem dX3_become_69 : decode cX3_become 69 = .ok (.iload 9, 2) := by decide +kernel
theorem dX3_become_71 : decode cX3_become 71 = .ok (.ifCond .eq 10, 3) := by decide +kernel
theorem dX3_become_74 : decode cX3_become 74 = .ok (.lload_n 1, 1) := by decide +kernel
theorem dX3_become_75 : decode cX3_become 75 = .ok (.lload 5, 2) := by decide +kernel
theorem dX3_become_77 : decode cX3_become 77 = .ok (.ldiv, 1) := by decide +kernel
theorem dX3_become_78 : decode cX3_become 78 = .ok (.goto 4, 3) := by decide +kernel
theorem dX3_become_81 : decode cX3_become 81 = .ok (.lconst 0, 1) := by decide +kernel
theorem dX3_become_82 : decode cX3_become 82 = .ok (.putfield 19, 3) := by decide +kernel
theorem dX3_become_85 : decode cX3_become 85 = .ok (.aload_n 0, 1) := by decide +kernel
theorem dX3_become_86 : decode cX3_become 86 = .ok (.iload 9, 2) := by decide +kernel
theorem dX3_become_88 : decode cX3_become 88 = .ok (.ifCond .eq 10, 3) := by decide +kernel
theorem dX3_become_91 : decode cX3_become 91 = .ok (.lload_n 3, 1) := by decide +kernel
theorem dX3_become_92 : decode cX3_become 92 = .ok (.lload 5, 2) := by decide +kernel
theorem dX3_become_94 : decode cX3_become 94 = .ok (.ldiv, 1) := by decide +kernel
theorem dX3_become_95 : decode cX3_become 95 = .ok (.goto 4, 3) := by decide +kernel
theorem dX3_become_98 : decode cX3_become 98 = .ok (.lconst 1, 1) := by decide +kernel
theorem dX3_become_99 : decode cX3_become 99 = .ok (.putfield 7, 3) := by decide +kernel
theorem dX3_become_102 : decode cX3_become 102 = .ok (.aload_n 0, 1) := by decide +kernel
theorem dX3_become_103 : decode cX3_become 103 = .ok (.iload 9, 2) := by decide +kernel
theorem dX3_become_105 : decode cX3_become 105 = .ok (.ifCond .eq 28, 3) := by decide +kernel
theorem dX3_become_108 : decode cX3_become 108 = .ok (.aload_n 0, 1) := by decide +kernel
theorem dX3_become_109 : decode cX3_become 109 = .ok (.getfield 19, 3) := by decide +kernel
theorem dX3_become_112 : decode cX3_become 112 = .ok (.invokestatic 13, 3) := by decide +kernel
theorem dX3_become_115 : decode cX3_become 115 = .ok (.ldc2_w 22, 3) := by decide +kernel
theorem dX3_become_118 : decode cX3_become 118 = .ok (.lcmp, 1) := by decide +kernel
theorem dX3_become_119 : decode cX3_become 119 = .ok (.ifCond .gt 14, 3) := by decide +kernel
theorem dX3_become_122 : decode cX3_become 122 = .ok (.aload_n 0, 1) := by decide +kernel
theorem dX3_become_123 : decode cX3_become 123 = .ok (.getfield 7, 3) := by decide +kernel
theorem dX3_become_126 : decode cX3_become 126 = .ok (.ldc2_w 22, 3) := by decide +kernel
theorem dX3_become_129 : decode cX3_become 129 = .ok (.lcmp, 1) := by decide +kernel
theorem dX3_become_130 : decode cX3_become 130 = .ok (.ifCond .le 7, 3) := by decide +kernel
theorem dX3_become_133 : decode cX3_become 133 = .ok (.iconst 1, 1) := by decide +kernel
theorem dX3_become_134 : decode cX3_become 134 = .ok (.goto 4, 3) := by decide +kernel
theorem dX3_become_137 : decode cX3_become 137 = .ok (.iconst 0, 1) := by decide +kernel
theorem dX3_become_138 : decode cX3_become 138 = .ok (.putfield 24, 3) := by decide +kernel
theorem dX3_become_141 : decode cX3_become 141 = .ok (.return_, 1) := by decide +kernel
def fX3_become_138  (h : PH) (s0 : Int32) (s1 : Nat) : Option (PH) :=
  oC (isB s0) (oC (decide (hT h s1 = 4)) (oL (sI h 386 s1 s0) (fun h3 => some (h3))))
set_option maxHeartbeats 4000000 in
theorem wfX3_become_138 {args : Array Value} (b : Bd p s m c cX3_become 12 RX3 D aC) (hlk : meth.locks = false) (hr : meth.sig.returnType = none) {Z : State → Prop} (zs : Z s) (hZ : ZOK Z (Rg ad)) {hz : PH} {h : PH} {s0 : Int32} {s1 : Nat}  {H : Heap} {locs : List Loc} {ls : Array Slot} (hf : fX3_become_138 h s0 s1 = some hz) (hE : CE (EX D aC ad h) (Rg ad) s H locs) (hl : lv_has ls 12 []) : W p l e (RM 1 24 0 0) s m args below meth c H locs 0 0 (MQ below (PQ (EX D aC ad hz) (Rg ad) none) args s 0 0 (Rg ad)) (F0 m 138 ls [.int s0, .ref (ad s1)]) := by
  unfold fX3_become_138 at hf
  obtain ⟨g1, hf⟩ := oC_s hf
  obtain ⟨t2, hf⟩ := oC_s hf
  have t2 := of_decide_eq_true t2
  obtain ⟨h3, eh3, hf⟩ := oL_s hf
  refine pX3_24 (x := (some s1)) b hE rfl t2 g1 eh3 dX3_become_138 (fun H locs hE => ?_)
  cases hf
  exact k_vret b hlk hr hE (Nat.le_refl _) (Nat.le_refl _) dX3_become_141
def fX3_become_99  (h : PH) (x0 : Nat) (x9 : Int32) (s0 : Int64) (s1 : Nat) : Option (PH) :=
  oC (decide (hT h s1 = 4)) (oL (sL h 385 s1 s0) (fun h5 => if x9 = 0 then (fX3_become_138  h5 1 x0) else (oC (decide (hT h5 x0 = 4)) (if 0 < (lg_cmp (if 0 < (hL h5 384 x0) then (hL h5 384 x0) else -(hL h5 384 x0)) 1000000000) then (fX3_become_138  h5 1 x0) else (if (lg_cmp (hL h5 385 x0) 1000000000) ≤ 0 then (fX3_become_138  h5 0 x0) else (fX3_become_138  h5 1 x0))))))
set_option maxHeartbeats 4000000 in
theorem wfX3_become_99 {args : Array Value} (b : Bd p s m c cX3_become 12 RX3 D aC) (hlk : meth.locks = false) (hr : meth.sig.returnType = none) {Z : State → Prop} (zs : Z s) (hZ : ZOK Z (Rg ad)) {hz : PH} {h : PH} {x0 : Nat} {x9 : Int32} {s0 : Int64} {s1 : Nat}  {H : Heap} {locs : List Loc} {ls : Array Slot} (hf : fX3_become_99 h x0 x9 s0 s1 = some hz) (hE : CE (EX D aC ad h) (Rg ad) s H locs) (hl : lv_has ls 12 [(0, .ref (ad x0)), (9, .int x9)]) : W p l e (RM 1 24 0 0) s m args below meth c H locs 0 0 (MQ below (PQ (EX D aC ad hz) (Rg ad) none) args s 0 0 (Rg ad)) (F0 m 99 ls [.long s0, .ref (ad s1)]) := by
  unfold fX3_become_99 at hf
  obtain ⟨t4, hf⟩ := oC_s hf
  have t4 := of_decide_eq_true t4
  obtain ⟨h5, eh5, hf⟩ := oL_s hf
  refine pX3_7 (x := (some s1)) b hE rfl t4 eh5 dX3_become_99 (fun H locs hE => ?_)
  refine lv_aload_n b.1 b.2.1 dX3_become_102 rfl (lv_at hl 0 rfl) ?_
  refine lv_iload b.1 b.2.1 dX3_become_103 (lv_at hl 1 rfl) ?_
  refine lv_if_eq (tgt := 133) b.1 b.2.1 dX3_become_105 (by decide) (fun c6 => ?_) (fun c6 => ?_)
  · have hf := oI_t c6 hf
    refine lv_iconst (v := 1) b.1 b.2.1 dX3_become_133 (by decide) ?_
    refine lv_goto (tgt := 138) b.1 b.2.1 dX3_become_134 (by decide) ?_
    exact wfX3_become_138 b hlk hr zs hZ  hf hE (lv_sub hl [] rfl)
  · have hf := oI_f c6 hf
    refine lv_aload_n b.1 b.2.1 dX3_become_108 rfl (lv_at hl 0 rfl) ?_
    obtain ⟨t7, hf⟩ := oC_s hf
    have t7 := of_decide_eq_true t7
    refine gX3_19 (x := (some x0)) b hE rfl t7 dX3_become_109 ?_
    refine k_abs b (in4 222 rfl rfl) mthabs_s mth_i mthabs_c hl.1 ⟨Nat.le_of_ble_eq_true rfl, Nat.le_of_ble_eq_true rfl⟩ (Nat.le_of_ble_eq_true rfl) ⟨Nat.le_refl _, Nat.le_refl _⟩ dX3_become_112 ?_
    refine k_ldc2 (v := 1000000000) b (in4 225 rfl rfl) dX3_become_115 ?_
    refine W.lcmp b.1 b.2.1 dX3_become_118 ?_
    refine lv_if_gt (tgt := 133) b.1 b.2.1 dX3_become_119 (by decide) (fun c8 => ?_) (fun c8 => ?_)
    · have hf := oI_t c8 hf
      refine lv_iconst (v := 1) b.1 b.2.1 dX3_become_133 (by decide) ?_
      refine lv_goto (tgt := 138) b.1 b.2.1 dX3_become_134 (by decide) ?_
      exact wfX3_become_138 b hlk hr zs hZ  hf hE (lv_sub hl [] rfl)
    · have hf := oI_f c8 hf
      refine lv_aload_n b.1 b.2.1 dX3_become_122 rfl (lv_at hl 0 rfl) ?_
      refine gX3_7 (x := (some x0)) b hE rfl t7 dX3_become_123 ?_
      refine k_ldc2 (v := 1000000000) b (in4 225 rfl rfl) dX3_become_126 ?_
      refine W.lcmp b.1 b.2.1 dX3_become_129 ?_
      refine lv_if_le (tgt := 137) b.1 b.2.1 dX3_become_130 (by decide) (fun c9 => ?_) (fun c9 => ?_)
      · have hf := oI_t c9 hf
        refine lv_iconst (v := 0) b.1 b.2.1 dX3_become_137 (by decide) ?_
        exact wfX3_become_138 b hlk hr zs hZ  hf hE (lv_sub hl [] rfl)
      · have hf := oI_f c9 hf
        refine lv_iconst (v := 1) b.1 b.2.1 dX3_become_133 (by decide) ?_
        refine lv_goto (tgt := 138) b.1 b.2.1 dX3_become_134 (by decide) ?_
        exact wfX3_become_138 b hlk hr zs hZ  hf hE (lv_sub hl [] rfl)
def fX3_become_82  (h : PH) (x0 : Nat) (x3 : Int64) (x5 : Int64) (x9 : Int32) (s0 : Int64) (s1 : Nat) : Option (PH) :=
  oC (decide (hT h s1 = 4)) (oL (sL h 384 s1 s0) (fun h11 => if x9 = 0 then (fX3_become_99  h11 x0 x9 1 x0) else (oC (decide (¬ x5 = 0)) (fX3_become_99  h11 x0 x9 (x3 / x5) x0))))
set_option maxHeartbeats 4000000 in
theorem wfX3_become_82 {args : Array Value} (b : Bd p s m c cX3_become 12 RX3 D aC) (hlk : meth.locks = false) (hr : meth.sig.returnType = none) {Z : State → Prop} (zs : Z s) (hZ : ZOK Z (Rg ad)) {hz : PH} {h : PH} {x0 : Nat} {x3 : Int64} {x5 : Int64} {x9 : Int32} {s0 : Int64} {s1 : Nat}  {H : Heap} {locs : List Loc} {ls : Array Slot} (hf : fX3_become_82 h x0 x3 x5 x9 s0 s1 = some hz) (hE : CE (EX D aC ad h) (Rg ad) s H locs) (hl : lv_has ls 12 [(0, .ref (ad x0)), (3, .long x3), (5, .long x5), (9, .int x9)]) : W p l e (RM 1 24 0 0) s m args below meth c H locs 0 0 (MQ below (PQ (EX D aC ad hz) (Rg ad) none) args s 0 0 (Rg ad)) (F0 m 82 ls [.long s0, .ref (ad s1)]) := by
  unfold fX3_become_82 at hf
  obtain ⟨t10, hf⟩ := oC_s hf
  have t10 := of_decide_eq_true t10
  obtain ⟨h11, eh11, hf⟩ := oL_s hf
  refine pX3_19 (x := (some s1)) b hE rfl t10 eh11 dX3_become_82 (fun H locs hE => ?_)
  refine lv_aload_n b.1 b.2.1 dX3_become_85 rfl (lv_at hl 0 rfl) ?_
  refine lv_iload b.1 b.2.1 dX3_become_86 (lv_at hl 3 rfl) ?_
  refine lv_if_eq (tgt := 98) b.1 b.2.1 dX3_become_88 (by decide) (fun c12 => ?_) (fun c12 => ?_)
  · have hf := oI_t c12 hf
    refine lv_lconst (v := 1) b.1 b.2.1 dX3_become_98 rfl ?_
    exact wfX3_become_99 b hlk hr zs hZ  hf hE (lv_sub hl [0, 3] rfl)
  · have hf := oI_f c12 hf
    refine lv_lload_n b.1 b.2.1 dX3_become_91 rfl (lv_at hl 1 rfl) ?_
    refine lv_lload b.1 b.2.1 dX3_become_92 (lv_at hl 2 rfl) ?_
    obtain ⟨g13, hf⟩ := oC_s hf
    refine lv_ldiv b.1 b.2.1 dX3_become_94 (of_decide_eq_true g13) ?_
    refine lv_goto (tgt := 99) b.1 b.2.1 dX3_become_95 (by decide) ?_
    exact wfX3_become_99 b hlk hr zs hZ  hf hE (lv_sub hl [0, 3] rfl)
def fX3_become_66  (h : PH) (x0 : Nat) (x1 : Int64) (x3 : Int64) (x5 : Int64) (s0 : Int32) : Option (PH) :=
  if s0 = 0 then (fX3_become_82  h x0 x3 x5 s0 0 x0) else (oC (decide (¬ x5 = 0)) (fX3_become_82  h x0 x3 x5 s0 (x1 / x5) x0))
set_option maxHeartbeats 4000000 in
theorem wfX3_become_66 {args : Array Value} (b : Bd p s m c cX3_become 12 RX3 D aC) (hlk : meth.locks = false) (hr : meth.sig.returnType = none) {Z : State → Prop} (zs : Z s) (hZ : ZOK Z (Rg ad)) {hz : PH} {h : PH} {x0 : Nat} {x1 : Int64} {x3 : Int64} {x5 : Int64} {s0 : Int32}  {H : Heap} {locs : List Loc} {ls : Array Slot} (hf : fX3_become_66 h x0 x1 x3 x5 s0 = some hz) (hE : CE (EX D aC ad h) (Rg ad) s H locs) (hl : lv_has ls 12 [(0, .ref (ad x0)), (1, .long x1), (3, .long x3), (5, .long x5)]) : W p l e (RM 1 24 0 0) s m args below meth c H locs 0 0 (MQ below (PQ (EX D aC ad hz) (Rg ad) none) args s 0 0 (Rg ad)) (F0 m 66 ls [.int s0]) := by
  unfold fX3_become_66 at hf
  refine lv_istore (lv' := [(9, .int s0), (0, .ref (ad x0)), (1, .long x1), (3, .long x3), (5, .long x5)]) b.1 b.2.1 dX3_become_66 hl (by decide) rfl (fun ls hl => ?_)
  refine lv_aload_n b.1 b.2.1 dX3_become_68 rfl (lv_at hl 1 rfl) ?_
  refine lv_iload b.1 b.2.1 dX3_become_69 (lv_at hl 0 rfl) ?_
  refine lv_if_eq (tgt := 81) b.1 b.2.1 dX3_become_71 (by decide) (fun c14 => ?_) (fun c14 => ?_)
  · have hf := oI_t c14 hf
    refine lv_lconst (v := 0) b.1 b.2.1 dX3_become_81 rfl ?_
    exact wfX3_become_82 b hlk hr zs hZ  hf hE (lv_sub hl [1, 3, 4, 0] rfl)
  · have hf := oI_f c14 hf
    refine lv_lload_n b.1 b.2.1 dX3_become_74 rfl (lv_at hl 2 rfl) ?_
    refine lv_lload b.1 b.2.1 dX3_become_75 (lv_at hl 4 rfl) ?_
    obtain ⟨g15, hf⟩ := oC_s hf
    refine lv_ldiv b.1 b.2.1 dX3_become_77 (of_decide_eq_true g15) ?_
    refine lv_goto (tgt := 82) b.1 b.2.1 dX3_become_78 (by decide) ?_
    exact wfX3_become_82 b hlk hr zs hZ  hf hE (lv_sub hl [1, 3, 4, 0] rfl)
def fX3_become_48  (h : PH) (x0 : Nat) (x1 : Int64) (x3 : Int64) (x5 : Int64) : Option (PH) :=
  if (lg_cmp x5 0) ≤ 0 then (fX3_become_66  h x0 x1 x3 x5 0) else (if (lg_cmp x3 0) ≤ 0 then (fX3_become_66  h x0 x1 x3 x5 0) else (fX3_become_66  h x0 x1 x3 x5 1))
set_option maxHeartbeats 4000000 in
theorem wfX3_become_48 {args : Array Value} (b : Bd p s m c cX3_become 12 RX3 D aC) (hlk : meth.locks = false) (hr : meth.sig.returnType = none) {Z : State → Prop} (zs : Z s) (hZ : ZOK Z (Rg ad)) {hz : PH} {h : PH} {x0 : Nat} {x1 : Int64} {x3 : Int64} {x5 : Int64}  {H : Heap} {locs : List Loc} {ls : Array Slot} (hf : fX3_become_48 h x0 x1 x3 x5 = some hz) (hE : CE (EX D aC ad h) (Rg ad) s H locs) (hl : lv_has ls 12 [(0, .ref (ad x0)), (1, .long x1), (3, .long x3), (5, .long x5)]) : W p l e (RM 1 24 0 0) s m args below meth c H locs 0 0 (MQ below (PQ (EX D aC ad hz) (Rg ad) none) args s 0 0 (Rg ad)) (F0 m 48 ls []) := by
  unfold fX3_become_48 at hf
  refine lv_lload b.1 b.2.1 dX3_become_48 (lv_at hl 3 rfl) ?_
  refine lv_lconst (v := 0) b.1 b.2.1 dX3_become_50 rfl ?_
  refine W.lcmp b.1 b.2.1 dX3_become_51 ?_
  refine lv_if_le (tgt := 65) b.1 b.2.1 dX3_become_52 (by decide) (fun c16 => ?_) (fun c16 => ?_)
  · have hf := oI_t c16 hf
    refine lv_iconst (v := 0) b.1 b.2.1 dX3_become_65 (by decide) ?_
    exact wfX3_become_66 b hlk hr zs hZ  hf hE (lv_sub hl [0, 1, 2, 3] rfl)
  · have hf := oI_f c16 hf
    refine lv_lload_n b.1 b.2.1 dX3_become_55 rfl (lv_at hl 2 rfl) ?_
    refine lv_lconst (v := 0) b.1 b.2.1 dX3_become_56 rfl ?_
    refine W.lcmp b.1 b.2.1 dX3_become_57 ?_
    refine lv_if_le (tgt := 65) b.1 b.2.1 dX3_become_58 (by decide) (fun c17 => ?_) (fun c17 => ?_)
    · have hf := oI_t c17 hf
      refine lv_iconst (v := 0) b.1 b.2.1 dX3_become_65 (by decide) ?_
      exact wfX3_become_66 b hlk hr zs hZ  hf hE (lv_sub hl [0, 1, 2, 3] rfl)
    · have hf := oI_f c17 hf
      refine lv_iconst (v := 1) b.1 b.2.1 dX3_become_61 (by decide) ?_
      refine lv_goto (tgt := 66) b.1 b.2.1 dX3_become_62 (by decide) ?_
      exact wfX3_become_66 b hlk hr zs hZ  hf hE (lv_sub hl [0, 1, 2, 3] rfl)
def fX3_become_12F (k12 : PH → Nat → Int64 → Int64 → Int64 → Int64 → Int32 → Option (PH)) (h : PH) (x0 : Nat) (x1 : Int64) (x3 : Int64) (x5 : Int64) (x7 : Int64) (x9 : Int32) : Option (PH) :=
  if 128 ≤ x9 then (fX3_become_48  h x0 x1 x3 x5) else (if (lg_cmp x7 0) = 0 then (fX3_become_48  h x0 x1 x3 x5) else (oC (decide (¬ x7 = 0)) (oL (x5 - x5 / x7 * x7) (fun y21 => oL (x9 + 1) (fun y22 => k12 h x0 x1 x3 x7 y21 y22)))))
set_option maxHeartbeats 4000000 in
theorem wfX3_become_12F {args : Array Value} (b : Bd p s m c cX3_become 12 RX3 D aC) (hlk : meth.locks = false) (hr : meth.sig.returnType = none) {Z : State → Prop} (zs : Z s) (hZ : ZOK Z (Rg ad)) {hz : PH} {k12 : PH → Nat → Int64 → Int64 → Int64 → Int64 → Int32 → Option (PH)} (H12 : ∀ (h : PH) (x0 : Nat) (x1 : Int64) (x3 : Int64) (x5 : Int64) (x7 : Int64) (x9 : Int32), ∀ (H : Heap) (locs : List Loc) (ls : Array Slot), k12 h x0 x1 x3 x5 x7 x9 = some hz → CE (EX D aC ad h) (Rg ad) s H locs → lv_has ls 12 [(0, .ref (ad x0)), (1, .long x1), (3, .long x3), (5, .long x5), (7, .long x7), (9, .int x9)] → W p l e (RM 1 24 0 0) s m args below meth c H locs 0 0 (MQ below (PQ (EX D aC ad hz) (Rg ad) none) args s 0 0 (Rg ad)) (F0 m 12 ls [])) {h : PH} {x0 : Nat} {x1 : Int64} {x3 : Int64} {x5 : Int64} {x7 : Int64} {x9 : Int32}  {H : Heap} {locs : List Loc} {ls : Array Slot} (hf : fX3_become_12F k12 h x0 x1 x3 x5 x7 x9 = some hz) (hE : CE (EX D aC ad h) (Rg ad) s H locs) (hl : lv_has ls 12 [(0, .ref (ad x0)), (1, .long x1), (3, .long x3), (5, .long x5), (7, .long x7), (9, .int x9)]) : W p l e (RM 1 24 0 0) s m args below meth c H locs 0 0 (MQ below (PQ (EX D aC ad hz) (Rg ad) none) args s 0 0 (Rg ad)) (F0 m 12 ls []) := by
  unfold fX3_become_12F at hf
  refine lv_iload b.1 b.2.1 dX3_become_12 (lv_at hl 5 rfl) ?_
  refine lv_sipush (v := 128) b.1 b.2.1 dX3_become_14 (by decide) ?_
  refine lv_icmp_ge (tgt := 48) b.1 b.2.1 dX3_become_17 (by decide) (fun c18 => ?_) (fun c18 => ?_)
  · have hf := oI_t c18 hf
    exact wfX3_become_48 b hlk hr zs hZ  hf hE (lv_sub hl [0, 1, 2, 3] rfl)
  · have hf := oI_f c18 hf
    refine lv_lload b.1 b.2.1 dX3_become_20 (lv_at hl 4 rfl) ?_
    refine lv_lconst (v := 0) b.1 b.2.1 dX3_become_22 rfl ?_
    refine W.lcmp b.1 b.2.1 dX3_become_23 ?_
    refine lv_if_eq (tgt := 48) b.1 b.2.1 dX3_become_24 (by decide) (fun c19 => ?_) (fun c19 => ?_)
    · have hf := oI_t c19 hf
      exact wfX3_become_48 b hlk hr zs hZ  hf hE (lv_sub hl [0, 1, 2, 3] rfl)
    · have hf := oI_f c19 hf
      refine lv_lload b.1 b.2.1 dX3_become_27 (lv_at hl 3 rfl) ?_
      refine lv_lload b.1 b.2.1 dX3_become_29 (lv_at hl 4 rfl) ?_
      obtain ⟨g20, hf⟩ := oC_s hf
      refine lv_lrem b.1 b.2.1 dX3_become_31 (of_decide_eq_true g20) ?_
      obtain ⟨y21, ey21, hf⟩ := oL_s hf
      refine k_nmL ey21 ?_
      refine lv_lstore (lv' := [(10, .long y21), (0, .ref (ad x0)), (1, .long x1), (3, .long x3), (5, .long x5), (7, .long x7), (9, .int x9)]) b.1 b.2.1 dX3_become_32 hl (by decide) rfl (fun ls hl => ?_)
      have hl := lv_sub (l' := [(10, .long y21), (0, .ref (ad x0)), (1, .long x1), (3, .long x3), (7, .long x7), (9, .int x9)]) hl [0, 1, 2, 3, 5, 6] rfl
      refine lv_lload b.1 b.2.1 dX3_become_34 (lv_at hl 4 rfl) ?_
      refine lv_lstore (lv' := [(5, .long x7), (10, .long y21), (0, .ref (ad x0)), (1, .long x1), (3, .long x3), (7, .long x7), (9, .int x9)]) b.1 b.2.1 dX3_become_36 hl (by decide) rfl (fun ls hl => ?_)
      have hl := lv_sub (l' := [(5, .long x7), (10, .long y21), (0, .ref (ad x0)), (1, .long x1), (3, .long x3), (9, .int x9)]) hl [0, 1, 2, 3, 4, 6] rfl
      refine lv_lload b.1 b.2.1 dX3_become_38 (lv_at hl 1 rfl) ?_
      refine lv_lstore (lv' := [(7, .long y21), (5, .long x7), (10, .long y21), (0, .ref (ad x0)), (1, .long x1), (3, .long x3), (9, .int x9)]) b.1 b.2.1 dX3_become_40 hl (by decide) rfl (fun ls hl => ?_)
      have hl := lv_sub (l' := [(7, .long y21), (5, .long x7), (0, .ref (ad x0)), (1, .long x1), (3, .long x3), (9, .int x9)]) hl [0, 1, 3, 4, 5, 6] rfl
      obtain ⟨y22, ey22, hf⟩ := oL_s hf
      refine lv_iinc (v := y22) (lv' := [(9, .int y22), (7, .long y21), (5, .long x7), (0, .ref (ad x0)), (1, .long x1), (3, .long x3)]) b.1 b.2.1 dX3_become_42 hl (k := 5) rfl (by rw [ey22]; rfl) (by decide) rfl (fun ls hl => ?_)
      refine lv_goto (tgt := 12) b.1 b.2.1 dX3_become_45 (by decide) ?_
      exact H12 h x0 x1 x3 x7 y21 y22 _ _ _ hf hE (lv_sub hl [3, 4, 5, 2, 1, 0] rfl)
def fX3_become_12  : Nat → PH → Nat → Int64 → Int64 → Int64 → Int64 → Int32 → Option (PH)
  | 0 => fun _ _ _ _ _ _ _ => none
  | n + 1 => fX3_become_12F  (fX3_become_12  n)
set_option maxHeartbeats 4000000 in
theorem wfX3_become_12 {args : Array Value} (b : Bd p s m c cX3_become 12 RX3 D aC) (hlk : meth.locks = false) (hr : meth.sig.returnType = none) {Z : State → Prop} (zs : Z s) (hZ : ZOK Z (Rg ad)) {hz : PH} : ∀ n : Nat, ∀ (h : PH) (x0 : Nat) (x1 : Int64) (x3 : Int64) (x5 : Int64) (x7 : Int64) (x9 : Int32), ∀ (H : Heap) (locs : List Loc) (ls : Array Slot), fX3_become_12  n h x0 x1 x3 x5 x7 x9 = some hz → CE (EX D aC ad h) (Rg ad) s H locs → lv_has ls 12 [(0, .ref (ad x0)), (1, .long x1), (3, .long x3), (5, .long x5), (7, .long x7), (9, .int x9)] → W p l e (RM 1 24 0 0) s m args below meth c H locs 0 0 (MQ below (PQ (EX D aC ad hz) (Rg ad) none) args s 0 0 (Rg ad)) (F0 m 12 ls []) := by
  intro n
  induction n with
  | zero =>
    intro h x0 x1 x3 x5 x7 x9 H locs ls hf
    have hf : (none : Option (PH)) = some _ := hf
    cases hf
  | succ n ih =>
    intro h x0 x1 x3 x5 x7 x9 H locs ls hf hE hl
    exact wfX3_become_12F b hlk hr zs hZ  ih hf hE hl
def fX3_become_0  (h : PH) (x0 : Nat) (x1 : Int64) (x3 : Int64) : Option (PH) :=
  oL (if 0 < x1 then x1 else -x1) (fun y23 => fX3_become_12  FU h x0 x1 x3 y23 x3 0)
set_option maxHeartbeats 4000000 in
theorem wfX3_become_0 {args : Array Value} (b : Bd p s m c cX3_become 12 RX3 D aC) (hlk : meth.locks = false) (hr : meth.sig.returnType = none) {Z : State → Prop} (zs : Z s) (hZ : ZOK Z (Rg ad)) {hz : PH} {h : PH} {x0 : Nat} {x1 : Int64} {x3 : Int64}  {H : Heap} {locs : List Loc} {ls : Array Slot} (hf : fX3_become_0 h x0 x1 x3 = some hz) (hE : CE (EX D aC ad h) (Rg ad) s H locs) (hl : lv_has ls 12 [(0, .ref (ad x0)), (1, .long x1), (3, .long x3)]) : W p l e (RM 1 24 0 0) s m args below meth c H locs 0 0 (MQ below (PQ (EX D aC ad hz) (Rg ad) none) args s 0 0 (Rg ad)) (F0 m 0 ls []) := by
  unfold fX3_become_0 at hf
  refine lv_lload_n b.1 b.2.1 dX3_become_0 rfl (lv_at hl 1 rfl) ?_
  refine k_abs b (in4 222 rfl rfl) mthabs_s mth_i mthabs_c hl.1 ⟨Nat.le_of_ble_eq_true rfl, Nat.le_of_ble_eq_true rfl⟩ (Nat.le_of_ble_eq_true rfl) ⟨Nat.le_refl _, Nat.le_refl _⟩ dX3_become_1 ?_
  obtain ⟨y23, ey23, hf⟩ := oL_s hf
  refine k_nmL ey23 ?_
  refine lv_lstore (lv' := [(5, .long y23), (0, .ref (ad x0)), (1, .long x1), (3, .long x3)]) b.1 b.2.1 dX3_become_4 hl (by decide) rfl (fun ls hl => ?_)
  refine lv_lload_n b.1 b.2.1 dX3_become_6 rfl (lv_at hl 3 rfl) ?_
  refine lv_lstore (lv' := [(7, .long x3), (5, .long y23), (0, .ref (ad x0)), (1, .long x1), (3, .long x3)]) b.1 b.2.1 dX3_become_7 hl (by decide) rfl (fun ls hl => ?_)
  refine lv_iconst (v := 0) b.1 b.2.1 dX3_become_9 (by decide) ?_
  refine lv_istore (lv' := [(9, .int 0), (7, .long x3), (5, .long y23), (0, .ref (ad x0)), (1, .long x1), (3, .long x3)]) b.1 b.2.1 dX3_become_10 hl (by decide) rfl (fun ls hl => ?_)
  exact wfX3_become_12 b hlk hr zs hZ  FU h x0 x1 x3 y23 x3 0 _ _ _ hf hE (lv_sub hl [3, 4, 5, 2, 1, 0] rfl)
def fX3_become (h : PH) (x0 : Nat) (x1 : Int64) (x3 : Int64) : Option (PH) := fX3_become_0 h x0 x1 x3
set_option maxHeartbeats 4000000 in
theorem CX3_become (l : Launch) (D : va_G) (aC : Nat → ClassId) (ad : Nat → Nat) {Z : State → Prop} (hZ : ZOK Z (Rg ad)) {h : PH} {x0 : Nat} {x1 : Int64} {x3 : Int64} {hz : PH} (hf : fX3_become h x0 x1 x3 = some hz) : CM l D aC Z yX3_become cX3_become 12 (none) 1 24 0 0 (EX D aC ad h) [.ref (ad x0), .long x1, .long x3] (EX D aC ad hz) none (Rg ad) := by
  refine CM.of rfl ?_
  intro p e s m below meth c b hr hlk hin2 zs hE
  refine k_ent (Nat.le_of_ble_eq_true rfl) (fun ls hl => ?_)
  exact wfX3_become_0 b hlk hr zs hZ hf hE (lv_sub hl [0, 1, 2] rfl)
theorem dX3_copy_0 : decode cX3_copy 0 = .ok (.aload_n 0, 1) := by decide +kernel
theorem dX3_copy_1 : decode cX3_copy 1 = .ok (.aload_n 1, 1) := by decide +kernel
theorem dX3_copy_2 : decode cX3_copy 2 = .ok (.getfield 19, 3) := by decide +kernel
theorem dX3_copy_5 : decode cX3_copy 5 = .ok (.putfield 19, 3) := by decide +kernel
theorem dX3_copy_8 : decode cX3_copy 8 = .ok (.aload_n 0, 1) := by decide +kernel
theorem dX3_copy_9 : decode cX3_copy 9 = .ok (.aload_n 1, 1) := by decide +kernel
theorem dX3_copy_10 : decode cX3_copy 10 = .ok (.getfield 7, 3) := by decide +kernel
theorem dX3_copy_13 : decode cX3_copy 13 = .ok (.putfield 7, 3) := by decide +kernel
theorem dX3_copy_16 : decode cX3_copy 16 = .ok (.aload_n 0, 1) := by decide +kernel
theorem dX3_copy_17 : decode cX3_copy 17 = .ok (.aload_n 1, 1) := by decide +kernel
theorem dX3_copy_18 : decode cX3_copy 18 = .ok (.getfield 24, 3) := by decide +kernel
theorem dX3_copy_21 : decode cX3_copy 21 = .ok (.putfield 24, 3) := by decide +kernel
theorem dX3_copy_24 : decode cX3_copy 24 = .ok (.return_, 1) := by decide +kernel
def fX3_copy_0  (h : PH) (x0 : Nat) (x1 : Option Nat) : Option (PH) :=
  oN x1 (fun a1 => oC (decide (hT h a1 = 4)) (oC (decide (hT h x0 = 4)) (oL (sL h 384 x0 (hL h 384 a1)) (fun h4 => oL (sL h4 385 x0 (hL h4 385 a1)) (fun h7 => oC (isB (hI h7 386 a1)) (oL (sI h7 386 x0 (hI h7 386 a1)) (fun h11 => some (h11))))))))
set_option maxHeartbeats 4000000 in
theorem wfX3_copy_0 {args : Array Value} (b : Bd p s m c cX3_copy 2 RX3 D aC) (hlk : meth.locks = false) (hr : meth.sig.returnType = none) {Z : State → Prop} (zs : Z s) (hZ : ZOK Z (Rg ad)) {hz : PH} {h : PH} {x0 : Nat} {x1 : Option Nat}  {H : Heap} {locs : List Loc} {ls : Array Slot} (hf : fX3_copy_0 h x0 x1 = some hz) (hE : CE (EX D aC ad h) (Rg ad) s H locs) (hl : lv_has ls 2 [(0, .ref (ad x0)), (1, va_rf (Option.map ad x1))]) : W p l e (RM 0 0 0 0) s m args below meth c H locs 0 0 (MQ below (PQ (EX D aC ad hz) (Rg ad) none) args s 0 0 (Rg ad)) (F0 m 0 ls []) := by
  unfold fX3_copy_0 at hf
  refine lv_aload_n b.1 b.2.1 dX3_copy_0 rfl (lv_at hl 0 rfl) ?_
  refine k_aload_n (x := Option.map ad x1) b dX3_copy_1 rfl (lv_at hl 1 rfl) ?_
  obtain ⟨a1, ea1, hf⟩ := oN_s hf
  obtain ⟨t2, hf⟩ := oC_s hf
  have t2 := of_decide_eq_true t2
  refine gX3_19 (x := x1) b hE ea1 t2 dX3_copy_2 ?_
  obtain ⟨t3, hf⟩ := oC_s hf
  have t3 := of_decide_eq_true t3
  obtain ⟨h4, eh4, hf⟩ := oL_s hf
  refine pX3_19 (x := (some x0)) b hE rfl t3 eh4 dX3_copy_5 (fun H locs hE => ?_)
  refine lv_aload_n b.1 b.2.1 dX3_copy_8 rfl (lv_at hl 0 rfl) ?_
  refine k_aload_n (x := Option.map ad x1) b dX3_copy_9 rfl (lv_at hl 1 rfl) ?_
  have t5 := tg_sL eh4 t2
  refine gX3_7 (x := x1) b hE ea1 t5 dX3_copy_10 ?_
  have t6 := tg_sL eh4 t3
  obtain ⟨h7, eh7, hf⟩ := oL_s hf
  refine pX3_7 (x := (some x0)) b hE rfl t6 eh7 dX3_copy_13 (fun H locs hE => ?_)
  refine lv_aload_n b.1 b.2.1 dX3_copy_16 rfl (lv_at hl 0 rfl) ?_
  refine k_aload_n (x := Option.map ad x1) b dX3_copy_17 rfl (lv_at hl 1 rfl) ?_
  have t8 := tg_sL eh7 t5
  refine gX3_24 (x := x1) b hE ea1 t8 dX3_copy_18 ?_
  obtain ⟨g9, hf⟩ := oC_s hf
  have t10 := tg_sL eh7 t6
  obtain ⟨h11, eh11, hf⟩ := oL_s hf
  refine pX3_24 (x := (some x0)) b hE rfl t10 g9 eh11 dX3_copy_21 (fun H locs hE => ?_)
  cases hf
  exact k_vret b hlk hr hE (Nat.le_refl _) (Nat.le_refl _) dX3_copy_24
def fX3_copy (h : PH) (x0 : Nat) (x1 : Option Nat) : Option (PH) := fX3_copy_0 h x0 x1
set_option maxHeartbeats 4000000 in
theorem CX3_copy (l : Launch) (D : va_G) (aC : Nat → ClassId) (ad : Nat → Nat) {Z : State → Prop} (hZ : ZOK Z (Rg ad)) {h : PH} {x0 : Nat} {x1 : Option Nat} {hz : PH} (hf : fX3_copy h x0 x1 = some hz) : CM l D aC Z yX3_copy cX3_copy 2 (none) 0 0 0 0 (EX D aC ad h) [.ref (ad x0), va_rf (Option.map ad x1)] (EX D aC ad hz) none (Rg ad) := by
  refine CM.of rfl ?_
  intro p e s m below meth c b hr hlk hin2 zs hE
  cases x1 <;> (
    refine k_ent (Nat.le_of_ble_eq_true rfl) (fun ls hl => ?_)
    exact wfX3_copy_0 b hlk hr zs hZ hf hE (lv_sub hl [0, 1] rfl))
theorem dX3_negate_0 : decode cX3_negate 0 = .ok (.aload_n 0, 1) := by decide +kernel
theorem dX3_negate_1 : decode cX3_negate 1 = .ok (.aload_n 0, 1) := by decide +kernel
theorem dX3_negate_2 : decode cX3_negate 2 = .ok (.getfield 19, 3) := by decide +kernel
theorem dX3_negate_5 : decode cX3_negate 5 = .ok (.lneg, 1) := by decide +kernel
theorem dX3_negate_6 : decode cX3_negate 6 = .ok (.putfield 19, 3) := by decide +kernel
theorem dX3_negate_9 : decode cX3_negate 9 = .ok (.return_, 1) := by decide +kernel
def fX3_negate_0  (h : PH) (x0 : Nat) : Option (PH) :=
  oC (decide (hT h x0 = 4)) (oL (sL h 384 x0 (-(hL h 384 x0))) (fun h2 => some (h2)))
set_option maxHeartbeats 4000000 in
theorem wfX3_negate_0 {args : Array Value} (b : Bd p s m c cX3_negate 1 RX3 D aC) (hlk : meth.locks = false) (hr : meth.sig.returnType = none) {Z : State → Prop} (zs : Z s) (hZ : ZOK Z (Rg ad)) {hz : PH} {h : PH} {x0 : Nat}  {H : Heap} {locs : List Loc} {ls : Array Slot} (hf : fX3_negate_0 h x0 = some hz) (hE : CE (EX D aC ad h) (Rg ad) s H locs) (hl : lv_has ls 1 [(0, .ref (ad x0))]) : W p l e (RM 0 0 0 0) s m args below meth c H locs 0 0 (MQ below (PQ (EX D aC ad hz) (Rg ad) none) args s 0 0 (Rg ad)) (F0 m 0 ls []) := by
  unfold fX3_negate_0 at hf
  refine lv_aload_n b.1 b.2.1 dX3_negate_0 rfl (lv_at hl 0 rfl) ?_
  refine lv_aload_n b.1 b.2.1 dX3_negate_1 rfl (lv_at hl 0 rfl) ?_
  obtain ⟨t1, hf⟩ := oC_s hf
  have t1 := of_decide_eq_true t1
  refine gX3_19 (x := (some x0)) b hE rfl t1 dX3_negate_2 ?_
  refine lv_lneg b.1 b.2.1 dX3_negate_5 ?_
  obtain ⟨h2, eh2, hf⟩ := oL_s hf
  refine pX3_19 (x := (some x0)) b hE rfl t1 eh2 dX3_negate_6 (fun H locs hE => ?_)
  cases hf
  exact k_vret b hlk hr hE (Nat.le_refl _) (Nat.le_refl _) dX3_negate_9
def fX3_negate (h : PH) (x0 : Nat) : Option (PH) := fX3_negate_0 h x0
set_option maxHeartbeats 4000000 in
theorem CX3_negate (l : Launch) (D : va_G) (aC : Nat → ClassId) (ad : Nat → Nat) {Z : State → Prop} (hZ : ZOK Z (Rg ad)) {h : PH} {x0 : Nat} {hz : PH} (hf : fX3_negate h x0 = some hz) : CM l D aC Z yX3_negate cX3_negate 1 (none) 0 0 0 0 (EX D aC ad h) [.ref (ad x0)] (EX D aC ad hz) none (Rg ad) := by
  refine CM.of rfl ?_
  intro p e s m below meth c b hr hlk hin2 zs hE
  refine k_ent (Nat.le_of_ble_eq_true rfl) (fun ls hl => ?_)
  exact wfX3_negate_0 b hlk hr zs hZ hf hE (lv_sub hl [0] rfl)
theorem dX3_add_0 : decode cX3_add 0 = .ok (.aload_n 0, 1) := by decide +kernel
theorem dX3_add_1 : decode cX3_add 1 = .ok (.getfield 24, 3) := by decide +kernel
theorem dX3_add_4 : decode cX3_add 4 = .ok (.ifCond .ne 10, 3) := by decide +kernel
theorem dX3_add_7 : decode cX3_add 7 = .ok (.aload_n 1, 1) := by decide +kernel
theorem dX3_add_8 : decode cX3_add 8 = .ok (.getfield 24, 3) := by decide +kernel
theorem dX3_add_11 : decode cX3_add 11 = .ok (.ifCond .eq 9, 3) := by decide +kernel
theorem dX3_add_14 : decode cX3_add 14 = .ok (.aload_n 0, 1) := by decide +kernel
theorem dX3_add_15 : decode cX3_add 15 = .ok (.iconst 1, 1) := by decide +kernel
theorem dX3_add_16 : decode cX3_add 16 = .ok (.putfield 24, 3) := by decide +kernel
theorem dX3_add_19 : decode cX3_add 19 = .ok (.return_, 1) := by decide +kernel
theorem dX3_add_20 : decode cX3_add 20 = .ok (.aload_n 0, 1) := by decide +kernel
theorem dX3_add_21 : decode cX3_add 21 = .ok (.aload_n 0, 1) := by decide +kernel
theorem dX3_add_22 : decode cX3_add 22 = .ok (.getfield 19, 3) := by decide +kernel
theorem dX3_add_25 : decode cX3_add 25 = .ok (.aload_n 1, 1) := by decide +kernel
theorem dX3_add_26 : decode cX3_add 26 = .ok (.getfield 7, 3) := by decide +kernel
theorem dX3_add_29 : decode cX3_add 29 = .ok (.lmul, 1) := by decide +kernel
theorem dX3_add_30 : decode cX3_add 30 = .ok (.iload_n 2, 1) := by decide +kernel
theorem dX3_add_31 : decode cX3_add 31 = .ok (.i2l, 1) := by decide +kernel
theorem dX3_add_32 : decode cX3_add 32 = .ok (.aload_n 1, 1) := by decide +kernel
theorem dX3_add_33 : decode cX3_add 33 = .ok (.getfield 19, 3) := by decide +kernel
theorem dX3_add_36 : decode cX3_add 36 = .ok (.lmul, 1) := by decide +kernel
theorem dX3_add_37 : decode cX3_add 37 = .ok (.aload_n 0, 1) := by decide +kernel
theorem dX3_add_38 : decode cX3_add 38 = .ok (.getfield 7, 3) := by decide +kernel
theorem dX3_add_41 : decode cX3_add 41 = .ok (.lmul, 1) := by decide +kernel
theorem dX3_add_42 : decode cX3_add 42 = .ok (.ladd, 1) := by decide +kernel
theorem dX3_add_43 : decode cX3_add 43 = .ok (.aload_n 0, 1) := by decide +kernel
theorem dX3_add_44 : decode cX3_add 44 = .ok (.getfield 7, 3) := by decide +kernel
theorem dX3_add_47 : decode cX3_add 47 = .ok (.aload_n 1, 1) := by decide +kernel
theorem dX3_add_48 : decode cX3_add 48 = .ok (.getfield 7, 3) := by decide +kernel
theorem dX3_add_51 : decode cX3_add 51 = .ok (.lmul, 1) := by decide +kernel
theorem dX3_add_52 : decode cX3_add 52 = .ok (.invokevirtual 28, 3) := by decide +kernel
theorem dX3_add_55 : decode cX3_add 55 = .ok (.return_, 1) := by decide +kernel
def fX3_add_14  (h : PH) (x0 : Nat) : Option (PH) :=
  oC (decide (hT h x0 = 4)) (oL (sI h 386 x0 1) (fun h2 => some (h2)))
set_option maxHeartbeats 4000000 in
theorem wfX3_add_14 {args : Array Value} (b : Bd p s m c cX3_add 3 RX3 D aC) (hlk : meth.locks = false) (hr : meth.sig.returnType = none) {Z : State → Prop} (zs : Z s) (hZ : ZOK Z (Rg ad)) {hz : PH} {h : PH} {x0 : Nat}  {H : Heap} {locs : List Loc} {ls : Array Slot} (hf : fX3_add_14 h x0 = some hz) (hE : CE (EX D aC ad h) (Rg ad) s H locs) (hl : lv_has ls 3 [(0, .ref (ad x0))]) : W p l e (RM 2 55 0 0) s m args below meth c H locs 0 0 (MQ below (PQ (EX D aC ad hz) (Rg ad) none) args s 0 0 (Rg ad)) (F0 m 14 ls []) := by
  unfold fX3_add_14 at hf
  refine lv_aload_n b.1 b.2.1 dX3_add_14 rfl (lv_at hl 0 rfl) ?_
  refine lv_iconst (v := 1) b.1 b.2.1 dX3_add_15 (by decide) ?_
  obtain ⟨t1, hf⟩ := oC_s hf
  have t1 := of_decide_eq_true t1
  obtain ⟨h2, eh2, hf⟩ := oL_s hf
  refine pX3_24 (x := (some x0)) b hE rfl t1 (by decide) eh2 dX3_add_16 (fun H locs hE => ?_)
  cases hf
  exact k_vret b hlk hr hE (Nat.le_refl _) (Nat.le_refl _) dX3_add_19
def fX3_add_0  (h : PH) (x0 : Nat) (x1 : Option Nat) (x2 : Int32) : Option (PH) :=
  oC (decide (hT h x0 = 4)) (if (hI h 386 x0) = 0 then (oN x1 (fun a5 => oC (decide (hT h a5 = 4)) (if (hI h 386 a5) = 0 then (oB (fX3_become h x0 (((hL h 384 x0) * (hL h 385 a5)) + (((Int32.toInt64 x2) * (hL h 384 a5)) * (hL h 385 x0))) ((hL h 385 x0) * (hL h 385 a5))) (fun h9 => some (h9))) else (fX3_add_14  h x0)))) else (fX3_add_14  h x0))
set_option maxHeartbeats 4000000 in
theorem wfX3_add_0 {args : Array Value} (b : Bd p s m c cX3_add 3 RX3 D aC) (hlk : meth.locks = false) (hr : meth.sig.returnType = none) {Z : State → Prop} (zs : Z s) (hZ : ZOK Z (Rg ad)) {hz : PH} {h : PH} {x0 : Nat} {x1 : Option Nat} {x2 : Int32}  {H : Heap} {locs : List Loc} {ls : Array Slot} (hf : fX3_add_0 h x0 x1 x2 = some hz) (hE : CE (EX D aC ad h) (Rg ad) s H locs) (hl : lv_has ls 3 [(0, .ref (ad x0)), (1, va_rf (Option.map ad x1)), (2, .int x2)]) : W p l e (RM 2 55 0 0) s m args below meth c H locs 0 0 (MQ below (PQ (EX D aC ad hz) (Rg ad) none) args s 0 0 (Rg ad)) (F0 m 0 ls []) := by
  unfold fX3_add_0 at hf
  refine lv_aload_n b.1 b.2.1 dX3_add_0 rfl (lv_at hl 0 rfl) ?_
  obtain ⟨t3, hf⟩ := oC_s hf
  have t3 := of_decide_eq_true t3
  refine gX3_24 (x := (some x0)) b hE rfl t3 dX3_add_1 ?_
  refine lv_if_ne (tgt := 14) b.1 b.2.1 dX3_add_4 (by decide) (fun c4 => ?_) (fun c4 => ?_)
  · have hf := oI_f c4 hf
    exact wfX3_add_14 b hlk hr zs hZ  hf hE (lv_sub hl [0] rfl)
  · have hf := oI_t c4 hf
    refine k_aload_n (x := Option.map ad x1) b dX3_add_7 rfl (lv_at hl 1 rfl) ?_
    obtain ⟨a5, ea5, hf⟩ := oN_s hf
    obtain ⟨t6, hf⟩ := oC_s hf
    have t6 := of_decide_eq_true t6
    refine gX3_24 (x := x1) b hE ea5 t6 dX3_add_8 ?_
    refine lv_if_eq (tgt := 20) b.1 b.2.1 dX3_add_11 (by decide) (fun c7 => ?_) (fun c7 => ?_)
    · have hf := oI_t c7 hf
      refine lv_aload_n b.1 b.2.1 dX3_add_20 rfl (lv_at hl 0 rfl) ?_
      refine lv_aload_n b.1 b.2.1 dX3_add_21 rfl (lv_at hl 0 rfl) ?_
      refine gX3_19 (x := (some x0)) b hE rfl t3 dX3_add_22 ?_
      refine k_aload_n (x := Option.map ad x1) b dX3_add_25 rfl (lv_at hl 1 rfl) ?_
      refine gX3_7 (x := x1) b hE ea5 t6 dX3_add_26 ?_
      refine lv_lmul b.1 b.2.1 dX3_add_29 ?_
      refine lv_iload_n b.1 b.2.1 dX3_add_30 rfl (lv_at hl 2 rfl) ?_
      refine lv_i2l b.1 b.2.1 dX3_add_31 rfl ?_
      refine k_aload_n (x := Option.map ad x1) b dX3_add_32 rfl (lv_at hl 1 rfl) ?_
      refine gX3_19 (x := x1) b hE ea5 t6 dX3_add_33 ?_
      refine lv_lmul b.1 b.2.1 dX3_add_36 ?_
      refine lv_aload_n b.1 b.2.1 dX3_add_37 rfl (lv_at hl 0 rfl) ?_
      refine gX3_7 (x := (some x0)) b hE rfl t3 dX3_add_38 ?_
      refine lv_lmul b.1 b.2.1 dX3_add_41 ?_
      refine lv_ladd b.1 b.2.1 dX3_add_42 ?_
      refine lv_aload_n b.1 b.2.1 dX3_add_43 rfl (lv_at hl 0 rfl) ?_
      refine gX3_7 (x := (some x0)) b hE rfl t3 dX3_add_44 ?_
      refine k_aload_n (x := Option.map ad x1) b dX3_add_47 rfl (lv_at hl 1 rfl) ?_
      refine gX3_7 (x := x1) b hE ea5 t6 dX3_add_48 ?_
      refine lv_lmul b.1 b.2.1 dX3_add_51 ?_
      obtain ⟨h9, hc8, hf⟩ := oB_s hf
      refine k_callV0 (C := RX3) b zs hZ hE (CX3_become l D aC ad hZ hc8) mc_X3_become (in4 230 rfl rfl) mi_X3_become ms_X3_become ini_RX3 ok_X3_become (x_recv b hE (ci := 3) rfl (by decide) t3) ⟨Nat.le_of_ble_eq_true rfl, Nat.le_of_ble_eq_true rfl⟩ rfl hl.1 rfl (k_room _ (Nat.le_of_ble_eq_true rfl)) ⟨Nat.le_refl _, Nat.le_refl _⟩ dX3_add_52 (fun H locs hE => ?_)
      cases hf
      exact k_vret b hlk hr hE (Nat.le_refl _) (Nat.le_refl _) dX3_add_55
    · have hf := oI_f c7 hf
      exact wfX3_add_14 b hlk hr zs hZ  hf hE (lv_sub hl [0] rfl)
def fX3_add (h : PH) (x0 : Nat) (x1 : Option Nat) (x2 : Int32) : Option (PH) := fX3_add_0 h x0 x1 x2
set_option maxHeartbeats 4000000 in
theorem CX3_add (l : Launch) (D : va_G) (aC : Nat → ClassId) (ad : Nat → Nat) {Z : State → Prop} (hZ : ZOK Z (Rg ad)) {h : PH} {x0 : Nat} {x1 : Option Nat} {x2 : Int32} {hz : PH} (hf : fX3_add h x0 x1 x2 = some hz) : CM l D aC Z yX3_add cX3_add 3 (none) 2 55 0 0 (EX D aC ad h) [.ref (ad x0), va_rf (Option.map ad x1), .int x2] (EX D aC ad hz) none (Rg ad) := by
  refine CM.of rfl ?_
  intro p e s m below meth c b hr hlk hin2 zs hE
  cases x1 <;> (
    refine k_ent (Nat.le_of_ble_eq_true rfl) (fun ls hl => ?_)
    exact wfX3_add_0 b hlk hr zs hZ hf hE (lv_sub hl [0, 1, 2] rfl))
theorem dX3_multiply_0 : decode cX3_multiply 0 = .ok (.aload_n 0, 1) := by decide +kernel
theorem dX3_multiply_1 : decode cX3_multiply 1 = .ok (.getfield 24, 3) := by decide +kernel
theorem dX3_multiply_4 : decode cX3_multiply 4 = .ok (.ifCond .ne 8, 3) := by decide +kernel
theorem dX3_multiply_7 : decode cX3_multiply 7 = .ok (.iload 5, 2) := by decide +kernel
theorem dX3_multiply_9 : decode cX3_multiply 9 = .ok (.ifCond .eq 9, 3) := by decide +kernel
theorem dX3_multiply_12 : decode cX3_multiply 12 = .ok (.aload_n 0, 1) := by decide +kernel
theorem dX3_multiply_13 : decode cX3_multiply 13 = .ok (.iconst 1, 1) := by decide +kernel
theorem dX3_multiply_14 : decode cX3_multiply 14 = .ok (.putfield 24, 3) := by decide +kernel
theorem dX3_multiply_17 : decode cX3_multiply 17 = .ok (.return_, 1) := by decide +kernel
theorem dX3_multiply_18 : decode cX3_multiply 18 = .ok (.aload_n 0, 1) := by decide +kernel
theorem dX3_multiply_19 : decode cX3_multiply 19 = .ok (.aload_n 0, 1) := by decide +kernel
theorem dX3_multiply_20 : decode cX3_multiply 20 = .ok (.getfield 19, 3) := by decide +kernel
theorem dX3_multiply_23 : decode cX3_multiply 23 = .ok (.lload_n 1, 1) := by decide +kernel
theorem dX3_multiply_24 : decode cX3_multiply 24 = .ok (.lmul, 1) := by decide +kernel
theorem dX3_multiply_25 : decode cX3_multiply 25 = .ok (.aload_n 0, 1) := by decide +kernel
theorem dX3_multiply_26 : decode cX3_multiply 26 = .ok (.getfield 7, 3) := by decide +kernel
theorem dX3_multiply_29 : decode cX3_multiply 29 = .ok (.lload_n 3, 1) := by decide +kernel
theorem dX3_multiply_30 : decode cX3_multiply 30 = .ok (.lmul, 1) := by decide +kernel
theorem dX3_multiply_31 : decode cX3_multiply 31 = .ok (.invokevirtual 28, 3) := by decide +kernel
theorem dX3_multiply_34 : decode cX3_multiply 34 = .ok (.return_, 1) := by decide +kernel
def fX3_multiply_12  (h : PH) (x0 : Nat) : Option (PH) :=
  oC (decide (hT h x0 = 4)) (oL (sI h 386 x0 1) (fun h2 => some (h2)))
set_option maxHeartbeats 4000000 in
theorem wfX3_multiply_12 {args : Array Value} (b : Bd p s m c cX3_multiply 6 RX3 D aC) (hlk : meth.locks = false) (hr : meth.sig.returnType = none) {Z : State → Prop} (zs : Z s) (hZ : ZOK Z (Rg ad)) {hz : PH} {h : PH} {x0 : Nat}  {H : Heap} {locs : List Loc} {ls : Array Slot} (hf : fX3_multiply_12 h x0 = some hz) (hE : CE (EX D aC ad h) (Rg ad) s H locs) (hl : lv_has ls 6 [(0, .ref (ad x0))]) : W p l e (RM 2 55 0 0) s m args below meth c H locs 0 0 (MQ below (PQ (EX D aC ad hz) (Rg ad) none) args s 0 0 (Rg ad)) (F0 m 12 ls []) := by
  unfold fX3_multiply_12 at hf
  refine lv_aload_n b.1 b.2.1 dX3_multiply_12 rfl (lv_at hl 0 rfl) ?_
  refine lv_iconst (v := 1) b.1 b.2.1 dX3_multiply_13 (by decide) ?_
  obtain ⟨t1, hf⟩ := oC_s hf
  have t1 := of_decide_eq_true t1
  obtain ⟨h2, eh2, hf⟩ := oL_s hf
  refine pX3_24 (x := (some x0)) b hE rfl t1 (by decide) eh2 dX3_multiply_14 (fun H locs hE => ?_)
  cases hf
  exact k_vret b hlk hr hE (Nat.le_refl _) (Nat.le_refl _) dX3_multiply_17
def fX3_multiply_0  (h : PH) (x0 : Nat) (x1 : Int64) (x3 : Int64) (x5 : Int32) : Option (PH) :=
  oC (decide (hT h x0 = 4)) (if (hI h 386 x0) = 0 then (if x5 = 0 then (oB (fX3_become h x0 ((hL h 384 x0) * x1) ((hL h 385 x0) * x3)) (fun h7 => some (h7))) else (fX3_multiply_12  h x0)) else (fX3_multiply_12  h x0))
set_option maxHeartbeats 4000000 in
theorem wfX3_multiply_0 {args : Array Value} (b : Bd p s m c cX3_multiply 6 RX3 D aC) (hlk : meth.locks = false) (hr : meth.sig.returnType = none) {Z : State → Prop} (zs : Z s) (hZ : ZOK Z (Rg ad)) {hz : PH} {h : PH} {x0 : Nat} {x1 : Int64} {x3 : Int64} {x5 : Int32}  {H : Heap} {locs : List Loc} {ls : Array Slot} (hf : fX3_multiply_0 h x0 x1 x3 x5 = some hz) (hE : CE (EX D aC ad h) (Rg ad) s H locs) (hl : lv_has ls 6 [(0, .ref (ad x0)), (1, .long x1), (3, .long x3), (5, .int x5)]) : W p l e (RM 2 55 0 0) s m args below meth c H locs 0 0 (MQ below (PQ (EX D aC ad hz) (Rg ad) none) args s 0 0 (Rg ad)) (F0 m 0 ls []) := by
  unfold fX3_multiply_0 at hf
  refine lv_aload_n b.1 b.2.1 dX3_multiply_0 rfl (lv_at hl 0 rfl) ?_
  obtain ⟨t3, hf⟩ := oC_s hf
  have t3 := of_decide_eq_true t3
  refine gX3_24 (x := (some x0)) b hE rfl t3 dX3_multiply_1 ?_
  refine lv_if_ne (tgt := 12) b.1 b.2.1 dX3_multiply_4 (by decide) (fun c4 => ?_) (fun c4 => ?_)
  · have hf := oI_f c4 hf
    exact wfX3_multiply_12 b hlk hr zs hZ  hf hE (lv_sub hl [0] rfl)
  · have hf := oI_t c4 hf
    refine lv_iload b.1 b.2.1 dX3_multiply_7 (lv_at hl 3 rfl) ?_
    refine lv_if_eq (tgt := 18) b.1 b.2.1 dX3_multiply_9 (by decide) (fun c5 => ?_) (fun c5 => ?_)
    · have hf := oI_t c5 hf
      refine lv_aload_n b.1 b.2.1 dX3_multiply_18 rfl (lv_at hl 0 rfl) ?_
      refine lv_aload_n b.1 b.2.1 dX3_multiply_19 rfl (lv_at hl 0 rfl) ?_
      refine gX3_19 (x := (some x0)) b hE rfl t3 dX3_multiply_20 ?_
      refine lv_lload_n b.1 b.2.1 dX3_multiply_23 rfl (lv_at hl 1 rfl) ?_
      refine lv_lmul b.1 b.2.1 dX3_multiply_24 ?_
      refine lv_aload_n b.1 b.2.1 dX3_multiply_25 rfl (lv_at hl 0 rfl) ?_
      refine gX3_7 (x := (some x0)) b hE rfl t3 dX3_multiply_26 ?_
      refine lv_lload_n b.1 b.2.1 dX3_multiply_29 rfl (lv_at hl 2 rfl) ?_
      refine lv_lmul b.1 b.2.1 dX3_multiply_30 ?_
      obtain ⟨h7, hc6, hf⟩ := oB_s hf
      refine k_callV0 (C := RX3) b zs hZ hE (CX3_become l D aC ad hZ hc6) mc_X3_become (in4 230 rfl rfl) mi_X3_become ms_X3_become ini_RX3 ok_X3_become (x_recv b hE (ci := 3) rfl (by decide) t3) ⟨Nat.le_of_ble_eq_true rfl, Nat.le_of_ble_eq_true rfl⟩ rfl hl.1 rfl (k_room _ (Nat.le_of_ble_eq_true rfl)) ⟨Nat.le_refl _, Nat.le_refl _⟩ dX3_multiply_31 (fun H locs hE => ?_)
      cases hf
      exact k_vret b hlk hr hE (Nat.le_refl _) (Nat.le_refl _) dX3_multiply_34
    · have hf := oI_f c5 hf
      exact wfX3_multiply_12 b hlk hr zs hZ  hf hE (lv_sub hl [0] rfl)
def fX3_multiply (h : PH) (x0 : Nat) (x1 : Int64) (x3 : Int64) (x5 : Int32) : Option (PH) := fX3_multiply_0 h x0 x1 x3 x5
set_option maxHeartbeats 4000000 in
theorem CX3_multiply (l : Launch) (D : va_G) (aC : Nat → ClassId) (ad : Nat → Nat) {Z : State → Prop} (hZ : ZOK Z (Rg ad)) {h : PH} {x0 : Nat} {x1 : Int64} {x3 : Int64} {x5 : Int32} {hz : PH} (hf : fX3_multiply h x0 x1 x3 x5 = some hz) : CM l D aC Z yX3_multiply cX3_multiply 6 (none) 2 55 0 0 (EX D aC ad h) [.ref (ad x0), .long x1, .long x3, .int x5] (EX D aC ad hz) none (Rg ad) := by
  refine CM.of rfl ?_
  intro p e s m below meth c b hr hlk hin2 zs hE
  refine k_ent (Nat.le_of_ble_eq_true rfl) (fun ls hl => ?_)
  exact wfX3_multiply_0 b hlk hr zs hZ hf hE (lv_sub hl [0, 1, 2, 3] rfl)
theorem dX3_against_0 : decode cX3_against 0 = .ok (.aload_n 0, 1) := by decide +kernel
theorem dX3_against_1 : decode cX3_against 1 = .ok (.getfield 19, 3) := by decide +kernel
theorem dX3_against_4 : decode cX3_against 4 = .ok (.aload_n 1, 1) := by decide +kernel
theorem dX3_against_5 : decode cX3_against 5 = .ok (.getfield 7, 3) := by decide +kernel
theorem dX3_against_8 : decode cX3_against 8 = .ok (.lmul, 1) := by decide +kernel
theorem dX3_against_9 : decode cX3_against 9 = .ok (.aload_n 1, 1) := by decide +kernel
theorem dX3_against_10 : decode cX3_against 10 = .ok (.getfield 19, 3) := by decide +kernel
theorem dX3_against_13 : decode cX3_against 13 = .ok (.aload_n 0, 1) := by decide +kernel
theorem dX3_against_14 : decode cX3_against 14 = .ok (.getfield 7, 3) := by decide +kernel
theorem dX3_against_17 : decode cX3_against 17 = .ok (.lmul, 1) := by decide +kernel
theorem dX3_against_18 : decode cX3_against 18 = .ok (.invokestatic 32, 3) := by decide +kernel
theorem dX3_against_21 : decode cX3_against 21 = .ok (.ireturn, 1) := by decide +kernel
def fX3_against_0  (h : PH) (x0 : Nat) (x1 : Option Nat) : Option (Int32) :=
  oC (decide (hT h x0 = 4)) (oN x1 (fun a2 => oC (decide (hT h a2 = 4)) (oB (fJ13_compare_74951 ((hL h 384 x0) * (hL h 385 a2)) ((hL h 384 a2) * (hL h 385 x0))) (fun r5 => some (r5)))))
set_option maxHeartbeats 4000000 in
theorem wfX3_against_0 {args : Array Value} (b : Bd p s m c cX3_against 2 RX3 D aC) (hlk : meth.locks = false) (hr : meth.sig.returnType = some .int) {Z : State → Prop} (zs : Z s) (hZ : ZOK Z (Rg ad)) {rz : Int32} {h : PH} {x0 : Nat} {x1 : Option Nat}  {H : Heap} {locs : List Loc} {ls : Array Slot} (hf : fX3_against_0 h x0 x1 = some rz) (hE : CE (EX D aC ad h) (Rg ad) s H locs) (hl : lv_has ls 2 [(0, .ref (ad x0)), (1, va_rf (Option.map ad x1))]) : W p l e (RM 1 23 0 0) s m args below meth c H locs 0 0 (MQ below (PQ (EX D aC ad h) (Rg ad) (some (.int rz))) args s 0 0 (Rg ad)) (F0 m 0 ls []) := by
  unfold fX3_against_0 at hf
  refine lv_aload_n b.1 b.2.1 dX3_against_0 rfl (lv_at hl 0 rfl) ?_
  obtain ⟨t1, hf⟩ := oC_s hf
  have t1 := of_decide_eq_true t1
  refine gX3_19 (x := (some x0)) b hE rfl t1 dX3_against_1 ?_
  refine k_aload_n (x := Option.map ad x1) b dX3_against_4 rfl (lv_at hl 1 rfl) ?_
  obtain ⟨a2, ea2, hf⟩ := oN_s hf
  obtain ⟨t3, hf⟩ := oC_s hf
  have t3 := of_decide_eq_true t3
  refine gX3_7 (x := x1) b hE ea2 t3 dX3_against_5 ?_
  refine lv_lmul b.1 b.2.1 dX3_against_8 ?_
  refine k_aload_n (x := Option.map ad x1) b dX3_against_9 rfl (lv_at hl 1 rfl) ?_
  refine gX3_19 (x := x1) b hE ea2 t3 dX3_against_10 ?_
  refine lv_aload_n b.1 b.2.1 dX3_against_13 rfl (lv_at hl 0 rfl) ?_
  refine gX3_7 (x := (some x0)) b hE rfl t1 dX3_against_14 ?_
  refine lv_lmul b.1 b.2.1 dX3_against_17 ?_
  obtain ⟨r5, hc4, hf⟩ := oB_s hf
  refine k_callS0 b zs hZ hE (CJ13_compare_74951 l D aC hZ hc4) mc_J13_compare_74951 (in5 10 rfl rfl) mt_J13_compare_74951 ini_RJ13 ok_J13_compare_74951 ⟨Nat.le_of_ble_eq_true rfl, Nat.le_of_ble_eq_true rfl⟩ rfl hl.1 rfl (k_room _ (Nat.le_of_ble_eq_true rfl)) ⟨Nat.le_refl _, Nat.le_refl _⟩ dX3_against_18 (fun H locs hE => ?_)
  cases hf
  exact k_iret b hlk hr hE (Nat.le_refl _) (Nat.le_refl _) dX3_against_21
def fX3_against (h : PH) (x0 : Nat) (x1 : Option Nat) : Option (Int32) := fX3_against_0 h x0 x1
set_option maxHeartbeats 4000000 in
theorem CX3_against (l : Launch) (D : va_G) (aC : Nat → ClassId) (ad : Nat → Nat) {Z : State → Prop} (hZ : ZOK Z (Rg ad)) {h : PH} {x0 : Nat} {x1 : Option Nat} {rz : Int32} (hf : fX3_against h x0 x1 = some rz) : CM l D aC Z yX3_against cX3_against 2 (some .int) 1 23 0 0 (EX D aC ad h) [.ref (ad x0), va_rf (Option.map ad x1)] (EX D aC ad h) (some (.int rz)) (Rg ad) := by
  refine CM.of rfl ?_
  intro p e s m below meth c b hr hlk hin2 zs hE
  cases x1 <;> (
    refine k_ent (Nat.le_of_ble_eq_true rfl) (fun ls hl => ?_)
    exact wfX3_against_0 b hlk hr zs hZ hf hE (lv_sub hl [0, 1] rfl))
end
