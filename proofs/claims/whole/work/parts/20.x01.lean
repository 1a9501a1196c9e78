section
variable {p : Program} {l : Launch} {e : Env} {s : State} {m : MethodId} {below : List Frame} {meth : Method} {c : Code} {D : va_G} {aC : Nat → ClassId} {ad : Nat → Nat}
theorem dX0_addNumber_0 : decode cX0_addNumber 0 = .ok (.lload_n 1, 1) := by decide +kernel
theorem dX0_addNumber_1 : decode cX0_addNumber 1 = .ok (.lconst 0, 1) := by decide +kernel
theorem dX0_addNumber_2 : decode cX0_addNumber 2 = .ok (.lcmp, 1) := by decide +kernel
theorem dX0_addNumber_3 : decode cX0_addNumber 3 = .ok (.ifCond .ge 9, 3) := by decide +kernel
theorem dX0_addNumber_6 : decode cX0_addNumber 6 = .ok (.aload_n 0, 1) := by decide +kernel
theorem dX0_addNumber_7 : decode cX0_addNumber 7 = .ok (.bipush 45, 2) := by decide +kernel
theorem dX0_addNumber_9 : decode cX0_addNumber 9 = .ok (.invokevirtual 34, 3) := by decide +kernel
theorem dX0_addNumber_12 : decode cX0_addNumber 12 = .ok (.lload_n 1, 1) := by decide +kernel
theorem dX0_addNumber_13 : decode cX0_addNumber 13 = .ok (.invokestatic 49, 3) := by decide +kernel
theorem dX0_addNumber_16 : decode cX0_addNumber 16 = .ok (.lstore_n 3, 1) := by decide +kernel
theorem dX0_addNumber_17 : decode cX0_addNumber 17 = .ok (.lconst 1, 1) := by decide +kernel
theorem dX0_addNumber_18 : decode cX0_addNumber 18 = .ok (.lstore 5, 2) := by decide +kernel
theorem dX0_addNumber_20 : decode cX0_addNumber 20 = .ok (.iconst 0, 1) := by decide +kernel
theorem dX0_addNumber_21 : decode cX0_addNumber 21 = .ok (.istore 7, 2) := by decide +kernel
theorem dX0_addNumber_23 : decode cX0_addNumber 23 = .ok (.iload 7, 2) := by decide +kernel
theorem dX0_addNumber_25 : decode cX0_addNumber 25 = .ok (.bipush 18, 2) := by decide +kernel
theorem dX0_addNumber_27 : decode cX0_addNumber 27 = .ok (.if_icmp .ge 28, 3) := by decide +kernel
theorem dX0_addNumber_30 : decode cX0_addNumber 30 = .ok (.lload_n 3, 1) := by decide +kernel
theorem dX0_addNumber_31 : decode cX0_addNumber 31 = .ok (.lload 5, 2) := by decide +kernel
theorem dX0_addNumber_33 : decode cX0_addNumber 33 = .ok (.ldiv, 1) := by decide +kernel
theorem dX0_addNumber_34 : decode cX0_addNumber 34 = .ok (.ldc2_w 53, 3) := by decide +kernel
theorem dX0_addNumber_37 : decode cX0_addNumber 37 = .ok (.lcmp, 1) := by decide +kernel
theorem dX0_addNumber_38 : decode cX0_addNumber 38 = .ok (.ifCond .le 17, 3) := by decide +kernel
theorem dX0_addNumber_41 : decode cX0_addNumber 41 = .ok (.lload 5, 2) := by decide +kernel
theorem dX0_addNumber_43 : decode cX0_addNumber 43 = .ok (.ldc2_w 55, 3) := by decide +kernel
theorem dX0_addNumber_46 : decode cX0_addNumber 46 = .ok (.lmul, 1) := by decide +kernel
theorem dX0_addNumber_47 : decode cX0_addNumber 47 = .ok (.lstore 5, 2) := by decide +kernel
theorem dX0_addNumber_49 : decode cX0_addNumber 49 = .ok (.iinc 7 1, 3) := by decide +kernel
theorem dX0_addNumber_52 : decode cX0_addNumber 52 = .ok (.goto (-29), 3) := by decide +kernel
theorem dX0_addNumber_55 : decode cX0_addNumber 55 = .ok (.iconst 0, 1) := by decide +kernel
theorem dX0_addNumber_56 : decode cX0_addNumber 56 = .ok (.istore 7, 2) := by decide +kernel
theorem dX0_addNumber_58 : decode cX0_addNumber 58 = .ok (.iload 7, 2) := by decide +kernel
theorem dX0_addNumber_60 : decode cX0_addNumber 60 = .ok (.bipush 19, 2) := by decide +kernel
theorem dX0_addNumber_62 : decode cX0_addNumber 62 = .ok (.if_icmp .ge 40, 3) := by decide +kernel
theorem dX0_addNumber_65 : decode cX0_addNumber 65 = .ok (.lload 5, 2) := by decide +kernel
theorem dX0_addNumber_67 : decode cX0_addNumber 67 = .ok (.lconst 0, 1) := by decide +kernel
theorem dX0_addNumber_68 : decode cX0_addNumber 68 = .ok (.lcmp, 1) := by decide +kernel
theorem dX0_addNumber_69 : decode cX0_addNumber 69 = .ok (.ifCond .le 33, 3) := by decide +kernel
theorem dX0_addNumber_72 : decode cX0_addNumber 72 = .ok (.aload_n 0, 1) := by decide +kernel
theorem dX0_addNumber_73 : decode cX0_addNumber 73 = .ok (.bipush 48, 2) := by decide +kernel
theorem dX0_addNumber_75 : decode cX0_addNumber 75 = .ok (.lload_n 3, 1) := by decide +kernel
theorem dX0_addNumber_76 : decode cX0_addNumber 76 = .ok (.lload 5, 2) := by decide +kernel
theorem dX0_addNumber_78 : decode cX0_addNumber 78 = .ok (.ldiv, 1) := by decide +kernel
theorem dX0_addNumber_79 : decode cX0_addNumber 79 = .ok (.ldc2_w 55, 3) := by decide +kernel
theorem dX0_addNumber_82 : decode cX0_addNumber 82 = .ok (.lrem, 1) := by decide +kernel
theorem dX0_addNumber_83 : decode cX0_addNumber 83 = .ok (.l2i, 1) := by decide +kernel
theorem dX0_addNumber_84 : decode cX0_addNumber 84 = .ok (.iadd, 1) := by decide +kernel
theorem dX0_addNumber_85 : decode cX0_addNumber 85 = .ok (.invokevirtual 34, 3) := by decide +kernel
theorem dX0_addNumber_88 : decode cX0_addNumber 88 = .ok (.lload 5, 2) := by decide +kernel
theorem dX0_addNumber_90 : decode cX0_addNumber 90 = .ok (.ldc2_w 55, 3) := by decide +kernel
theorem dX0_addNumber_93 : decode cX0_addNumber 93 = .ok (.ldiv, 1) := by decide +kernel
theorem dX0_addNumber_94 : decode cX0_addNumber 94 = .ok (.lstore 5, 2) := by decide +kernel
theorem dX0_addNumber_96 : decode cX0_addNumber 96 = .ok (.iinc 7 1, 3) := by decide +kernel
theorem dX0_addNumber_99 : decode cX0_addNumber 99 = .ok (.goto (-41), 3) := by decide +kernel
theorem dX0_addNumber_102 : decode cX0_addNumber 102 = .ok (.return_, 1) := by decide +kernel
def fX0_addNumber_58F (k58 : PH → Nat → Int64 → Int64 → Int32 → Option (PH × Nat × Nat)) (h : PH) (x0 : Nat) (x3 : Int64) (x5 : Int64) (x7 : Int32) : Option (PH × Nat × Nat) :=
  if 19 ≤ x7 then (some (h, 0, 0)) else (if (lg_cmp x5 0) ≤ 0 then (some (h, 0, 0)) else (oC (decide (¬ x5 = 0)) (oC (decide (hT h x0 = 1)) (oB3 (fX0_add h x0 (48 + (Int64.toInt32 ((x3 / x5) - (x3 / x5) / 10 * 10)))) (fun h6 i7 j8 => oK3 i7 j8 (oL (x5 / 10) (fun y11 => oL (x7 + 1) (fun y12 => k58 h6 x0 x3 y11 y12))))))))
set_option maxHeartbeats 4000000 in
theorem wfX0_addNumber_58F {mc ms cells slots : Nat} {args : Array Value} (b : Bd p s m c cX0_addNumber 8 RX0 D aC) (hlk : meth.locks = false) (hr : meth.sig.returnType = none) {Z : State → Prop} (zs : Z s) (zk : ZOK Z (Rg ad)) {hz : PH} {k58 : PH → Nat → Int64 → Int64 → Int32 → Option (PH × Nat × Nat)} (H58 : ∀ (h : PH) (x0 : Nat) (x3 : Int64) (x5 : Int64) (x7 : Int32), ∀ (cells slots kz mz : Nat) (H : Heap) (locs : List Loc) (ls : Array Slot), k58 h x0 x3 x5 x7 = some (hz, kz, mz) → cells + kz ≤ mc → slots + mz ≤ ms → CE (EX D aC ad h) (Rg ad) s H locs → lv_has ls 8 [(0, .ref (ad x0)), (3, .long x3), (5, .long x5), (7, .int x7)] → W p l e (RM 3 104 mc ms) s m args below meth c H locs cells slots (MQ below (PQ (EX D aC ad hz) (Rg ad) none) args s mc ms (Rg ad)) (F0 m 58 ls [])) {h : PH} {x0 : Nat} {x3 : Int64} {x5 : Int64} {x7 : Int32} {kz : Nat} {mz : Nat}  {H : Heap} {locs : List Loc} {ls : Array Slot} (hf : fX0_addNumber_58F k58 h x0 x3 x5 x7 = some (hz, kz, mz)) (hk : cells + kz ≤ mc) (hs : slots + mz ≤ ms) (hE : CE (EX D aC ad h) (Rg ad) s H locs) (hl : lv_has ls 8 [(0, .ref (ad x0)), (3, .long x3), (5, .long x5), (7, .int x7)]) : W p l e (RM 3 104 mc ms) s m args below meth c H locs cells slots (MQ below (PQ (EX D aC ad hz) (Rg ad) none) args s mc ms (Rg ad)) (F0 m 58 ls []) := by
  unfold fX0_addNumber_58F at hf
  refine lv_iload b.1 b.2.1 dX0_addNumber_58 (lv_at hl 3 rfl) ?_
  refine lv_bipush (v := 19) b.1 b.2.1 dX0_addNumber_60 (by decide) ?_
  refine lv_icmp_ge (tgt := 102) b.1 b.2.1 dX0_addNumber_62 (by decide) (fun c1 => ?_) (fun c1 => ?_)
  · have hf := oI_t c1 hf
    cases hf
    exact k_vret b hlk hr hE (le_c hk) (le_c hs) dX0_addNumber_102
  · have hf := oI_f c1 hf
    refine lv_lload b.1 b.2.1 dX0_addNumber_65 (lv_at hl 2 rfl) ?_
    refine lv_lconst (v := 0) b.1 b.2.1 dX0_addNumber_67 rfl ?_
    refine W.lcmp b.1 b.2.1 dX0_addNumber_68 ?_
    refine lv_if_le (tgt := 102) b.1 b.2.1 dX0_addNumber_69 (by decide) (fun c2 => ?_) (fun c2 => ?_)
    · have hf := oI_t c2 hf
      cases hf
      exact k_vret b hlk hr hE (le_c hk) (le_c hs) dX0_addNumber_102
    · have hf := oI_f c2 hf
      refine lv_aload_n b.1 b.2.1 dX0_addNumber_72 rfl (lv_at hl 0 rfl) ?_
      refine lv_bipush (v := 48) b.1 b.2.1 dX0_addNumber_73 (by decide) ?_
      refine lv_lload_n b.1 b.2.1 dX0_addNumber_75 rfl (lv_at hl 1 rfl) ?_
      refine lv_lload b.1 b.2.1 dX0_addNumber_76 (lv_at hl 2 rfl) ?_
      obtain ⟨g3, hf⟩ := oC_s hf
      refine lv_ldiv b.1 b.2.1 dX0_addNumber_78 (of_decide_eq_true g3) ?_
      refine k_ldc2 (v := 10) b (in5 158 rfl rfl) dX0_addNumber_79 ?_
      refine lv_lrem b.1 b.2.1 dX0_addNumber_82 (by decide) ?_
      refine lv_l2i b.1 b.2.1 dX0_addNumber_83 rfl ?_
      refine lv_iadd b.1 b.2.1 dX0_addNumber_84 ?_
      obtain ⟨t4, hf⟩ := oC_s hf
      have t4 := of_decide_eq_true t4
      obtain ⟨h6, i7, j8, hc5, hf⟩ := oB3_s hf
      obtain ⟨i9, j10, ei9, ej10, hf⟩ := oK3_s hf
      refine k_callV (C := RX0) b zs zk hE (CX0_add l D aC ad zk hc5) mc_X0_add (in2 82 rfl rfl) mi_X0_add ms_X0_add ini_RX0 ok_X0_add (x_recv b hE (ci := 0) rfl (by decide) t4) ⟨Nat.le_of_ble_eq_true rfl, Nat.le_of_ble_eq_true rfl⟩ rfl hl.1 rfl (k_room _ (by exact Nat.le_of_ble_eq_true rfl)) ⟨le_room hk ei9, le_room hs ej10⟩ dX0_addNumber_85 (fun H locs hE => ?_)
      have hk := le_step hk ei9
      have hs := le_step hs ej10
      refine lv_lload b.1 b.2.1 dX0_addNumber_88 (lv_at hl 2 rfl) ?_
      refine k_ldc2 (v := 10) b (in5 158 rfl rfl) dX0_addNumber_90 ?_
      refine lv_ldiv b.1 b.2.1 dX0_addNumber_93 (by decide) ?_
      obtain ⟨y11, ey11, hf⟩ := oL_s hf
      refine k_nmL ey11 ?_
      refine lv_lstore (lv' := [(5, .long y11), (0, .ref (ad x0)), (3, .long x3), (7, .int x7)]) b.1 b.2.1 dX0_addNumber_94 hl (by decide) rfl (fun ls hl => ?_)
      obtain ⟨y12, ey12, hf⟩ := oL_s hf
      refine lv_iinc (v := y12) (lv' := [(7, .int y12), (5, .long y11), (0, .ref (ad x0)), (3, .long x3)]) b.1 b.2.1 dX0_addNumber_96 hl (k := 3) rfl (by rw [ey12]; rfl) (by decide) rfl (fun ls hl => ?_)
      refine lv_goto (tgt := 58) b.1 b.2.1 dX0_addNumber_99 (by decide) ?_
      exact H58 h6 x0 x3 y11 y12 _ _ _ _ _ _ _ hf hk hs hE (lv_sub hl [2, 3, 1, 0] rfl)
def fX0_addNumber_58  : Nat → PH → Nat → Int64 → Int64 → Int32 → Option (PH × Nat × Nat)
  | 0 => fun _ _ _ _ _ => none
  | n + 1 => fX0_addNumber_58F  (fX0_addNumber_58  n)
set_option maxHeartbeats 4000000 in
theorem wfX0_addNumber_58 {mc ms : Nat} {args : Array Value} (b : Bd p s m c cX0_addNumber 8 RX0 D aC) (hlk : meth.locks = false) (hr : meth.sig.returnType = none) {Z : State → Prop} (zs : Z s) (zk : ZOK Z (Rg ad)) {hz : PH} : ∀ n : Nat, ∀ (h : PH) (x0 : Nat) (x3 : Int64) (x5 : Int64) (x7 : Int32), ∀ (cells slots kz mz : Nat) (H : Heap) (locs : List Loc) (ls : Array Slot), fX0_addNumber_58  n h x0 x3 x5 x7 = some (hz, kz, mz) → cells + kz ≤ mc → slots + mz ≤ ms → CE (EX D aC ad h) (Rg ad) s H locs → lv_has ls 8 [(0, .ref (ad x0)), (3, .long x3), (5, .long x5), (7, .int x7)] → W p l e (RM 3 104 mc ms) s m args below meth c H locs cells slots (MQ below (PQ (EX D aC ad hz) (Rg ad) none) args s mc ms (Rg ad)) (F0 m 58 ls []) := by
  intro n
  induction n with
  | zero =>
    intro h x0 x3 x5 x7 cells slots kz mz H locs ls hf
    have hf : (none : Option (PH × Nat × Nat)) = some _ := hf
    cases hf
  | succ n ih =>
    intro h x0 x3 x5 x7 cells slots kz mz H locs ls hf hk hs hE hl
    exact wfX0_addNumber_58F b hlk hr zs zk  ih hf hk hs hE hl
def fX0_addNumber_55  (h : PH) (x0 : Nat) (x3 : Int64) (x5 : Int64) : Option (PH × Nat × Nat) :=
  fX0_addNumber_58  FU h x0 x3 x5 0
set_option maxHeartbeats 4000000 in
theorem wfX0_addNumber_55 {mc ms cells slots : Nat} {args : Array Value} (b : Bd p s m c cX0_addNumber 8 RX0 D aC) (hlk : meth.locks = false) (hr : meth.sig.returnType = none) {Z : State → Prop} (zs : Z s) (zk : ZOK Z (Rg ad)) {hz : PH} {h : PH} {x0 : Nat} {x3 : Int64} {x5 : Int64} {kz : Nat} {mz : Nat}  {H : Heap} {locs : List Loc} {ls : Array Slot} (hf : fX0_addNumber_55 h x0 x3 x5 = some (hz, kz, mz)) (hk : cells + kz ≤ mc) (hs : slots + mz ≤ ms) (hE : CE (EX D aC ad h) (Rg ad) s H locs) (hl : lv_has ls 8 [(0, .ref (ad x0)), (3, .long x3), (5, .long x5)]) : W p l e (RM 3 104 mc ms) s m args below meth c H locs cells slots (MQ below (PQ (EX D aC ad hz) (Rg ad) none) args s mc ms (Rg ad)) (F0 m 55 ls []) := by
  unfold fX0_addNumber_55 at hf
  refine lv_iconst (v := 0) b.1 b.2.1 dX0_addNumber_55 (by decide) ?_
  refine lv_istore (lv' := [(7, .int 0), (0, .ref (ad x0)), (3, .long x3), (5, .long x5)]) b.1 b.2.1 dX0_addNumber_56 hl (by decide) rfl (fun ls hl => ?_)
  exact wfX0_addNumber_58 b hlk hr zs zk  FU h x0 x3 x5 0 _ _ _ _ _ _ _ hf hk hs hE (lv_sub hl [1, 2, 3, 0] rfl)
def fX0_addNumber_23F (k23 : PH → Nat → Int64 → Int64 → Int32 → Option (PH × Nat × Nat)) (h : PH) (x0 : Nat) (x3 : Int64) (x5 : Int64) (x7 : Int32) : Option (PH × Nat × Nat) :=
  if 18 ≤ x7 then (fX0_addNumber_55  h x0 x3 x5) else (oC (decide (¬ x5 = 0)) (if (lg_cmp (x3 / x5) 9) ≤ 0 then (fX0_addNumber_55  h x0 x3 x5) else (oL (x5 * 10) (fun y16 => oL (x7 + 1) (fun y17 => k23 h x0 x3 y16 y17)))))
set_option maxHeartbeats 4000000 in
theorem wfX0_addNumber_23F {mc ms cells slots : Nat} {args : Array Value} (b : Bd p s m c cX0_addNumber 8 RX0 D aC) (hlk : meth.locks = false) (hr : meth.sig.returnType = none) {Z : State → Prop} (zs : Z s) (zk : ZOK Z (Rg ad)) {hz : PH} {k23 : PH → Nat → Int64 → Int64 → Int32 → Option (PH × Nat × Nat)} (H23 : ∀ (h : PH) (x0 : Nat) (x3 : Int64) (x5 : Int64) (x7 : Int32), ∀ (cells slots kz mz : Nat) (H : Heap) (locs : List Loc) (ls : Array Slot), k23 h x0 x3 x5 x7 = some (hz, kz, mz) → cells + kz ≤ mc → slots + mz ≤ ms → CE (EX D aC ad h) (Rg ad) s H locs → lv_has ls 8 [(0, .ref (ad x0)), (3, .long x3), (5, .long x5), (7, .int x7)] → W p l e (RM 3 104 mc ms) s m args below meth c H locs cells slots (MQ below (PQ (EX D aC ad hz) (Rg ad) none) args s mc ms (Rg ad)) (F0 m 23 ls [])) {h : PH} {x0 : Nat} {x3 : Int64} {x5 : Int64} {x7 : Int32} {kz : Nat} {mz : Nat}  {H : Heap} {locs : List Loc} {ls : Array Slot} (hf : fX0_addNumber_23F k23 h x0 x3 x5 x7 = some (hz, kz, mz)) (hk : cells + kz ≤ mc) (hs : slots + mz ≤ ms) (hE : CE (EX D aC ad h) (Rg ad) s H locs) (hl : lv_has ls 8 [(0, .ref (ad x0)), (3, .long x3), (5, .long x5), (7, .int x7)]) : W p l e (RM 3 104 mc ms) s m args below meth c H locs cells slots (MQ below (PQ (EX D aC ad hz) (Rg ad) none) args s mc ms (Rg ad)) (F0 m 23 ls []) := by
  unfold fX0_addNumber_23F at hf
  refine lv_iload b.1 b.2.1 dX0_addNumber_23 (lv_at hl 3 rfl) ?_
  refine lv_bipush (v := 18) b.1 b.2.1 dX0_addNumber_25 (by decide) ?_
  refine lv_icmp_ge (tgt := 55) b.1 b.2.1 dX0_addNumber_27 (by decide) (fun c13 => ?_) (fun c13 => ?_)
  · have hf := oI_t c13 hf
    exact wfX0_addNumber_55 b hlk hr zs zk  hf hk hs hE (lv_sub hl [0, 1, 2] rfl)
  · have hf := oI_f c13 hf
    refine lv_lload_n b.1 b.2.1 dX0_addNumber_30 rfl (lv_at hl 1 rfl) ?_
    refine lv_lload b.1 b.2.1 dX0_addNumber_31 (lv_at hl 2 rfl) ?_
    obtain ⟨g14, hf⟩ := oC_s hf
    refine lv_ldiv b.1 b.2.1 dX0_addNumber_33 (of_decide_eq_true g14) ?_
    refine k_ldc2 (v := 9) b (in5 157 rfl rfl) dX0_addNumber_34 ?_
    refine W.lcmp b.1 b.2.1 dX0_addNumber_37 ?_
    refine lv_if_le (tgt := 55) b.1 b.2.1 dX0_addNumber_38 (by decide) (fun c15 => ?_) (fun c15 => ?_)
    · have hf := oI_t c15 hf
      exact wfX0_addNumber_55 b hlk hr zs zk  hf hk hs hE (lv_sub hl [0, 1, 2] rfl)
    · have hf := oI_f c15 hf
      refine lv_lload b.1 b.2.1 dX0_addNumber_41 (lv_at hl 2 rfl) ?_
      refine k_ldc2 (v := 10) b (in5 158 rfl rfl) dX0_addNumber_43 ?_
      refine lv_lmul b.1 b.2.1 dX0_addNumber_46 ?_
      obtain ⟨y16, ey16, hf⟩ := oL_s hf
      refine k_nmL ey16 ?_
      refine lv_lstore (lv' := [(5, .long y16), (0, .ref (ad x0)), (3, .long x3), (7, .int x7)]) b.1 b.2.1 dX0_addNumber_47 hl (by decide) rfl (fun ls hl => ?_)
      obtain ⟨y17, ey17, hf⟩ := oL_s hf
      refine lv_iinc (v := y17) (lv' := [(7, .int y17), (5, .long y16), (0, .ref (ad x0)), (3, .long x3)]) b.1 b.2.1 dX0_addNumber_49 hl (k := 3) rfl (by rw [ey17]; rfl) (by decide) rfl (fun ls hl => ?_)
      refine lv_goto (tgt := 23) b.1 b.2.1 dX0_addNumber_52 (by decide) ?_
      exact H23 h x0 x3 y16 y17 _ _ _ _ _ _ _ hf hk hs hE (lv_sub hl [2, 3, 1, 0] rfl)
def fX0_addNumber_23  : Nat → PH → Nat → Int64 → Int64 → Int32 → Option (PH × Nat × Nat)
  | 0 => fun _ _ _ _ _ => none
  | n + 1 => fX0_addNumber_23F  (fX0_addNumber_23  n)
set_option maxHeartbeats 4000000 in
theorem wfX0_addNumber_23 {mc ms : Nat} {args : Array Value} (b : Bd p s m c cX0_addNumber 8 RX0 D aC) (hlk : meth.locks = false) (hr : meth.sig.returnType = none) {Z : State → Prop} (zs : Z s) (zk : ZOK Z (Rg ad)) {hz : PH} : ∀ n : Nat, ∀ (h : PH) (x0 : Nat) (x3 : Int64) (x5 : Int64) (x7 : Int32), ∀ (cells slots kz mz : Nat) (H : Heap) (locs : List Loc) (ls : Array Slot), fX0_addNumber_23  n h x0 x3 x5 x7 = some (hz, kz, mz) → cells + kz ≤ mc → slots + mz ≤ ms → CE (EX D aC ad h) (Rg ad) s H locs → lv_has ls 8 [(0, .ref (ad x0)), (3, .long x3), (5, .long x5), (7, .int x7)] → W p l e (RM 3 104 mc ms) s m args below meth c H locs cells slots (MQ below (PQ (EX D aC ad hz) (Rg ad) none) args s mc ms (Rg ad)) (F0 m 23 ls []) := by
  intro n
  induction n with
  | zero =>
    intro h x0 x3 x5 x7 cells slots kz mz H locs ls hf
    have hf : (none : Option (PH × Nat × Nat)) = some _ := hf
    cases hf
  | succ n ih =>
    intro h x0 x3 x5 x7 cells slots kz mz H locs ls hf hk hs hE hl
    exact wfX0_addNumber_23F b hlk hr zs zk  ih hf hk hs hE hl
def fX0_addNumber_12  (h : PH) (x0 : Nat) (x1 : Int64) : Option (PH × Nat × Nat) :=
  oL (if 0 < x1 then x1 else -x1) (fun y18 => fX0_addNumber_23  FU h x0 y18 1 0)
set_option maxHeartbeats 4000000 in
theorem wfX0_addNumber_12 {mc ms cells slots : Nat} {args : Array Value} (b : Bd p s m c cX0_addNumber 8 RX0 D aC) (hlk : meth.locks = false) (hr : meth.sig.returnType = none) {Z : State → Prop} (zs : Z s) (zk : ZOK Z (Rg ad)) {hz : PH} {h : PH} {x0 : Nat} {x1 : Int64} {kz : Nat} {mz : Nat}  {H : Heap} {locs : List Loc} {ls : Array Slot} (hf : fX0_addNumber_12 h x0 x1 = some (hz, kz, mz)) (hk : cells + kz ≤ mc) (hs : slots + mz ≤ ms) (hE : CE (EX D aC ad h) (Rg ad) s H locs) (hl : lv_has ls 8 [(0, .ref (ad x0)), (1, .long x1)]) : W p l e (RM 3 104 mc ms) s m args below meth c H locs cells slots (MQ below (PQ (EX D aC ad hz) (Rg ad) none) args s mc ms (Rg ad)) (F0 m 12 ls []) := by
  unfold fX0_addNumber_12 at hf
  refine lv_lload_n b.1 b.2.1 dX0_addNumber_12 rfl (lv_at hl 1 rfl) ?_
  refine k_abs b (in5 154 rfl rfl) mthabs_s mth_i mthabs_c hl.1 ⟨Nat.le_of_ble_eq_true rfl, Nat.le_of_ble_eq_true rfl⟩ (Nat.le_of_ble_eq_true rfl) ⟨le_c hk, le_c hs⟩ dX0_addNumber_13 ?_
  obtain ⟨y18, ey18, hf⟩ := oL_s hf
  refine k_nmL ey18 ?_
  refine lv_lstore_n (lv' := [(3, .long y18), (0, .ref (ad x0)), (1, .long x1)]) b.1 b.2.1 dX0_addNumber_16 rfl hl (by decide) rfl (fun ls hl => ?_)
  have hl := lv_sub (l' := [(3, .long y18), (0, .ref (ad x0))]) hl [0, 1] rfl
  refine lv_lconst (v := 1) b.1 b.2.1 dX0_addNumber_17 rfl ?_
  refine lv_lstore (lv' := [(5, .long 1), (3, .long y18), (0, .ref (ad x0))]) b.1 b.2.1 dX0_addNumber_18 hl (by decide) rfl (fun ls hl => ?_)
  refine lv_iconst (v := 0) b.1 b.2.1 dX0_addNumber_20 (by decide) ?_
  refine lv_istore (lv' := [(7, .int 0), (5, .long 1), (3, .long y18), (0, .ref (ad x0))]) b.1 b.2.1 dX0_addNumber_21 hl (by decide) rfl (fun ls hl => ?_)
  exact wfX0_addNumber_23 b hlk hr zs zk  FU h x0 y18 1 0 _ _ _ _ _ _ _ hf hk hs hE (lv_sub hl [3, 2, 1, 0] rfl)
def fX0_addNumber_0  (h : PH) (x0 : Nat) (x1 : Int64) : Option (PH × Nat × Nat) :=
  if 0 ≤ (lg_cmp x1 0) then (fX0_addNumber_12  h x0 x1) else (oC (decide (hT h x0 = 1)) (oB3 (fX0_add h x0 45) (fun h22 i23 j24 => oK3 i23 j24 (fX0_addNumber_12  h22 x0 x1))))
set_option maxHeartbeats 4000000 in
theorem wfX0_addNumber_0 {mc ms cells slots : Nat} {args : Array Value} (b : Bd p s m c cX0_addNumber 8 RX0 D aC) (hlk : meth.locks = false) (hr : meth.sig.returnType = none) {Z : State → Prop} (zs : Z s) (zk : ZOK Z (Rg ad)) {hz : PH} {h : PH} {x0 : Nat} {x1 : Int64} {kz : Nat} {mz : Nat}  {H : Heap} {locs : List Loc} {ls : Array Slot} (hf : fX0_addNumber_0 h x0 x1 = some (hz, kz, mz)) (hk : cells + kz ≤ mc) (hs : slots + mz ≤ ms) (hE : CE (EX D aC ad h) (Rg ad) s H locs) (hl : lv_has ls 8 [(0, .ref (ad x0)), (1, .long x1)]) : W p l e (RM 3 104 mc ms) s m args below meth c H locs cells slots (MQ below (PQ (EX D aC ad hz) (Rg ad) none) args s mc ms (Rg ad)) (F0 m 0 ls []) := by
  unfold fX0_addNumber_0 at hf
  refine lv_lload_n b.1 b.2.1 dX0_addNumber_0 rfl (lv_at hl 1 rfl) ?_
  refine lv_lconst (v := 0) b.1 b.2.1 dX0_addNumber_1 rfl ?_
  refine W.lcmp b.1 b.2.1 dX0_addNumber_2 ?_
  refine lv_if_ge (tgt := 12) b.1 b.2.1 dX0_addNumber_3 (by decide) (fun c19 => ?_) (fun c19 => ?_)
  · have hf := oI_t c19 hf
    exact wfX0_addNumber_12 b hlk hr zs zk  hf hk hs hE (lv_sub hl [0, 1] rfl)
  · have hf := oI_f c19 hf
    refine lv_aload_n b.1 b.2.1 dX0_addNumber_6 rfl (lv_at hl 0 rfl) ?_
    refine lv_bipush (v := 45) b.1 b.2.1 dX0_addNumber_7 (by decide) ?_
    obtain ⟨t20, hf⟩ := oC_s hf
    have t20 := of_decide_eq_true t20
    obtain ⟨h22, i23, j24, hc21, hf⟩ := oB3_s hf
    obtain ⟨i25, j26, ei25, ej26, hf⟩ := oK3_s hf
    refine k_callV (C := RX0) b zs zk hE (CX0_add l D aC ad zk hc21) mc_X0_add (in2 82 rfl rfl) mi_X0_add ms_X0_add ini_RX0 ok_X0_add (x_recv b hE (ci := 0) rfl (by decide) t20) ⟨Nat.le_of_ble_eq_true rfl, Nat.le_of_ble_eq_true rfl⟩ rfl hl.1 rfl (k_room _ (by exact Nat.le_of_ble_eq_true rfl)) ⟨le_room hk ei25, le_room hs ej26⟩ dX0_addNumber_9 (fun H locs hE => ?_)
    have hk := le_step hk ei25
    have hs := le_step hs ej26
    exact wfX0_addNumber_12 b hlk hr zs zk  hf hk hs hE (lv_sub hl [0, 1] rfl)
def fX0_addNumber (h : PH) (x0 : Nat) (x1 : Int64) : Option (PH × Nat × Nat) := fX0_addNumber_0 h x0 x1
set_option maxHeartbeats 4000000 in
theorem CX0_addNumber (l : Launch) (D : va_G) (aC : Nat → ClassId) (ad : Nat → Nat) {Z : State → Prop} (zk : ZOK Z (Rg ad)) {h : PH} {x0 : Nat} {x1 : Int64} {hz : PH} {kz : Nat} {mz : Nat} (hf : fX0_addNumber h x0 x1 = some (hz, kz, mz)) : CM l D aC Z yX0_addNumber cX0_addNumber 8 (none) 3 104 kz mz (EX D aC ad h) [.ref (ad x0), .long x1] (EX D aC ad hz) none (Rg ad) := by
  refine CM.of rfl ?_
  intro p e s m below meth c b hr hlk hin2 zs hE
  refine k_ent (Nat.le_of_ble_eq_true rfl) (fun ls hl => ?_)
  exact wfX0_addNumber_0 b hlk hr zs zk hf (by omega) (by omega) hE (lv_sub hl [0, 1] rfl)
theorem dX7_init_0 : decode cX7_init 0 = .ok (.aload_n 0, 1) := by decide +kernel
theorem dX7_init_1 : decode cX7_init 1 = .ok (.invokespecial 3, 3) := by decide +kernel
theorem dX7_init_4 : decode cX7_init 4 = .ok (.aload_n 0, 1) := by decide +kernel
theorem dX7_init_5 : decode cX7_init 5 = .ok (.iconst 0, 1) := by decide +kernel
theorem dX7_init_6 : decode cX7_init 6 = .ok (.iload_n 1, 1) := by decide +kernel
theorem dX7_init_7 : decode cX7_init 7 = .ok (.invokestatic 9, 3) := by decide +kernel
theorem dX7_init_10 : decode cX7_init 10 = .ok (.newarray .long, 2) := by decide +kernel
theorem dX7_init_12 : decode cX7_init 12 = .ok (.putfield 15, 3) := by decide +kernel
theorem dX7_init_15 : decode cX7_init 15 = .ok (.return_, 1) := by decide +kernel
def fX7_init_0  (h : PH) (x0 : Nat) (x1 : Int32) : Option (PH × Nat × Nat) :=
  oC (decide (0 ≤ (if 0 < x1 then x1 else 0))) (oC (decide ((Int32.toNatClampNeg (if 0 < x1 then x1 else 0)) * 8 ≤ 536870912)) (oL (nA h 102 (Int32.toNatClampNeg (if 0 < x1 then x1 else 0))) (fun h5 => oK3 1 (Int32.toNatClampNeg (if 0 < x1 then x1 else 0)) (oC (decide (hT h5 x0 = 8)) (oL (sR h5 896 x0 (some (hZ h))) (fun h8 => some (h8, 0, 0)))))))
set_option maxHeartbeats 4000000 in
theorem wfX7_init_0 {mc ms cells slots : Nat} {args : Array Value} (b : Bd p s m c cX7_init 2 RX7 D aC) (hlk : meth.locks = false) (hr : meth.sig.returnType = none) {Z : State → Prop} (zs : Z s) (zk : ZOK Z (Rg ad)) (hin2 : meth.name = "<init>") {hz : PH} {h : PH} {x0 : Nat} {x1 : Int32} {kz : Nat} {mz : Nat}  {H : Heap} {locs : List Loc} {ls : Array Slot} (hf : fX7_init_0 h x0 x1 = some (hz, kz, mz)) (hk : cells + kz ≤ mc) (hs : slots + mz ≤ ms) (hE : CE (EX D aC ad h) (Rg ad) s H locs) (hl : lv_has ls 2 [(0, .ref (ad x0)), (1, .int x1)]) : W p l e (RM 1 24 mc ms) s m args below meth c H locs cells slots (MQ below (PQ (EX D aC ad hz) (Rg ad) none) args s mc ms (Rg ad)) (F0 m 0 ls []) := by
  unfold fX7_init_0 at hf
  refine lv_aload_n b.1 b.2.1 dX7_init_0 rfl (lv_at hl 0 rfl) ?_
  refine k_objInit b (in1 57 rfl rfl) objI objC hl.1 ⟨Nat.le_of_ble_eq_true rfl, Nat.le_of_ble_eq_true rfl⟩ (Nat.le_of_ble_eq_true rfl) dX7_init_1 ?_
  refine lv_aload_n b.1 b.2.1 dX7_init_4 rfl (lv_at hl 0 rfl) ?_
  refine lv_iconst (v := 0) b.1 b.2.1 dX7_init_5 (by decide) ?_
  refine lv_iload_n b.1 b.2.1 dX7_init_6 rfl (lv_at hl 1 rfl) ?_
  refine k_max b (in1 58 rfl rfl) mthmax_s mth_i mthmax_c hl.1 ⟨Nat.le_of_ble_eq_true rfl, Nat.le_of_ble_eq_true rfl⟩ (Nat.le_of_ble_eq_true rfl) ⟨le_c hk, le_c hs⟩ dX7_init_7 ?_
  obtain ⟨g1, hf⟩ := oC_s hf
  obtain ⟨g2, hf⟩ := oC_s hf
  obtain ⟨h5, eh5, hf⟩ := oL_s hf
  obtain ⟨i3, j4, ei3, ej4, hf⟩ := oK3_s hf
  have t6 := tg_nA0 eh5
  refine q_newa2 b hE (in1 74 rfl rfl) g1 g2 (le_room hk ei3) (le_room hs ej4) eh5 dX7_init_10 (fun H hE => ?_)
  have hk := le_step hk ei3
  have hs := le_step hs ej4
  obtain ⟨t7, hf⟩ := oC_s hf
  have t7 := of_decide_eq_true t7
  obtain ⟨h8, eh8, hf⟩ := oL_s hf
  refine pX7_15 (x := (some x0)) (v := (some (hZ h))) b hin2 hE rfl t7 eh8 dX7_init_12 (fun H locs hE => ?_)
  cases hf
  exact k_vret b hlk hr hE (le_c hk) (le_c hs) dX7_init_15
def fX7_init (h : PH) (x0 : Nat) (x1 : Int32) : Option (PH × Nat × Nat) := fX7_init_0 h x0 x1
set_option maxHeartbeats 4000000 in
theorem CX7_init (l : Launch) (D : va_G) (aC : Nat → ClassId) (ad : Nat → Nat) {Z : State → Prop} (zk : ZOK Z (Rg ad)) {h : PH} {x0 : Nat} {x1 : Int32} {hz : PH} {kz : Nat} {mz : Nat} (hf : fX7_init h x0 x1 = some (hz, kz, mz)) : CM l D aC Z yX7_init cX7_init 2 (none) 1 24 kz mz (EX D aC ad h) [.ref (ad x0), .int x1] (EX D aC ad hz) none (Rg ad) := by
  refine CM.of rfl ?_
  intro p e s m below meth c b hr hlk hin2 zs hE
  refine k_ent (Nat.le_of_ble_eq_true rfl) (fun ls hl => ?_)
  exact wfX7_init_0 b hlk hr zs zk hin2 hf (by omega) (by omega) hE (lv_sub hl [0, 1] rfl)
theorem dX1_init_0 : decode cX1_init 0 = .ok (.aload_n 0, 1) := by decide +kernel
theorem dX1_init_1 : decode cX1_init 1 = .ok (.invokespecial 3, 3) := by decide +kernel
theorem dX1_init_4 : decode cX1_init 4 = .ok (.aload_n 0, 1) := by decide +kernel
theorem dX1_init_5 : decode cX1_init 5 = .ok (.new 9, 3) := by decide +kernel
theorem dX1_init_8 : decode cX1_init 8 = .ok (.dup, 1) := by decide +kernel
theorem dX1_init_9 : decode cX1_init 9 = .ok (.iconst 5, 1) := by decide +kernel
theorem dX1_init_10 : decode cX1_init 10 = .ok (.invokespecial 11, 3) := by decide +kernel
theorem dX1_init_13 : decode cX1_init 13 = .ok (.putfield 14, 3) := by decide +kernel
theorem dX1_init_16 : decode cX1_init 16 = .ok (.aload_n 0, 1) := by decide +kernel
theorem dX1_init_17 : decode cX1_init 17 = .ok (.new 9, 3) := by decide +kernel
theorem dX1_init_20 : decode cX1_init 20 = .ok (.dup, 1) := by decide +kernel
theorem dX1_init_21 : decode cX1_init 21 = .ok (.bipush 12, 2) := by decide +kernel
theorem dX1_init_23 : decode cX1_init 23 = .ok (.invokespecial 11, 3) := by decide +kernel
theorem dX1_init_26 : decode cX1_init 26 = .ok (.putfield 20, 3) := by decide +kernel
theorem dX1_init_29 : decode cX1_init 29 = .ok (.aload_n 0, 1) := by decide +kernel
theorem dX1_init_30 : decode cX1_init 30 = .ok (.new 9, 3) := by decide +kernel
theorem dX1_init_33 : decode cX1_init 33 = .ok (.dup, 1) := by decide +kernel
theorem dX1_init_34 : decode cX1_init 34 = .ok (.iconst 4, 1) := by decide +kernel
theorem dX1_init_35 : decode cX1_init 35 = .ok (.invokespecial 11, 3) := by decide +kernel
theorem dX1_init_38 : decode cX1_init 38 = .ok (.putfield 23, 3) := by decide +kernel
theorem dX1_init_41 : decode cX1_init 41 = .ok (.aload_n 0, 1) := by decide +kernel
theorem dX1_init_42 : decode cX1_init 42 = .ok (.new 9, 3) := by decide +kernel
theorem dX1_init_45 : decode cX1_init 45 = .ok (.dup, 1) := by decide +kernel
theorem dX1_init_46 : decode cX1_init 46 = .ok (.bipush 10, 2) := by decide +kernel
theorem dX1_init_48 : decode cX1_init 48 = .ok (.invokespecial 11, 3) := by decide +kernel
theorem dX1_init_51 : decode cX1_init 51 = .ok (.putfield 26, 3) := by decide +kernel
theorem dX1_init_54 : decode cX1_init 54 = .ok (.aload_n 0, 1) := by decide +kernel
theorem dX1_init_55 : decode cX1_init 55 = .ok (.new 9, 3) := by decide +kernel
theorem dX1_init_58 : decode cX1_init 58 = .ok (.dup, 1) := by decide +kernel
theorem dX1_init_59 : decode cX1_init 59 = .ok (.bipush 30, 2) := by decide +kernel
theorem dX1_init_61 : decode cX1_init 61 = .ok (.invokespecial 11, 3) := by decide +kernel
theorem dX1_init_64 : decode cX1_init 64 = .ok (.putfield 29, 3) := by decide +kernel
theorem dX1_init_67 : decode cX1_init 67 = .ok (.aload_n 0, 1) := by decide +kernel
theorem dX1_init_68 : decode cX1_init 68 = .ok (.bipush 12, 2) := by decide +kernel
theorem dX1_init_70 : decode cX1_init 70 = .ok (.newarray .int, 2) := by decide +kernel
theorem dX1_init_72 : decode cX1_init 72 = .ok (.putfield 32, 3) := by decide +kernel
theorem dX1_init_75 : decode cX1_init 75 = .ok (.aload_n 0, 1) := by decide +kernel
theorem dX1_init_76 : decode cX1_init 76 = .ok (.bipush 20, 2) := by decide +kernel
theorem dX1_init_78 : decode cX1_init 78 = .ok (.newarray .int, 2) := by decide +kernel
theorem dX1_init_80 : decode cX1_init 80 = .ok (.putfield 36, 3) := by decide +kernel
theorem dX1_init_83 : decode cX1_init 83 = .ok (.aload_n 0, 1) := by decide +kernel
theorem dX1_init_84 : decode cX1_init 84 = .ok (.bipush 50, 2) := by decide +kernel
theorem dX1_init_86 : decode cX1_init 86 = .ok (.newarray .int, 2) := by decide +kernel
theorem dX1_init_88 : decode cX1_init 88 = .ok (.putfield 39, 3) := by decide +kernel
theorem dX1_init_91 : decode cX1_init 91 = .ok (.aload_n 0, 1) := by decide +kernel
theorem dX1_init_92 : decode cX1_init 92 = .ok (.bipush 30, 2) := by decide +kernel
theorem dX1_init_94 : decode cX1_init 94 = .ok (.anewarray 42, 3) := by decide +kernel
theorem dX1_init_97 : decode cX1_init 97 = .ok (.putfield 44, 3) := by decide +kernel
theorem dX1_init_100 : decode cX1_init 100 = .ok (.aload_n 0, 1) := by decide +kernel
theorem dX1_init_101 : decode cX1_init 101 = .ok (.bipush 20, 2) := by decide +kernel
theorem dX1_init_103 : decode cX1_init 103 = .ok (.newarray .int, 2) := by decide +kernel
theorem dX1_init_105 : decode cX1_init 105 = .ok (.putfield 48, 3) := by decide +kernel
theorem dX1_init_108 : decode cX1_init 108 = .ok (.aload_n 0, 1) := by decide +kernel
theorem dX1_init_109 : decode cX1_init 109 = .ok (.bipush 20, 2) := by decide +kernel
theorem dX1_init_111 : decode cX1_init 111 = .ok (.newarray .int, 2) := by decide +kernel
theorem dX1_init_113 : decode cX1_init 113 = .ok (.putfield 51, 3) := by decide +kernel
theorem dX1_init_116 : decode cX1_init 116 = .ok (.aload_n 0, 1) := by decide +kernel
theorem dX1_init_117 : decode cX1_init 117 = .ok (.bipush 16, 2) := by decide +kernel
theorem dX1_init_119 : decode cX1_init 119 = .ok (.newarray .int, 2) := by decide +kernel
theorem dX1_init_121 : decode cX1_init 121 = .ok (.putfield 54, 3) := by decide +kernel
theorem dX1_init_124 : decode cX1_init 124 = .ok (.return_, 1) := by decide +kernel
def fX1_init_0  (h : PH) (x0 : Nat) : Option (PH × Nat × Nat) :=
  oL (nO h 8) (fun h3 => oK3 1 3 (oB3 (fX7_init h3 (hZ h) 5) (fun h6 i7 j8 => oK3 i7 j8 (oC (decide (hT h6 x0 = 2)) (oL (sR h6 128 x0 (some (hZ h))) (fun h12 => oL (nO h12 8) (fun h16 => oK3 1 3 (oB3 (fX7_init h16 (hZ h12) 12) (fun h20 i21 j22 => oK3 i21 j22 (oC (decide (hT h20 x0 = 2)) (oL (sR h20 129 x0 (some (hZ h12))) (fun h26 => oL (nO h26 8) (fun h30 => oK3 1 3 (oB3 (fX7_init h30 (hZ h26) 4) (fun h34 i35 j36 => oK3 i35 j36 (oC (decide (hT h34 x0 = 2)) (oL (sR h34 130 x0 (some (hZ h26))) (fun h40 => oL (nO h40 8) (fun h44 => oK3 1 3 (oB3 (fX7_init h44 (hZ h40) 10) (fun h48 i49 j50 => oK3 i49 j50 (oC (decide (hT h48 x0 = 2)) (oL (sR h48 131 x0 (some (hZ h40))) (fun h54 => oL (nO h54 8) (fun h58 => oK3 1 3 (oB3 (fX7_init h58 (hZ h54) 30) (fun h62 i63 j64 => oK3 i63 j64 (oC (decide (hT h62 x0 = 2)) (oL (sR h62 132 x0 (some (hZ h54))) (fun h68 => oL (nA h68 101 (Int32.toNatClampNeg 12)) (fun h72 => oK3 1 (Int32.toNatClampNeg 12) (oL (sR h72 133 x0 (some (hZ h68))) (fun h75 => oL (nA h75 101 (Int32.toNatClampNeg 20)) (fun h80 => oK3 1 (Int32.toNatClampNeg 20) (oL (sR h80 134 x0 (some (hZ h75))) (fun h84 => oL (nA h84 101 (Int32.toNatClampNeg 50)) (fun h90 => oK3 1 (Int32.toNatClampNeg 50) (oL (sR h90 135 x0 (some (hZ h84))) (fun h95 => oL (nA h95 104 (Int32.toNatClampNeg 30)) (fun h102 => oK3 1 (Int32.toNatClampNeg 30) (oL (sR h102 136 x0 (some (hZ h95))) (fun h108 => oL (nA h108 101 (Int32.toNatClampNeg 20)) (fun h116 => oK3 1 (Int32.toNatClampNeg 20) (oL (sR h116 137 x0 (some (hZ h108))) (fun h123 => oL (nA h123 101 (Int32.toNatClampNeg 20)) (fun h132 => oK3 1 (Int32.toNatClampNeg 20) (oL (sR h132 138 x0 (some (hZ h123))) (fun h140 => oL (nA h140 101 (Int32.toNatClampNeg 16)) (fun h150 => oK3 1 (Int32.toNatClampNeg 16) (oL (sR h150 141 x0 (some (hZ h140))) (fun h159 => some (h159, 0, 0))))))))))))))))))))))))))))))))))))))))))))))))))))
set_option maxHeartbeats 4000000 in
theorem wfX1_init_0 {mc ms cells slots : Nat} {args : Array Value} (b : Bd p s m c cX1_init 1 RX1 D aC) (hlk : meth.locks = false) (hr : meth.sig.returnType = none) {Z : State → Prop} (zs : Z s) (zk : ZOK Z (Rg ad)) (hin2 : meth.name = "<init>") {hz : PH} {h : PH} {x0 : Nat} {kz : Nat} {mz : Nat}  {H : Heap} {locs : List Loc} {ls : Array Slot} (hf : fX1_init_0 h x0 = some (hz, kz, mz)) (hk : cells + kz ≤ mc) (hs : slots + mz ≤ ms) (hE : CE (EX D aC ad h) (Rg ad) s H locs) (hl : lv_has ls 1 [(0, .ref (ad x0))]) : W p l e (RM 2 45 mc ms) s m args below meth c H locs cells slots (MQ below (PQ (EX D aC ad hz) (Rg ad) none) args s mc ms (Rg ad)) (F0 m 0 ls []) := by
  unfold fX1_init_0 at hf
  refine lv_aload_n b.1 b.2.1 dX1_init_0 rfl (lv_at hl 0 rfl) ?_
  refine k_objInit b (in1 51 rfl rfl) objI objC hl.1 ⟨Nat.le_of_ble_eq_true rfl, Nat.le_of_ble_eq_true rfl⟩ (Nat.le_of_ble_eq_true rfl) dX1_init_1 ?_
  refine lv_aload_n b.1 b.2.1 dX1_init_4 rfl (lv_at hl 0 rfl) ?_
  obtain ⟨h3, eh3, hf⟩ := oL_s hf
  obtain ⟨i1, j2, ei1, ej2, hf⟩ := oK3_s hf
  have t4 := tg_nO0 eh3
  refine nX1_9 b hE (le_room hk ei1) (le_room hs ej2) eh3 dX1_init_5 (fun H hE => ?_)
  have hk := le_step hk ei1
  have hs := le_step hs ej2
  refine lv_dup b.1 b.2.1 dX1_init_8 rfl ?_
  refine lv_iconst (v := 5) b.1 b.2.1 dX1_init_9 (by decide) ?_
  obtain ⟨h6, i7, j8, hc5, hf⟩ := oB3_s hf
  obtain ⟨i9, j10, ei9, ej10, hf⟩ := oK3_s hf
  refine k_callI b zs zk hE (CX7_init l D aC ad zk hc5) mc_X7_init (in1 54 rfl rfl) mi_X7_init ini_RX7 rfl ok_X7_init ⟨Nat.le_of_ble_eq_true rfl, Nat.le_of_ble_eq_true rfl⟩ rfl hl.1 rfl (k_room _ (by exact Nat.le_of_ble_eq_true rfl)) ⟨le_room hk ei9, le_room hs ej10⟩ dX1_init_10 (fun H locs hE => ?_)
  have hk := le_step hk ei9
  have hs := le_step hs ej10
  obtain ⟨t11, hf⟩ := oC_s hf
  have t11 := of_decide_eq_true t11
  obtain ⟨h12, eh12, hf⟩ := oL_s hf
  refine pX1_14 (x := (some x0)) (v := (some (hZ h))) b hin2 hE rfl t11 eh12 dX1_init_13 (fun H locs hE => ?_)
  refine lv_aload_n b.1 b.2.1 dX1_init_16 rfl (lv_at hl 0 rfl) ?_
  have t13 := tg_sR eh12 t11
  obtain ⟨h16, eh16, hf⟩ := oL_s hf
  obtain ⟨i14, j15, ei14, ej15, hf⟩ := oK3_s hf
  have t17 := tg_nO (t := 1) hE eh16 t13
  have t18 := tg_nO0 eh16
  refine nX1_9 b hE (le_room hk ei14) (le_room hs ej15) eh16 dX1_init_17 (fun H hE => ?_)
  have hk := le_step hk ei14
  have hs := le_step hs ej15
  refine lv_dup b.1 b.2.1 dX1_init_20 rfl ?_
  refine lv_bipush (v := 12) b.1 b.2.1 dX1_init_21 (by decide) ?_
  obtain ⟨h20, i21, j22, hc19, hf⟩ := oB3_s hf
  obtain ⟨i23, j24, ei23, ej24, hf⟩ := oK3_s hf
  refine k_callI b zs zk hE (CX7_init l D aC ad zk hc19) mc_X7_init (in1 54 rfl rfl) mi_X7_init ini_RX7 rfl ok_X7_init ⟨Nat.le_of_ble_eq_true rfl, Nat.le_of_ble_eq_true rfl⟩ rfl hl.1 rfl (k_room _ (by exact Nat.le_of_ble_eq_true rfl)) ⟨le_room hk ei23, le_room hs ej24⟩ dX1_init_23 (fun H locs hE => ?_)
  have hk := le_step hk ei23
  have hs := le_step hs ej24
  obtain ⟨t25, hf⟩ := oC_s hf
  have t25 := of_decide_eq_true t25
  obtain ⟨h26, eh26, hf⟩ := oL_s hf
  refine pX1_20 (x := (some x0)) (v := (some (hZ h12))) b hin2 hE rfl t25 eh26 dX1_init_26 (fun H locs hE => ?_)
  refine lv_aload_n b.1 b.2.1 dX1_init_29 rfl (lv_at hl 0 rfl) ?_
  have t27 := tg_sR eh26 t25
  obtain ⟨h30, eh30, hf⟩ := oL_s hf
  obtain ⟨i28, j29, ei28, ej29, hf⟩ := oK3_s hf
  have t31 := tg_nO (t := 1) hE eh30 t27
  have t32 := tg_nO0 eh30
  refine nX1_9 b hE (le_room hk ei28) (le_room hs ej29) eh30 dX1_init_30 (fun H hE => ?_)
  have hk := le_step hk ei28
  have hs := le_step hs ej29
  refine lv_dup b.1 b.2.1 dX1_init_33 rfl ?_
  refine lv_iconst (v := 4) b.1 b.2.1 dX1_init_34 (by decide) ?_
  obtain ⟨h34, i35, j36, hc33, hf⟩ := oB3_s hf
  obtain ⟨i37, j38, ei37, ej38, hf⟩ := oK3_s hf
  refine k_callI b zs zk hE (CX7_init l D aC ad zk hc33) mc_X7_init (in1 54 rfl rfl) mi_X7_init ini_RX7 rfl ok_X7_init ⟨Nat.le_of_ble_eq_true rfl, Nat.le_of_ble_eq_true rfl⟩ rfl hl.1 rfl (k_room _ (by exact Nat.le_of_ble_eq_true rfl)) ⟨le_room hk ei37, le_room hs ej38⟩ dX1_init_35 (fun H locs hE => ?_)
  have hk := le_step hk ei37
  have hs := le_step hs ej38
  obtain ⟨t39, hf⟩ := oC_s hf
  have t39 := of_decide_eq_true t39
  obtain ⟨h40, eh40, hf⟩ := oL_s hf
  refine pX1_23 (x := (some x0)) (v := (some (hZ h26))) b hin2 hE rfl t39 eh40 dX1_init_38 (fun H locs hE => ?_)
  refine lv_aload_n b.1 b.2.1 dX1_init_41 rfl (lv_at hl 0 rfl) ?_
  have t41 := tg_sR eh40 t39
  obtain ⟨h44, eh44, hf⟩ := oL_s hf
  obtain ⟨i42, j43, ei42, ej43, hf⟩ := oK3_s hf
  have t45 := tg_nO (t := 1) hE eh44 t41
  have t46 := tg_nO0 eh44
  refine nX1_9 b hE (le_room hk ei42) (le_room hs ej43) eh44 dX1_init_42 (fun H hE => ?_)
  have hk := le_step hk ei42
  have hs := le_step hs ej43
  refine lv_dup b.1 b.2.1 dX1_init_45 rfl ?_
  refine lv_bipush (v := 10) b.1 b.2.1 dX1_init_46 (by decide) ?_
  obtain ⟨h48, i49, j50, hc47, hf⟩ := oB3_s hf
  obtain ⟨i51, j52, ei51, ej52, hf⟩ := oK3_s hf
  refine k_callI b zs zk hE (CX7_init l D aC ad zk hc47) mc_X7_init (in1 54 rfl rfl) mi_X7_init ini_RX7 rfl ok_X7_init ⟨Nat.le_of_ble_eq_true rfl, Nat.le_of_ble_eq_true rfl⟩ rfl hl.1 rfl (k_room _ (by exact Nat.le_of_ble_eq_true rfl)) ⟨le_room hk ei51, le_room hs ej52⟩ dX1_init_48 (fun H locs hE => ?_)
  have hk := le_step hk ei51
  have hs := le_step hs ej52
  obtain ⟨t53, hf⟩ := oC_s hf
  have t53 := of_decide_eq_true t53
  obtain ⟨h54, eh54, hf⟩ := oL_s hf
  refine pX1_26 (x := (some x0)) (v := (some (hZ h40))) b hin2 hE rfl t53 eh54 dX1_init_51 (fun H locs hE => ?_)
  refine lv_aload_n b.1 b.2.1 dX1_init_54 rfl (lv_at hl 0 rfl) ?_
  have t55 := tg_sR eh54 t53
  obtain ⟨h58, eh58, hf⟩ := oL_s hf
  obtain ⟨i56, j57, ei56, ej57, hf⟩ := oK3_s hf
  have t59 := tg_nO (t := 1) hE eh58 t55
  have t60 := tg_nO0 eh58
  refine nX1_9 b hE (le_room hk ei56) (le_room hs ej57) eh58 dX1_init_55 (fun H hE => ?_)
  have hk := le_step hk ei56
  have hs := le_step hs ej57
  refine lv_dup b.1 b.2.1 dX1_init_58 rfl ?_
  refine lv_bipush (v := 30) b.1 b.2.1 dX1_init_59 (by decide) ?_
  obtain ⟨h62, i63, j64, hc61, hf⟩ := oB3_s hf
  obtain ⟨i65, j66, ei65, ej66, hf⟩ := oK3_s hf
  refine k_callI b zs zk hE (CX7_init l D aC ad zk hc61) mc_X7_init (in1 54 rfl rfl) mi_X7_init ini_RX7 rfl ok_X7_init ⟨Nat.le_of_ble_eq_true rfl, Nat.le_of_ble_eq_true rfl⟩ rfl hl.1 rfl (k_room _ (by exact Nat.le_of_ble_eq_true rfl)) ⟨le_room hk ei65, le_room hs ej66⟩ dX1_init_61 (fun H locs hE => ?_)
  have hk := le_step hk ei65
  have hs := le_step hs ej66
  obtain ⟨t67, hf⟩ := oC_s hf
  have t67 := of_decide_eq_true t67
  obtain ⟨h68, eh68, hf⟩ := oL_s hf
  refine pX1_29 (x := (some x0)) (v := (some (hZ h54))) b hin2 hE rfl t67 eh68 dX1_init_64 (fun H locs hE => ?_)
  refine lv_aload_n b.1 b.2.1 dX1_init_67 rfl (lv_at hl 0 rfl) ?_
  refine lv_bipush (v := 12) b.1 b.2.1 dX1_init_68 (by decide) ?_
  have t69 := tg_sR eh68 t67
  obtain ⟨h72, eh72, hf⟩ := oL_s hf
  obtain ⟨i70, j71, ei70, ej71, hf⟩ := oK3_s hf
  have t73 := tg_nA (t := 1) hE eh72 t69
  have t74 := tg_nA0 eh72
  refine q_newa1 b hE (in1 147 rfl rfl) (by decide) (by decide) (le_room hk ei70) (le_room hs ej71) eh72 dX1_init_70 (fun H hE => ?_)
  have hk := le_step hk ei70
  have hs := le_step hs ej71
  obtain ⟨h75, eh75, hf⟩ := oL_s hf
  refine pX1_32 (x := (some x0)) (v := (some (hZ h68))) b hin2 hE rfl t73 eh75 dX1_init_72 (fun H locs hE => ?_)
  refine lv_aload_n b.1 b.2.1 dX1_init_75 rfl (lv_at hl 0 rfl) ?_
  refine lv_bipush (v := 20) b.1 b.2.1 dX1_init_76 (by decide) ?_
  have t76 := tg_sR eh75 t73
  have t77 := tg_sR eh75 t74
  obtain ⟨h80, eh80, hf⟩ := oL_s hf
  obtain ⟨i78, j79, ei78, ej79, hf⟩ := oK3_s hf
  have t81 := tg_nA (t := 1) hE eh80 t76
  have t82 := tg_nA (t := 100) hE eh80 t77
  have t83 := tg_nA0 eh80
  refine q_newa1 b hE (in1 147 rfl rfl) (by decide) (by decide) (le_room hk ei78) (le_room hs ej79) eh80 dX1_init_78 (fun H hE => ?_)
  have hk := le_step hk ei78
  have hs := le_step hs ej79
  obtain ⟨h84, eh84, hf⟩ := oL_s hf
  refine pX1_36 (x := (some x0)) (v := (some (hZ h75))) b hin2 hE rfl t81 eh84 dX1_init_80 (fun H locs hE => ?_)
  refine lv_aload_n b.1 b.2.1 dX1_init_83 rfl (lv_at hl 0 rfl) ?_
  refine lv_bipush (v := 50) b.1 b.2.1 dX1_init_84 (by decide) ?_
  have t85 := tg_sR eh84 t81
  have t86 := tg_sR eh84 t82
  have t87 := tg_sR eh84 t83
  obtain ⟨h90, eh90, hf⟩ := oL_s hf
  obtain ⟨i88, j89, ei88, ej89, hf⟩ := oK3_s hf
  have t91 := tg_nA (t := 1) hE eh90 t85
  have t92 := tg_nA (t := 100) hE eh90 t86
  have t93 := tg_nA (t := 100) hE eh90 t87
  have t94 := tg_nA0 eh90
  refine q_newa1 b hE (in1 147 rfl rfl) (by decide) (by decide) (le_room hk ei88) (le_room hs ej89) eh90 dX1_init_86 (fun H hE => ?_)
  have hk := le_step hk ei88
  have hs := le_step hs ej89
  obtain ⟨h95, eh95, hf⟩ := oL_s hf
  refine pX1_39 (x := (some x0)) (v := (some (hZ h84))) b hin2 hE rfl t91 eh95 dX1_init_88 (fun H locs hE => ?_)
  refine lv_aload_n b.1 b.2.1 dX1_init_91 rfl (lv_at hl 0 rfl) ?_
  refine lv_bipush (v := 30) b.1 b.2.1 dX1_init_92 (by decide) ?_
  have t96 := tg_sR eh95 t91
  have t97 := tg_sR eh95 t92
  have t98 := tg_sR eh95 t93
  have t99 := tg_sR eh95 t94
  obtain ⟨h102, eh102, hf⟩ := oL_s hf
  obtain ⟨i100, j101, ei100, ej101, hf⟩ := oK3_s hf
  have t103 := tg_nA (t := 1) hE eh102 t96
  have t104 := tg_nA (t := 100) hE eh102 t97
  have t105 := tg_nA (t := 100) hE eh102 t98
  have t106 := tg_nA (t := 100) hE eh102 t99
  have t107 := tg_nA0 eh102
  refine q_newq4 b hE (in1 75 rfl rfl) (by decide) (by decide) (le_room hk ei100) (le_room hs ej101) eh102 dX1_init_94 (fun H hE => ?_)
  have hk := le_step hk ei100
  have hs := le_step hs ej101
  obtain ⟨h108, eh108, hf⟩ := oL_s hf
  refine pX1_44 (x := (some x0)) (v := (some (hZ h95))) b hin2 hE rfl t103 eh108 dX1_init_97 (fun H locs hE => ?_)
  refine lv_aload_n b.1 b.2.1 dX1_init_100 rfl (lv_at hl 0 rfl) ?_
  refine lv_bipush (v := 20) b.1 b.2.1 dX1_init_101 (by decide) ?_
  have t109 := tg_sR eh108 t103
  have t110 := tg_sR eh108 t104
  have t111 := tg_sR eh108 t105
  have t112 := tg_sR eh108 t106
  have t113 := tg_sR eh108 t107
  obtain ⟨h116, eh116, hf⟩ := oL_s hf
  obtain ⟨i114, j115, ei114, ej115, hf⟩ := oK3_s hf
  have t117 := tg_nA (t := 1) hE eh116 t109
  have t118 := tg_nA (t := 100) hE eh116 t110
  have t119 := tg_nA (t := 100) hE eh116 t111
  have t120 := tg_nA (t := 100) hE eh116 t112
  have t121 := tg_nA (t := 103) hE eh116 t113
  have t122 := tg_nA0 eh116
  refine q_newa1 b hE (in1 147 rfl rfl) (by decide) (by decide) (le_room hk ei114) (le_room hs ej115) eh116 dX1_init_103 (fun H hE => ?_)
  have hk := le_step hk ei114
  have hs := le_step hs ej115
  obtain ⟨h123, eh123, hf⟩ := oL_s hf
  refine pX1_48 (x := (some x0)) (v := (some (hZ h108))) b hin2 hE rfl t117 eh123 dX1_init_105 (fun H locs hE => ?_)
  refine lv_aload_n b.1 b.2.1 dX1_init_108 rfl (lv_at hl 0 rfl) ?_
  refine lv_bipush (v := 20) b.1 b.2.1 dX1_init_109 (by decide) ?_
  have t124 := tg_sR eh123 t117
  have t125 := tg_sR eh123 t118
  have t126 := tg_sR eh123 t119
  have t127 := tg_sR eh123 t120
  have t128 := tg_sR eh123 t121
  have t129 := tg_sR eh123 t122
  obtain ⟨h132, eh132, hf⟩ := oL_s hf
  obtain ⟨i130, j131, ei130, ej131, hf⟩ := oK3_s hf
  have t133 := tg_nA (t := 1) hE eh132 t124
  have t134 := tg_nA (t := 100) hE eh132 t125
  have t135 := tg_nA (t := 100) hE eh132 t126
  have t136 := tg_nA (t := 100) hE eh132 t127
  have t137 := tg_nA (t := 103) hE eh132 t128
  have t138 := tg_nA (t := 100) hE eh132 t129
  have t139 := tg_nA0 eh132
  refine q_newa1 b hE (in1 147 rfl rfl) (by decide) (by decide) (le_room hk ei130) (le_room hs ej131) eh132 dX1_init_111 (fun H hE => ?_)
  have hk := le_step hk ei130
  have hs := le_step hs ej131
  obtain ⟨h140, eh140, hf⟩ := oL_s hf
  refine pX1_51 (x := (some x0)) (v := (some (hZ h123))) b hin2 hE rfl t133 eh140 dX1_init_113 (fun H locs hE => ?_)
  refine lv_aload_n b.1 b.2.1 dX1_init_116 rfl (lv_at hl 0 rfl) ?_
  refine lv_bipush (v := 16) b.1 b.2.1 dX1_init_117 (by decide) ?_
  have t141 := tg_sR eh140 t133
  have t142 := tg_sR eh140 t134
  have t143 := tg_sR eh140 t135
  have t144 := tg_sR eh140 t136
  have t145 := tg_sR eh140 t137
  have t146 := tg_sR eh140 t138
  have t147 := tg_sR eh140 t139
  obtain ⟨h150, eh150, hf⟩ := oL_s hf
  obtain ⟨i148, j149, ei148, ej149, hf⟩ := oK3_s hf
  have t151 := tg_nA (t := 1) hE eh150 t141
  have t152 := tg_nA (t := 100) hE eh150 t142
  have t153 := tg_nA (t := 100) hE eh150 t143
  have t154 := tg_nA (t := 100) hE eh150 t144
  have t155 := tg_nA (t := 103) hE eh150 t145
  have t156 := tg_nA (t := 100) hE eh150 t146
  have t157 := tg_nA (t := 100) hE eh150 t147
  have t158 := tg_nA0 eh150
  refine q_newa1 b hE (in1 147 rfl rfl) (by decide) (by decide) (le_room hk ei148) (le_room hs ej149) eh150 dX1_init_119 (fun H hE => ?_)
  have hk := le_step hk ei148
  have hs := le_step hs ej149
  obtain ⟨h159, eh159, hf⟩ := oL_s hf
  refine pX1_54 (x := (some x0)) (v := (some (hZ h140))) b hE rfl t151 eh159 dX1_init_121 (fun H locs hE => ?_)
  cases hf
  exact k_vret b hlk hr hE (le_c hk) (le_c hs) dX1_init_124
def fX1_init (h : PH) (x0 : Nat) : Option (PH × Nat × Nat) := fX1_init_0 h x0
set_option maxHeartbeats 4000000 in
theorem CX1_init (l : Launch) (D : va_G) (aC : Nat → ClassId) (ad : Nat → Nat) {Z : State → Prop} (zk : ZOK Z (Rg ad)) {h : PH} {x0 : Nat} {hz : PH} {kz : Nat} {mz : Nat} (hf : fX1_init h x0 = some (hz, kz, mz)) : CM l D aC Z yX1_init cX1_init 1 (none) 2 45 kz mz (EX D aC ad h) [.ref (ad x0)] (EX D aC ad hz) none (Rg ad) := by
  refine CM.of rfl ?_
  intro p e s m below meth c b hr hlk hin2 zs hE
  refine k_ent (Nat.le_of_ble_eq_true rfl) (fun ls hl => ?_)
  exact wfX1_init_0 b hlk hr zs zk hin2 hf (by omega) (by omega) hE (lv_sub hl [0] rfl)
theorem dX1_keep_0 : decode cX1_keep 0 = .ok (.aload_n 0, 1) := by decide +kernel
theorem dX1_keep_1 : decode cX1_keep 1 = .ok (.getfield 14, 3) := by decide +kernel
theorem dX1_keep_4 : decode cX1_keep 4 = .ok (.aload_n 0, 1) := by decide +kernel
theorem dX1_keep_5 : decode cX1_keep 5 = .ok (.getfield 14, 3) := by decide +kernel
theorem dX1_keep_8 : decode cX1_keep 8 = .ok (.getfield 57, 3) := by decide +kernel
theorem dX1_keep_11 : decode cX1_keep 11 = .ok (.putfield 61, 3) := by decide +kernel
theorem dX1_keep_14 : decode cX1_keep 14 = .ok (.aload_n 0, 1) := by decide +kernel
theorem dX1_keep_15 : decode cX1_keep 15 = .ok (.getfield 20, 3) := by decide +kernel
theorem dX1_keep_18 : decode cX1_keep 18 = .ok (.aload_n 0, 1) := by decide +kernel
theorem dX1_keep_19 : decode cX1_keep 19 = .ok (.getfield 20, 3) := by decide +kernel
theorem dX1_keep_22 : decode cX1_keep 22 = .ok (.getfield 57, 3) := by decide +kernel
theorem dX1_keep_25 : decode cX1_keep 25 = .ok (.putfield 61, 3) := by decide +kernel
theorem dX1_keep_28 : decode cX1_keep 28 = .ok (.aload_n 0, 1) := by decide +kernel
theorem dX1_keep_29 : decode cX1_keep 29 = .ok (.getfield 23, 3) := by decide +kernel
theorem dX1_keep_32 : decode cX1_keep 32 = .ok (.aload_n 0, 1) := by decide +kernel
theorem dX1_keep_33 : decode cX1_keep 33 = .ok (.getfield 23, 3) := by decide +kernel
theorem dX1_keep_36 : decode cX1_keep 36 = .ok (.getfield 57, 3) := by decide +kernel
theorem dX1_keep_39 : decode cX1_keep 39 = .ok (.putfield 61, 3) := by decide +kernel
theorem dX1_keep_42 : decode cX1_keep 42 = .ok (.aload_n 0, 1) := by decide +kernel
theorem dX1_keep_43 : decode cX1_keep 43 = .ok (.getfield 26, 3) := by decide +kernel
theorem dX1_keep_46 : decode cX1_keep 46 = .ok (.aload_n 0, 1) := by decide +kernel
theorem dX1_keep_47 : decode cX1_keep 47 = .ok (.getfield 26, 3) := by decide +kernel
theorem dX1_keep_50 : decode cX1_keep 50 = .ok (.getfield 57, 3) := by decide +kernel
theorem dX1_keep_53 : decode cX1_keep 53 = .ok (.putfield 61, 3) := by decide +kernel
theorem dX1_keep_56 : decode cX1_keep 56 = .ok (.aload_n 0, 1) := by decide +kernel
theorem dX1_keep_57 : decode cX1_keep 57 = .ok (.getfield 29, 3) := by decide +kernel
theorem dX1_keep_60 : decode cX1_keep 60 = .ok (.aload_n 0, 1) := by decide +kernel
theorem dX1_keep_61 : decode cX1_keep 61 = .ok (.getfield 29, 3) := by decide +kernel
theorem dX1_keep_64 : decode cX1_keep 64 = .ok (.getfield 57, 3) := by decide +kernel
theorem dX1_keep_67 : decode cX1_keep 67 = .ok (.putfield 61, 3) := by decide +kernel
theorem dX1_keep_70 : decode cX1_keep 70 = .ok (.aload_n 0, 1) := by decide +kernel
theorem dX1_keep_71 : decode cX1_keep 71 = .ok (.aload_n 0, 1) := by decide +kernel
theorem dX1_keep_72 : decode cX1_keep 72 = .ok (.getfield 64, 3) := by decide +kernel
theorem dX1_keep_75 : decode cX1_keep 75 = .ok (.putfield 67, 3) := by decide +kernel
theorem dX1_keep_78 : decode cX1_keep 78 = .ok (.aload_n 0, 1) := by decide +kernel
theorem dX1_keep_79 : decode cX1_keep 79 = .ok (.aload_n 0, 1) := by decide +kernel
theorem dX1_keep_80 : decode cX1_keep 80 = .ok (.getfield 70, 3) := by decide +kernel
theorem dX1_keep_83 : decode cX1_keep 83 = .ok (.putfield 73, 3) := by decide +kernel
theorem dX1_keep_86 : decode cX1_keep 86 = .ok (.return_, 1) := by decide +kernel
def fX1_keep_0  (h : PH) (x0 : Nat) : Option (PH) :=
  oC (decide (hT h x0 = 2)) (oN (hR h 128 x0) (fun a2 => oC (decide (hT h a2 = 8)) (oL (sI h 898 a2 (hI h 897 a2)) (fun h4 => oN (hR h4 129 x0) (fun a6 => oC (decide (hT h4 a6 = 8)) (oL (sI h4 898 a6 (hI h4 897 a6)) (fun h8 => oN (hR h8 130 x0) (fun a10 => oC (decide (hT h8 a10 = 8)) (oL (sI h8 898 a10 (hI h8 897 a10)) (fun h12 => oN (hR h12 131 x0) (fun a14 => oC (decide (hT h12 a14 = 8)) (oL (sI h12 898 a14 (hI h12 897 a14)) (fun h16 => oN (hR h16 132 x0) (fun a18 => oC (decide (hT h16 a18 = 8)) (oL (sI h16 898 a18 (hI h16 897 a18)) (fun h20 => oL (sI h20 140 x0 (hI h20 139 x0)) (fun h22 => oL (sI h22 143 x0 (hI h22 142 x0)) (fun h24 => some (h24)))))))))))))))))))
set_option maxHeartbeats 4000000 in
theorem wfX1_keep_0 {args : Array Value} (b : Bd p s m c cX1_keep 1 RX1 D aC) (hlk : meth.locks = false) (hr : meth.sig.returnType = none) {Z : State → Prop} (zs : Z s) (zk : ZOK Z (Rg ad)) {hz : PH} {h : PH} {x0 : Nat}  {H : Heap} {locs : List Loc} {ls : Array Slot} (hf : fX1_keep_0 h x0 = some hz) (hE : CE (EX D aC ad h) (Rg ad) s H locs) (hl : lv_has ls 1 [(0, .ref (ad x0))]) : W p l e (RM 0 0 0 0) s m args below meth c H locs 0 0 (MQ below (PQ (EX D aC ad hz) (Rg ad) none) args s 0 0 (Rg ad)) (F0 m 0 ls []) := by
  unfold fX1_keep_0 at hf
  refine lv_aload_n b.1 b.2.1 dX1_keep_0 rfl (lv_at hl 0 rfl) ?_
  obtain ⟨t1, hf⟩ := oC_s hf
  have t1 := of_decide_eq_true t1
  refine gX1_14 (x := (some x0)) b hE rfl t1 dX1_keep_1 ?_
  refine lv_aload_n b.1 b.2.1 dX1_keep_4 rfl (lv_at hl 0 rfl) ?_
  refine gX1_14 (x := (some x0)) b hE rfl t1 dX1_keep_5 ?_
  obtain ⟨a2, ea2, hf⟩ := oN_s hf
  obtain ⟨t3, hf⟩ := oC_s hf
  have t3 := of_decide_eq_true t3
  refine gX1_57 (x := (hR h 128 x0)) b hE ea2 t3 dX1_keep_8 ?_
  obtain ⟨h4, eh4, hf⟩ := oL_s hf
  refine pX1_61 (x := (hR h 128 x0)) b hE ea2 t3 eh4 dX1_keep_11 (fun H locs hE => ?_)
  refine lv_aload_n b.1 b.2.1 dX1_keep_14 rfl (lv_at hl 0 rfl) ?_
  have t5 := tg_sI eh4 t1
  refine gX1_20 (x := (some x0)) b hE rfl t5 dX1_keep_15 ?_
  refine lv_aload_n b.1 b.2.1 dX1_keep_18 rfl (lv_at hl 0 rfl) ?_
  refine gX1_20 (x := (some x0)) b hE rfl t5 dX1_keep_19 ?_
  obtain ⟨a6, ea6, hf⟩ := oN_s hf
  obtain ⟨t7, hf⟩ := oC_s hf
  have t7 := of_decide_eq_true t7
  refine gX1_57 (x := (hR h4 129 x0)) b hE ea6 t7 dX1_keep_22 ?_
  obtain ⟨h8, eh8, hf⟩ := oL_s hf
  refine pX1_61 (x := (hR h4 129 x0)) b hE ea6 t7 eh8 dX1_keep_25 (fun H locs hE => ?_)
  refine lv_aload_n b.1 b.2.1 dX1_keep_28 rfl (lv_at hl 0 rfl) ?_
  have t9 := tg_sI eh8 t5
  refine gX1_23 (x := (some x0)) b hE rfl t9 dX1_keep_29 ?_
  refine lv_aload_n b.1 b.2.1 dX1_keep_32 rfl (lv_at hl 0 rfl) ?_
  refine gX1_23 (x := (some x0)) b hE rfl t9 dX1_keep_33 ?_
  obtain ⟨a10, ea10, hf⟩ := oN_s hf
  obtain ⟨t11, hf⟩ := oC_s hf
  have t11 := of_decide_eq_true t11
  refine gX1_57 (x := (hR h8 130 x0)) b hE ea10 t11 dX1_keep_36 ?_
  obtain ⟨h12, eh12, hf⟩ := oL_s hf
  refine pX1_61 (x := (hR h8 130 x0)) b hE ea10 t11 eh12 dX1_keep_39 (fun H locs hE => ?_)
  refine lv_aload_n b.1 b.2.1 dX1_keep_42 rfl (lv_at hl 0 rfl) ?_
  have t13 := tg_sI eh12 t9
  refine gX1_26 (x := (some x0)) b hE rfl t13 dX1_keep_43 ?_
  refine lv_aload_n b.1 b.2.1 dX1_keep_46 rfl (lv_at hl 0 rfl) ?_
  refine gX1_26 (x := (some x0)) b hE rfl t13 dX1_keep_47 ?_
  obtain ⟨a14, ea14, hf⟩ := oN_s hf
  obtain ⟨t15, hf⟩ := oC_s hf
  have t15 := of_decide_eq_true t15
  refine gX1_57 (x := (hR h12 131 x0)) b hE ea14 t15 dX1_keep_50 ?_
  obtain ⟨h16, eh16, hf⟩ := oL_s hf
  refine pX1_61 (x := (hR h12 131 x0)) b hE ea14 t15 eh16 dX1_keep_53 (fun H locs hE => ?_)
  refine lv_aload_n b.1 b.2.1 dX1_keep_56 rfl (lv_at hl 0 rfl) ?_
  have t17 := tg_sI eh16 t13
  refine gX1_29 (x := (some x0)) b hE rfl t17 dX1_keep_57 ?_
  refine lv_aload_n b.1 b.2.1 dX1_keep_60 rfl (lv_at hl 0 rfl) ?_
  refine gX1_29 (x := (some x0)) b hE rfl t17 dX1_keep_61 ?_
  obtain ⟨a18, ea18, hf⟩ := oN_s hf
  obtain ⟨t19, hf⟩ := oC_s hf
  have t19 := of_decide_eq_true t19
  refine gX1_57 (x := (hR h16 132 x0)) b hE ea18 t19 dX1_keep_64 ?_
  obtain ⟨h20, eh20, hf⟩ := oL_s hf
  refine pX1_61 (x := (hR h16 132 x0)) b hE ea18 t19 eh20 dX1_keep_67 (fun H locs hE => ?_)
  refine lv_aload_n b.1 b.2.1 dX1_keep_70 rfl (lv_at hl 0 rfl) ?_
  refine lv_aload_n b.1 b.2.1 dX1_keep_71 rfl (lv_at hl 0 rfl) ?_
  have t21 := tg_sI eh20 t17
  refine gX1_64 (x := (some x0)) b hE rfl t21 dX1_keep_72 ?_
  obtain ⟨h22, eh22, hf⟩ := oL_s hf
  refine pX1_67 (x := (some x0)) b hE rfl t21 eh22 dX1_keep_75 (fun H locs hE => ?_)
  refine lv_aload_n b.1 b.2.1 dX1_keep_78 rfl (lv_at hl 0 rfl) ?_
  refine lv_aload_n b.1 b.2.1 dX1_keep_79 rfl (lv_at hl 0 rfl) ?_
  have t23 := tg_sI eh22 t21
  refine gX1_70 (x := (some x0)) b hE rfl t23 dX1_keep_80 ?_
  obtain ⟨h24, eh24, hf⟩ := oL_s hf
  refine pX1_73 (x := (some x0)) b hE rfl t23 eh24 dX1_keep_83 (fun H locs hE => ?_)
  cases hf
  exact k_vret b hlk hr hE (Nat.le_refl _) (Nat.le_refl _) dX1_keep_86
def fX1_keep (h : PH) (x0 : Nat) : Option (PH) := fX1_keep_0 h x0
set_option maxHeartbeats 4000000 in
theorem CX1_keep (l : Launch) (D : va_G) (aC : Nat → ClassId) (ad : Nat → Nat) {Z : State → Prop} (zk : ZOK Z (Rg ad)) {h : PH} {x0 : Nat} {hz : PH} (hf : fX1_keep h x0 = some hz) : CM l D aC Z yX1_keep cX1_keep 1 (none) 0 0 0 0 (EX D aC ad h) [.ref (ad x0)] (EX D aC ad hz) none (Rg ad) := by
  refine CM.of rfl ?_
  intro p e s m below meth c b hr hlk hin2 zs hE
  refine k_ent (Nat.le_of_ble_eq_true rfl) (fun ls hl => ?_)
  exact wfX1_keep_0 b hlk hr zs zk hf hE (lv_sub hl [0] rfl)
theorem dX1_drop_0 : decode cX1_drop 0 = .ok (.aload_n 0, 1) := by decide +kernel
theorem dX1_drop_1 : decode cX1_drop 1 = .ok (.getfield 14, 3) := by decide +kernel
theorem dX1_drop_4 : decode cX1_drop 4 = .ok (.aload_n 0, 1) := by decide +kernel
theorem dX1_drop_5 : decode cX1_drop 5 = .ok (.getfield 14, 3) := by decide +kernel
theorem dX1_drop_8 : decode cX1_drop 8 = .ok (.getfield 61, 3) := by decide +kernel
theorem dX1_drop_11 : decode cX1_drop 11 = .ok (.putfield 57, 3) := by decide +kernel
theorem dX1_drop_14 : decode cX1_drop 14 = .ok (.aload_n 0, 1) := by decide +kernel
theorem dX1_drop_15 : decode cX1_drop 15 = .ok (.getfield 20, 3) := by decide +kernel
theorem dX1_drop_18 : decode cX1_drop 18 = .ok (.aload_n 0, 1) := by decide +kernel
theorem dX1_drop_19 : decode cX1_drop 19 = .ok (.getfield 20, 3) := by decide +kernel
theorem dX1_drop_22 : decode cX1_drop 22 = .ok (.getfield 61, 3) := by decide +kernel
theorem dX1_drop_25 : decode cX1_drop 25 = .ok (.putfield 57, 3) := by decide +kernel
theorem dX1_drop_28 : decode cX1_drop 28 = .ok (.aload_n 0, 1) := by decide +kernel
theorem dX1_drop_29 : decode cX1_drop 29 = .ok (.getfield 23, 3) := by decide +kernel
theorem dX1_drop_32 : decode cX1_drop 32 = .ok (.aload_n 0, 1) := by decide +kernel
theorem dX1_drop_33 : decode cX1_drop 33 = .ok (.getfield 23, 3) := by decide +kernel
theorem dX1_drop_36 : decode cX1_drop 36 = .ok (.getfield 61, 3) := by decide +kernel
theorem dX1_drop_39 : decode cX1_drop 39 = .ok (.putfield 57, 3) := by decide +kernel
theorem dX1_drop_42 : decode cX1_drop 42 = .ok (.aload_n 0, 1) := by decide +kernel
theorem dX1_drop_43 : decode cX1_drop 43 = .ok (.getfield 26, 3) := by decide +kernel
theorem dX1_drop_46 : decode cX1_drop 46 = .ok (.aload_n 0, 1) := by decide +kernel
theorem dX1_drop_47 : decode cX1_drop 47 = .ok (.getfield 26, 3) := by decide +kernel
theorem dX1_drop_50 : decode cX1_drop 50 = .ok (.getfield 61, 3) := by decide +kernel
theorem dX1_drop_53 : decode cX1_drop 53 = .ok (.putfield 57, 3) := by decide +kernel
theorem dX1_drop_56 : decode cX1_drop 56 = .ok (.aload_n 0, 1) := by decide +kernel
theorem dX1_drop_57 : decode cX1_drop 57 = .ok (.getfield 29, 3) := by decide +kernel
theorem dX1_drop_60 : decode cX1_drop 60 = .ok (.aload_n 0, 1) := by decide +kernel
theorem dX1_drop_61 : decode cX1_drop 61 = .ok (.getfield 29, 3) := by decide +kernel
theorem dX1_drop_64 : decode cX1_drop 64 = .ok (.getfield 61, 3) := by decide +kernel
theorem dX1_drop_67 : decode cX1_drop 67 = .ok (.putfield 57, 3) := by decide +kernel
theorem dX1_drop_70 : decode cX1_drop 70 = .ok (.aload_n 0, 1) := by decide +kernel
theorem dX1_drop_71 : decode cX1_drop 71 = .ok (.aload_n 0, 1) := by decide +kernel
theorem dX1_drop_72 : decode cX1_drop 72 = .ok (.getfield 67, 3) := by decide +kernel
theorem dX1_drop_75 : decode cX1_drop 75 = .ok (.putfield 64, 3) := by decide +kernel
theorem dX1_drop_78 : decode cX1_drop 78 = .ok (.aload_n 0, 1) := by decide +kernel
theorem dX1_drop_79 : decode cX1_drop 79 = .ok (.aload_n 0, 1) := by decide +kernel
theorem dX1_drop_80 : decode cX1_drop 80 = .ok (.getfield 73, 3) := by decide +kernel
theorem dX1_drop_83 : decode cX1_drop 83 = .ok (.putfield 70, 3) := by decide +kernel
theorem dX1_drop_86 : decode cX1_drop 86 = .ok (.return_, 1) := by decide +kernel
def fX1_drop_0  (h : PH) (x0 : Nat) : Option (PH) :=
  oC (decide (hT h x0 = 2)) (oN (hR h 128 x0) (fun a2 => oC (decide (hT h a2 = 8)) (oL (sI h 897 a2 (hI h 898 a2)) (fun h4 => oN (hR h4 129 x0) (fun a6 => oC (decide (hT h4 a6 = 8)) (oL (sI h4 897 a6 (hI h4 898 a6)) (fun h8 => oN (hR h8 130 x0) (fun a10 => oC (decide (hT h8 a10 = 8)) (oL (sI h8 897 a10 (hI h8 898 a10)) (fun h12 => oN (hR h12 131 x0) (fun a14 => oC (decide (hT h12 a14 = 8)) (oL (sI h12 897 a14 (hI h12 898 a14)) (fun h16 => oN (hR h16 132 x0) (fun a18 => oC (decide (hT h16 a18 = 8)) (oL (sI h16 897 a18 (hI h16 898 a18)) (fun h20 => oL (sI h20 139 x0 (hI h20 140 x0)) (fun h22 => oL (sI h22 142 x0 (hI h22 143 x0)) (fun h24 => some (h24)))))))))))))))))))
set_option maxHeartbeats 4000000 in
theorem wfX1_drop_0 {args : Array Value} (b : Bd p s m c cX1_drop 1 RX1 D aC) (hlk : meth.locks = false) (hr : meth.sig.returnType = none) {Z : State → Prop} (zs : Z s) (zk : ZOK Z (Rg ad)) {hz : PH} {h : PH} {x0 : Nat}  {H : Heap} {locs : List Loc} {ls : Array Slot} (hf : fX1_drop_0 h x0 = some hz) (hE : CE (EX D aC ad h) (Rg ad) s H locs) (hl : lv_has ls 1 [(0, .ref (ad x0))]) : W p l e (RM 0 0 0 0) s m args below meth c H locs 0 0 (MQ below (PQ (EX D aC ad hz) (Rg ad) none) args s 0 0 (Rg ad)) (F0 m 0 ls []) := by
  unfold fX1_drop_0 at hf
  refine lv_aload_n b.1 b.2.1 dX1_drop_0 rfl (lv_at hl 0 rfl) ?_
  obtain ⟨t1, hf⟩ := oC_s hf
  have t1 := of_decide_eq_true t1
  refine gX1_14 (x := (some x0)) b hE rfl t1 dX1_drop_1 ?_
  refine lv_aload_n b.1 b.2.1 dX1_drop_4 rfl (lv_at hl 0 rfl) ?_
  refine gX1_14 (x := (some x0)) b hE rfl t1 dX1_drop_5 ?_
  obtain ⟨a2, ea2, hf⟩ := oN_s hf
  obtain ⟨t3, hf⟩ := oC_s hf
  have t3 := of_decide_eq_true t3
  refine gX1_61 (x := (hR h 128 x0)) b hE ea2 t3 dX1_drop_8 ?_
  obtain ⟨h4, eh4, hf⟩ := oL_s hf
  refine pX1_57 (x := (hR h 128 x0)) b hE ea2 t3 eh4 dX1_drop_11 (fun H locs hE => ?_)
  refine lv_aload_n b.1 b.2.1 dX1_drop_14 rfl (lv_at hl 0 rfl) ?_
  have t5 := tg_sI eh4 t1
  refine gX1_20 (x := (some x0)) b hE rfl t5 dX1_drop_15 ?_
  refine lv_aload_n b.1 b.2.1 dX1_drop_18 rfl (lv_at hl 0 rfl) ?_
  refine gX1_20 (x := (some x0)) b hE rfl t5 dX1_drop_19 ?_
  obtain ⟨a6, ea6, hf⟩ := oN_s hf
  obtain ⟨t7, hf⟩ := oC_s hf
  have t7 := of_decide_eq_true t7
  refine gX1_61 (x := (hR h4 129 x0)) b hE ea6 t7 dX1_drop_22 ?_
  obtain ⟨h8, eh8, hf⟩ := oL_s hf
  refine pX1_57 (x := (hR h4 129 x0)) b hE ea6 t7 eh8 dX1_drop_25 (fun H locs hE => ?_)
  refine lv_aload_n b.1 b.2.1 dX1_drop_28 rfl (lv_at hl 0 rfl) ?_
  have t9 := tg_sI eh8 t5
  refine gX1_23 (x := (some x0)) b hE rfl t9 dX1_drop_29 ?_
  refine lv_aload_n b.1 b.2.1 dX1_drop_32 rfl (lv_at hl 0 rfl) ?_
  refine gX1_23 (x := (some x0)) b hE rfl t9 dX1_drop_33 ?_
  obtain ⟨a10, ea10, hf⟩ := oN_s hf
  obtain ⟨t11, hf⟩ := oC_s hf
  have t11 := of_decide_eq_true t11
  refine gX1_61 (x := (hR h8 130 x0)) b hE ea10 t11 dX1_drop_36 ?_
  obtain ⟨h12, eh12, hf⟩ := oL_s hf
  refine pX1_57 (x := (hR h8 130 x0)) b hE ea10 t11 eh12 dX1_drop_39 (fun H locs hE => ?_)
  refine lv_aload_n b.1 b.2.1 dX1_drop_42 rfl (lv_at hl 0 rfl) ?_
  have t13 := tg_sI eh12 t9
  refine gX1_26 (x := (some x0)) b hE rfl t13 dX1_drop_43 ?_
  refine lv_aload_n b.1 b.2.1 dX1_drop_46 rfl (lv_at hl 0 rfl) ?_
  refine gX1_26 (x := (some x0)) b hE rfl t13 dX1_drop_47 ?_
  obtain ⟨a14, ea14, hf⟩ := oN_s hf
  obtain ⟨t15, hf⟩ := oC_s hf
  have t15 := of_decide_eq_true t15
  refine gX1_61 (x := (hR h12 131 x0)) b hE ea14 t15 dX1_drop_50 ?_
  obtain ⟨h16, eh16, hf⟩ := oL_s hf
  refine pX1_57 (x := (hR h12 131 x0)) b hE ea14 t15 eh16 dX1_drop_53 (fun H locs hE => ?_)
  refine lv_aload_n b.1 b.2.1 dX1_drop_56 rfl (lv_at hl 0 rfl) ?_
  have t17 := tg_sI eh16 t13
  refine gX1_29 (x := (some x0)) b hE rfl t17 dX1_drop_57 ?_
  refine lv_aload_n b.1 b.2.1 dX1_drop_60 rfl (lv_at hl 0 rfl) ?_
  refine gX1_29 (x := (some x0)) b hE rfl t17 dX1_drop_61 ?_
  obtain ⟨a18, ea18, hf⟩ := oN_s hf
  obtain ⟨t19, hf⟩ := oC_s hf
  have t19 := of_decide_eq_true t19
  refine gX1_61 (x := (hR h16 132 x0)) b hE ea18 t19 dX1_drop_64 ?_
  obtain ⟨h20, eh20, hf⟩ := oL_s hf
  refine pX1_57 (x := (hR h16 132 x0)) b hE ea18 t19 eh20 dX1_drop_67 (fun H locs hE => ?_)
  refine lv_aload_n b.1 b.2.1 dX1_drop_70 rfl (lv_at hl 0 rfl) ?_
  refine lv_aload_n b.1 b.2.1 dX1_drop_71 rfl (lv_at hl 0 rfl) ?_
  have t21 := tg_sI eh20 t17
  refine gX1_67 (x := (some x0)) b hE rfl t21 dX1_drop_72 ?_
  obtain ⟨h22, eh22, hf⟩ := oL_s hf
  refine pX1_64 (x := (some x0)) b hE rfl t21 eh22 dX1_drop_75 (fun H locs hE => ?_)
  refine lv_aload_n b.1 b.2.1 dX1_drop_78 rfl (lv_at hl 0 rfl) ?_
  refine lv_aload_n b.1 b.2.1 dX1_drop_79 rfl (lv_at hl 0 rfl) ?_
  have t23 := tg_sI eh22 t21
  refine gX1_73 (x := (some x0)) b hE rfl t23 dX1_drop_80 ?_
  obtain ⟨h24, eh24, hf⟩ := oL_s hf
  refine pX1_70 (x := (some x0)) b hE rfl t23 eh24 dX1_drop_83 (fun H locs hE => ?_)
  cases hf
  exact k_vret b hlk hr hE (Nat.le_refl _) (Nat.le_refl _) dX1_drop_86
def fX1_drop (h : PH) (x0 : Nat) : Option (PH) := fX1_drop_0 h x0
set_option maxHeartbeats 4000000 in
theorem CX1_drop (l : Launch) (D : va_G) (aC : Nat → ClassId) (ad : Nat → Nat) {Z : State → Prop} (zk : ZOK Z (Rg ad)) {h : PH} {x0 : Nat} {hz : PH} (hf : fX1_drop h x0 = some hz) : CM l D aC Z yX1_drop cX1_drop 1 (none) 0 0 0 0 (EX D aC ad h) [.ref (ad x0)] (EX D aC ad hz) none (Rg ad) := by
  refine CM.of rfl ?_
  intro p e s m below meth c b hr hlk hin2 zs hE
  refine k_ent (Nat.le_of_ble_eq_true rfl) (fun ls hl => ?_)
  exact wfX1_drop_0 b hlk hr zs zk hf hE (lv_sub hl [0] rfl)
theorem dX1_placesOf_0 : decode cX1_placesOf 0 = .ok (.iload_n 1, 1) := by decide +kernel
theorem dX1_placesOf_1 : decode cX1_placesOf 1 = .ok (.ifCond .lt 23, 3) := by decide +kernel
theorem dX1_placesOf_4 : decode cX1_placesOf 4 = .ok (.iload_n 1, 1) := by decide +kernel
theorem dX1_placesOf_5 : decode cX1_placesOf 5 = .ok (.aload_n 0, 1) := by decide +kernel
theorem dX1_placesOf_6 : decode cX1_placesOf 6 = .ok (.getfield 20, 3) := by decide +kernel
theorem dX1_placesOf_9 : decode cX1_placesOf 9 = .ok (.getfield 57, 3) := by decide +kernel
theorem dX1_placesOf_12 : decode cX1_placesOf 12 = .ok (.if_icmp .ge 12, 3) := by decide +kernel
theorem dX1_placesOf_15 : decode cX1_placesOf 15 = .ok (.aload_n 0, 1) := by decide +kernel
theorem dX1_placesOf_16 : decode cX1_placesOf 16 = .ok (.getfield 32, 3) := by decide +kernel
theorem dX1_placesOf_19 : decode cX1_placesOf 19 = .ok (.iload_n 1, 1) := by decide +kernel
theorem dX1_placesOf_20 : decode cX1_placesOf 20 = .ok (.iaload, 1) := by decide +kernel
theorem dX1_placesOf_21 : decode cX1_placesOf 21 = .ok (.goto 4, 3) := by decide +kernel
theorem dX1_placesOf_24 : decode cX1_placesOf 24 = .ok (.iconst (-1), 1) := by decide +kernel
theorem dX1_placesOf_25 : decode cX1_placesOf 25 = .ok (.ireturn, 1) := by decide +kernel
def fX1_placesOf_0  (h : PH) (x0 : Nat) (x1 : Int32) : Option (Int32) :=
  if x1 < 0 then (some ((-1))) else (oC (decide (hT h x0 = 2)) (oN (hR h 129 x0) (fun a3 => oC (decide (hT h a3 = 8)) (if (hI h 897 a3) ≤ x1 then (some ((-1))) else (oN (hR h 133 x0) (fun a6 => oC (decide (hT h a6 = 101)) (oC (ix x1 (hN h a6)) (some ((hA h a6 (Int32.toNatClampNeg x1)))))))))))
set_option maxHeartbeats 4000000 in
theorem wfX1_placesOf_0 {args : Array Value} (b : Bd p s m c cX1_placesOf 2 RX1 D aC) (hlk : meth.locks = false) (hr : meth.sig.returnType = some .int) {Z : State → Prop} (zs : Z s) (zk : ZOK Z (Rg ad)) {rz : Int32} {h : PH} {x0 : Nat} {x1 : Int32}  {H : Heap} {locs : List Loc} {ls : Array Slot} (hf : fX1_placesOf_0 h x0 x1 = some rz) (hE : CE (EX D aC ad h) (Rg ad) s H locs) (hl : lv_has ls 2 [(0, .ref (ad x0)), (1, .int x1)]) : W p l e (RM 0 0 0 0) s m args below meth c H locs 0 0 (MQ below (PQ (EX D aC ad h) (Rg ad) (some (.int rz))) args s 0 0 (Rg ad)) (F0 m 0 ls []) := by
  unfold fX1_placesOf_0 at hf
  refine lv_iload_n b.1 b.2.1 dX1_placesOf_0 rfl (lv_at hl 1 rfl) ?_
  refine lv_if_lt (tgt := 24) b.1 b.2.1 dX1_placesOf_1 (by decide) (fun c1 => ?_) (fun c1 => ?_)
  · have hf := oI_t c1 hf
    refine lv_iconst (v := (-1)) b.1 b.2.1 dX1_placesOf_24 (by decide) ?_
    cases hf
    exact k_iret b hlk hr hE (Nat.le_refl _) (Nat.le_refl _) dX1_placesOf_25
  · have hf := oI_f c1 hf
    refine lv_iload_n b.1 b.2.1 dX1_placesOf_4 rfl (lv_at hl 1 rfl) ?_
    refine lv_aload_n b.1 b.2.1 dX1_placesOf_5 rfl (lv_at hl 0 rfl) ?_
    obtain ⟨t2, hf⟩ := oC_s hf
    have t2 := of_decide_eq_true t2
    refine gX1_20 (x := (some x0)) b hE rfl t2 dX1_placesOf_6 ?_
    obtain ⟨a3, ea3, hf⟩ := oN_s hf
    obtain ⟨t4, hf⟩ := oC_s hf
    have t4 := of_decide_eq_true t4
    refine gX1_57 (x := (hR h 129 x0)) b hE ea3 t4 dX1_placesOf_9 ?_
    refine lv_icmp_ge (tgt := 24) b.1 b.2.1 dX1_placesOf_12 (by decide) (fun c5 => ?_) (fun c5 => ?_)
    · have hf := oI_t c5 hf
      refine lv_iconst (v := (-1)) b.1 b.2.1 dX1_placesOf_24 (by decide) ?_
      cases hf
      exact k_iret b hlk hr hE (Nat.le_refl _) (Nat.le_refl _) dX1_placesOf_25
    · have hf := oI_f c5 hf
      refine lv_aload_n b.1 b.2.1 dX1_placesOf_15 rfl (lv_at hl 0 rfl) ?_
      refine gX1_32 (x := (some x0)) b hE rfl t2 dX1_placesOf_16 ?_
      refine lv_iload_n b.1 b.2.1 dX1_placesOf_19 rfl (lv_at hl 1 rfl) ?_
      obtain ⟨a6, ea6, hf⟩ := oN_s hf
      obtain ⟨t7, hf⟩ := oC_s hf
      have t7 := of_decide_eq_true t7
      obtain ⟨g8, hf⟩ := oC_s hf
      refine q_iald (x := (hR h 133 x0)) b hE ea6 t7 g8 dX1_placesOf_20 ?_
      refine lv_goto (tgt := 25) b.1 b.2.1 dX1_placesOf_21 (by decide) ?_
      cases hf
      exact k_iret b hlk hr hE (Nat.le_refl _) (Nat.le_refl _) dX1_placesOf_25
def fX1_placesOf (h : PH) (x0 : Nat) (x1 : Int32) : Option (Int32) := fX1_placesOf_0 h x0 x1
set_option maxHeartbeats 4000000 in
theorem CX1_placesOf (l : Launch) (D : va_G) (aC : Nat → ClassId) (ad : Nat → Nat) {Z : State → Prop} (zk : ZOK Z (Rg ad)) {h : PH} {x0 : Nat} {x1 : Int32} {rz : Int32} (hf : fX1_placesOf h x0 x1 = some rz) : CM l D aC Z yX1_placesOf cX1_placesOf 2 (some .int) 0 0 0 0 (EX D aC ad h) [.ref (ad x0), .int x1] (EX D aC ad h) (some (.int rz)) (Rg ad) := by
  refine CM.of rfl ?_
  intro p e s m below meth c b hr hlk hin2 zs hE
  refine k_ent (Nat.le_of_ble_eq_true rfl) (fun ls hl => ?_)
  exact wfX1_placesOf_0 b hlk hr zs zk hf hE (lv_sub hl [0, 1] rfl)
theorem dX1_setPlaces_0 : decode cX1_setPlaces 0 = .ok (.iload_n 1, 1) := by decide +kernel
theorem dX1_setPlaces_1 : decode cX1_setPlaces 1 = .ok (.ifCond .lt 21, 3) := by decide +kernel
theorem dX1_setPlaces_4 : decode cX1_setPlaces 4 = .ok (.iload_n 1, 1) := by decide +kernel
theorem dX1_setPlaces_5 : decode cX1_setPlaces 5 = .ok (.aload_n 0, 1) := by decide +kernel
theorem dX1_setPlaces_6 : decode cX1_setPlaces 6 = .ok (.getfield 20, 3) := by decide +kernel
theorem dX1_setPlaces_9 : decode cX1_setPlaces 9 = .ok (.getfield 57, 3) := by decide +kernel
theorem dX1_setPlaces_12 : decode cX1_setPlaces 12 = .ok (.if_icmp .ge 10, 3) := by decide +kernel
theorem dX1_setPlaces_15 : decode cX1_setPlaces 15 = .ok (.aload_n 0, 1) := by decide +kernel
theorem dX1_setPlaces_16 : decode cX1_setPlaces 16 = .ok (.getfield 32, 3) := by decide +kernel
theorem dX1_setPlaces_19 : decode cX1_setPlaces 19 = .ok (.iload_n 1, 1) := by decide +kernel
theorem dX1_setPlaces_20 : decode cX1_setPlaces 20 = .ok (.iload_n 2, 1) := by decide +kernel
theorem dX1_setPlaces_21 : decode cX1_setPlaces 21 = .ok (.iastore, 1) := by decide +kernel
theorem dX1_setPlaces_22 : decode cX1_setPlaces 22 = .ok (.return_, 1) := by decide +kernel
def fX1_setPlaces_0  (h : PH) (x0 : Nat) (x1 : Int32) (x2 : Int32) : Option (PH) :=
  if x1 < 0 then (some (h)) else (oC (decide (hT h x0 = 2)) (oN (hR h 129 x0) (fun a3 => oC (decide (hT h a3 = 8)) (if (hI h 897 a3) ≤ x1 then (some (h)) else (oN (hR h 133 x0) (fun a6 => oC (decide (hT h a6 = 101)) (oC (ix x1 (hN h a6)) (oL (sA h a6 (Int32.toNatClampNeg x1) x2) (fun h9 => some (h9))))))))))
set_option maxHeartbeats 4000000 in
theorem wfX1_setPlaces_0 {args : Array Value} (b : Bd p s m c cX1_setPlaces 3 RX1 D aC) (hlk : meth.locks = false) (hr : meth.sig.returnType = none) {Z : State → Prop} (zs : Z s) (zk : ZOK Z (Rg ad)) {hz : PH} {h : PH} {x0 : Nat} {x1 : Int32} {x2 : Int32}  {H : Heap} {locs : List Loc} {ls : Array Slot} (hf : fX1_setPlaces_0 h x0 x1 x2 = some hz) (hE : CE (EX D aC ad h) (Rg ad) s H locs) (hl : lv_has ls 3 [(0, .ref (ad x0)), (1, .int x1), (2, .int x2)]) : W p l e (RM 0 0 0 0) s m args below meth c H locs 0 0 (MQ below (PQ (EX D aC ad hz) (Rg ad) none) args s 0 0 (Rg ad)) (F0 m 0 ls []) := by
  unfold fX1_setPlaces_0 at hf
  refine lv_iload_n b.1 b.2.1 dX1_setPlaces_0 rfl (lv_at hl 1 rfl) ?_
  refine lv_if_lt (tgt := 22) b.1 b.2.1 dX1_setPlaces_1 (by decide) (fun c1 => ?_) (fun c1 => ?_)
  · have hf := oI_t c1 hf
    cases hf
    exact k_vret b hlk hr hE (Nat.le_refl _) (Nat.le_refl _) dX1_setPlaces_22
  · have hf := oI_f c1 hf
    refine lv_iload_n b.1 b.2.1 dX1_setPlaces_4 rfl (lv_at hl 1 rfl) ?_
    refine lv_aload_n b.1 b.2.1 dX1_setPlaces_5 rfl (lv_at hl 0 rfl) ?_
    obtain ⟨t2, hf⟩ := oC_s hf
    have t2 := of_decide_eq_true t2
    refine gX1_20 (x := (some x0)) b hE rfl t2 dX1_setPlaces_6 ?_
    obtain ⟨a3, ea3, hf⟩ := oN_s hf
    obtain ⟨t4, hf⟩ := oC_s hf
    have t4 := of_decide_eq_true t4
    refine gX1_57 (x := (hR h 129 x0)) b hE ea3 t4 dX1_setPlaces_9 ?_
    refine lv_icmp_ge (tgt := 22) b.1 b.2.1 dX1_setPlaces_12 (by decide) (fun c5 => ?_) (fun c5 => ?_)
    · have hf := oI_t c5 hf
      cases hf
      exact k_vret b hlk hr hE (Nat.le_refl _) (Nat.le_refl _) dX1_setPlaces_22
    · have hf := oI_f c5 hf
      refine lv_aload_n b.1 b.2.1 dX1_setPlaces_15 rfl (lv_at hl 0 rfl) ?_
      refine gX1_32 (x := (some x0)) b hE rfl t2 dX1_setPlaces_16 ?_
      refine lv_iload_n b.1 b.2.1 dX1_setPlaces_19 rfl (lv_at hl 1 rfl) ?_
      refine lv_iload_n b.1 b.2.1 dX1_setPlaces_20 rfl (lv_at hl 2 rfl) ?_
      obtain ⟨a6, ea6, hf⟩ := oN_s hf
      obtain ⟨t7, hf⟩ := oC_s hf
      have t7 := of_decide_eq_true t7
      obtain ⟨g8, hf⟩ := oC_s hf
      obtain ⟨h9, eh9, hf⟩ := oL_s hf
      refine q_iast (x := (hR h 133 x0)) b hE ea6 t7 g8 eh9 dX1_setPlaces_21 (fun H locs hE => ?_)
      cases hf
      exact k_vret b hlk hr hE (Nat.le_refl _) (Nat.le_refl _) dX1_setPlaces_22
def fX1_setPlaces (h : PH) (x0 : Nat) (x1 : Int32) (x2 : Int32) : Option (PH) := fX1_setPlaces_0 h x0 x1 x2
set_option maxHeartbeats 4000000 in
theorem CX1_setPlaces (l : Launch) (D : va_G) (aC : Nat → ClassId) (ad : Nat → Nat) {Z : State → Prop} (zk : ZOK Z (Rg ad)) {h : PH} {x0 : Nat} {x1 : Int32} {x2 : Int32} {hz : PH} (hf : fX1_setPlaces h x0 x1 x2 = some hz) : CM l D aC Z yX1_setPlaces cX1_setPlaces 3 (none) 0 0 0 0 (EX D aC ad h) [.ref (ad x0), .int x1, .int x2] (EX D aC ad hz) none (Rg ad) := by
  refine CM.of rfl ?_
  intro p e s m below meth c b hr hlk hin2 zs hE
  refine k_ent (Nat.le_of_ble_eq_true rfl) (fun ls hl => ?_)
  exact wfX1_setPlaces_0 b hlk hr zs zk hf hE (lv_sub hl [0, 1, 2] rfl)
theorem dX1_lawColumn_0 : decode cX1_lawColumn 0 = .ok (.iload_n 1, 1) := by decide +kernel
theorem dX1_lawColumn_1 : decode cX1_lawColumn 1 = .ok (.ifCond .lt 27, 3) := by decide +kernel
theorem dX1_lawColumn_4 : decode cX1_lawColumn 4 = .ok (.iload_n 1, 1) := by decide +kernel
theorem dX1_lawColumn_5 : decode cX1_lawColumn 5 = .ok (.aload_n 0, 1) := by decide +kernel
theorem dX1_lawColumn_6 : decode cX1_lawColumn 6 = .ok (.getfield 26, 3) := by decide +kernel
theorem dX1_lawColumn_9 : decode cX1_lawColumn 9 = .ok (.getfield 57, 3) := by decide +kernel
theorem dX1_lawColumn_12 : decode cX1_lawColumn 12 = .ok (.if_icmp .ge 16, 3) := by decide +kernel
theorem dX1_lawColumn_15 : decode cX1_lawColumn 15 = .ok (.iload_n 2, 1) := by decide +kernel
theorem dX1_lawColumn_16 : decode cX1_lawColumn 16 = .ok (.ifCond .lt 12, 3) := by decide +kernel
theorem dX1_lawColumn_19 : decode cX1_lawColumn 19 = .ok (.iload_n 2, 1) := by decide +kernel
theorem dX1_lawColumn_20 : decode cX1_lawColumn 20 = .ok (.iconst 5, 1) := by decide +kernel
theorem dX1_lawColumn_21 : decode cX1_lawColumn 21 = .ok (.if_icmp .ge 7, 3) := by decide +kernel
theorem dX1_lawColumn_24 : decode cX1_lawColumn 24 = .ok (.iconst 1, 1) := by decide +kernel
theorem dX1_lawColumn_25 : decode cX1_lawColumn 25 = .ok (.goto 4, 3) := by decide +kernel
theorem dX1_lawColumn_28 : decode cX1_lawColumn 28 = .ok (.iconst 0, 1) := by decide +kernel
theorem dX1_lawColumn_29 : decode cX1_lawColumn 29 = .ok (.istore_n 3, 1) := by decide +kernel
theorem dX1_lawColumn_30 : decode cX1_lawColumn 30 = .ok (.iload_n 3, 1) := by decide +kernel
theorem dX1_lawColumn_31 : decode cX1_lawColumn 31 = .ok (.ifCond .eq 16, 3) := by decide +kernel
theorem dX1_lawColumn_34 : decode cX1_lawColumn 34 = .ok (.aload_n 0, 1) := by decide +kernel
theorem dX1_lawColumn_35 : decode cX1_lawColumn 35 = .ok (.getfield 39, 3) := by decide +kernel
theorem dX1_lawColumn_38 : decode cX1_lawColumn 38 = .ok (.iload_n 1, 1) := by decide +kernel
theorem dX1_lawColumn_39 : decode cX1_lawColumn 39 = .ok (.iconst 5, 1) := by decide +kernel
theorem dX1_lawColumn_40 : decode cX1_lawColumn 40 = .ok (.imul, 1) := by decide +kernel
theorem dX1_lawColumn_41 : decode cX1_lawColumn 41 = .ok (.iload_n 2, 1) := by decide +kernel
theorem dX1_lawColumn_42 : decode cX1_lawColumn 42 = .ok (.iadd, 1) := by decide +kernel
theorem dX1_lawColumn_43 : decode cX1_lawColumn 43 = .ok (.iaload, 1) := by decide +kernel
theorem dX1_lawColumn_44 : decode cX1_lawColumn 44 = .ok (.goto 4, 3) := by decide +kernel
theorem dX1_lawColumn_47 : decode cX1_lawColumn 47 = .ok (.iconst (-1), 1) := by decide +kernel
theorem dX1_lawColumn_48 : decode cX1_lawColumn 48 = .ok (.ireturn, 1) := by decide +kernel
def fX1_lawColumn_29  (h : PH) (x0 : Nat) (x1 : Int32) (x2 : Int32) (s0 : Int32) : Option (Int32) :=
  if s0 = 0 then (some ((-1))) else (oC (decide (hT h x0 = 2)) (oN (hR h 135 x0) (fun a3 => oC (decide (hT h a3 = 101)) (oC (ix ((x1 * 5) + x2) (hN h a3)) (some ((hA h a3 (Int32.toNatClampNeg ((x1 * 5) + x2)))))))))
set_option maxHeartbeats 4000000 in
theorem wfX1_lawColumn_29 {args : Array Value} (b : Bd p s m c cX1_lawColumn 4 RX1 D aC) (hlk : meth.locks = false) (hr : meth.sig.returnType = some .int) {Z : State → Prop} (zs : Z s) (zk : ZOK Z (Rg ad)) {rz : Int32} {h : PH} {x0 : Nat} {x1 : Int32} {x2 : Int32} {s0 : Int32}  {H : Heap} {locs : List Loc} {ls : Array Slot} (hf : fX1_lawColumn_29 h x0 x1 x2 s0 = some rz) (hE : CE (EX D aC ad h) (Rg ad) s H locs) (hl : lv_has ls 4 [(0, .ref (ad x0)), (1, .int x1), (2, .int x2)]) : W p l e (RM 0 0 0 0) s m args below meth c H locs 0 0 (MQ below (PQ (EX D aC ad h) (Rg ad) (some (.int rz))) args s 0 0 (Rg ad)) (F0 m 29 ls [.int s0]) := by
  unfold fX1_lawColumn_29 at hf
  refine lv_istore_n (lv' := [(3, .int s0), (0, .ref (ad x0)), (1, .int x1), (2, .int x2)]) b.1 b.2.1 dX1_lawColumn_29 rfl hl (by decide) rfl (fun ls hl => ?_)
  refine lv_iload_n b.1 b.2.1 dX1_lawColumn_30 rfl (lv_at hl 0 rfl) ?_
  refine lv_if_eq (tgt := 47) b.1 b.2.1 dX1_lawColumn_31 (by decide) (fun c1 => ?_) (fun c1 => ?_)
  · have hf := oI_t c1 hf
    refine lv_iconst (v := (-1)) b.1 b.2.1 dX1_lawColumn_47 (by decide) ?_
    cases hf
    exact k_iret b hlk hr hE (Nat.le_refl _) (Nat.le_refl _) dX1_lawColumn_48
  · have hf := oI_f c1 hf
    refine lv_aload_n b.1 b.2.1 dX1_lawColumn_34 rfl (lv_at hl 1 rfl) ?_
    obtain ⟨t2, hf⟩ := oC_s hf
    have t2 := of_decide_eq_true t2
    refine gX1_39 (x := (some x0)) b hE rfl t2 dX1_lawColumn_35 ?_
    refine lv_iload_n b.1 b.2.1 dX1_lawColumn_38 rfl (lv_at hl 2 rfl) ?_
    refine lv_iconst (v := 5) b.1 b.2.1 dX1_lawColumn_39 (by decide) ?_
    refine lv_imul b.1 b.2.1 dX1_lawColumn_40 ?_
    refine lv_iload_n b.1 b.2.1 dX1_lawColumn_41 rfl (lv_at hl 3 rfl) ?_
    refine lv_iadd b.1 b.2.1 dX1_lawColumn_42 ?_
    obtain ⟨a3, ea3, hf⟩ := oN_s hf
    obtain ⟨t4, hf⟩ := oC_s hf
    have t4 := of_decide_eq_true t4
    obtain ⟨g5, hf⟩ := oC_s hf
    refine q_iald (x := (hR h 135 x0)) b hE ea3 t4 g5 dX1_lawColumn_43 ?_
    refine lv_goto (tgt := 48) b.1 b.2.1 dX1_lawColumn_44 (by decide) ?_
    cases hf
    exact k_iret b hlk hr hE (Nat.le_refl _) (Nat.le_refl _) dX1_lawColumn_48
def fX1_lawColumn_0  (h : PH) (x0 : Nat) (x1 : Int32) (x2 : Int32) : Option (Int32) :=
  if x1 < 0 then (fX1_lawColumn_29  h x0 x1 x2 0) else (oC (decide (hT h x0 = 2)) (oN (hR h 131 x0) (fun a8 => oC (decide (hT h a8 = 8)) (if (hI h 897 a8) ≤ x1 then (fX1_lawColumn_29  h x0 x1 x2 0) else (if x2 < 0 then (fX1_lawColumn_29  h x0 x1 x2 0) else (if 5 ≤ x2 then (fX1_lawColumn_29  h x0 x1 x2 0) else (fX1_lawColumn_29  h x0 x1 x2 1)))))))
set_option maxHeartbeats 4000000 in
theorem wfX1_lawColumn_0 {args : Array Value} (b : Bd p s m c cX1_lawColumn 4 RX1 D aC) (hlk : meth.locks = false) (hr : meth.sig.returnType = some .int) {Z : State → Prop} (zs : Z s) (zk : ZOK Z (Rg ad)) {rz : Int32} {h : PH} {x0 : Nat} {x1 : Int32} {x2 : Int32}  {H : Heap} {locs : List Loc} {ls : Array Slot} (hf : fX1_lawColumn_0 h x0 x1 x2 = some rz) (hE : CE (EX D aC ad h) (Rg ad) s H locs) (hl : lv_has ls 4 [(0, .ref (ad x0)), (1, .int x1), (2, .int x2)]) : W p l e (RM 0 0 0 0) s m args below meth c H locs 0 0 (MQ below (PQ (EX D aC ad h) (Rg ad) (some (.int rz))) args s 0 0 (Rg ad)) (F0 m 0 ls []) := by
  unfold fX1_lawColumn_0 at hf
  refine lv_iload_n b.1 b.2.1 dX1_lawColumn_0 rfl (lv_at hl 1 rfl) ?_
  refine lv_if_lt (tgt := 28) b.1 b.2.1 dX1_lawColumn_1 (by decide) (fun c6 => ?_) (fun c6 => ?_)
  · have hf := oI_t c6 hf
    refine lv_iconst (v := 0) b.1 b.2.1 dX1_lawColumn_28 (by decide) ?_
    exact wfX1_lawColumn_29 b hlk hr zs zk  hf hE (lv_sub hl [0, 1, 2] rfl)
  · have hf := oI_f c6 hf
    refine lv_iload_n b.1 b.2.1 dX1_lawColumn_4 rfl (lv_at hl 1 rfl) ?_
    refine lv_aload_n b.1 b.2.1 dX1_lawColumn_5 rfl (lv_at hl 0 rfl) ?_
    obtain ⟨t7, hf⟩ := oC_s hf
    have t7 := of_decide_eq_true t7
    refine gX1_26 (x := (some x0)) b hE rfl t7 dX1_lawColumn_6 ?_
    obtain ⟨a8, ea8, hf⟩ := oN_s hf
    obtain ⟨t9, hf⟩ := oC_s hf
    have t9 := of_decide_eq_true t9
    refine gX1_57 (x := (hR h 131 x0)) b hE ea8 t9 dX1_lawColumn_9 ?_
    refine lv_icmp_ge (tgt := 28) b.1 b.2.1 dX1_lawColumn_12 (by decide) (fun c10 => ?_) (fun c10 => ?_)
    · have hf := oI_t c10 hf
      refine lv_iconst (v := 0) b.1 b.2.1 dX1_lawColumn_28 (by decide) ?_
      exact wfX1_lawColumn_29 b hlk hr zs zk  hf hE (lv_sub hl [0, 1, 2] rfl)
    · have hf := oI_f c10 hf
      refine lv_iload_n b.1 b.2.1 dX1_lawColumn_15 rfl (lv_at hl 2 rfl) ?_
      refine lv_if_lt (tgt := 28) b.1 b.2.1 dX1_lawColumn_16 (by decide) (fun c11 => ?_) (fun c11 => ?_)
      · have hf := oI_t c11 hf
        refine lv_iconst (v := 0) b.1 b.2.1 dX1_lawColumn_28 (by decide) ?_
        exact wfX1_lawColumn_29 b hlk hr zs zk  hf hE (lv_sub hl [0, 1, 2] rfl)
      · have hf := oI_f c11 hf
        refine lv_iload_n b.1 b.2.1 dX1_lawColumn_19 rfl (lv_at hl 2 rfl) ?_
        refine lv_iconst (v := 5) b.1 b.2.1 dX1_lawColumn_20 (by decide) ?_
        refine lv_icmp_ge (tgt := 28) b.1 b.2.1 dX1_lawColumn_21 (by decide) (fun c12 => ?_) (fun c12 => ?_)
        · have hf := oI_t c12 hf
          refine lv_iconst (v := 0) b.1 b.2.1 dX1_lawColumn_28 (by decide) ?_
          exact wfX1_lawColumn_29 b hlk hr zs zk  hf hE (lv_sub hl [0, 1, 2] rfl)
        · have hf := oI_f c12 hf
          refine lv_iconst (v := 1) b.1 b.2.1 dX1_lawColumn_24 (by decide) ?_
          refine lv_goto (tgt := 29) b.1 b.2.1 dX1_lawColumn_25 (by decide) ?_
          exact wfX1_lawColumn_29 b hlk hr zs zk  hf hE (lv_sub hl [0, 1, 2] rfl)
def fX1_lawColumn (h : PH) (x0 : Nat) (x1 : Int32) (x2 : Int32) : Option (Int32) := fX1_lawColumn_0 h x0 x1 x2
set_option maxHeartbeats 4000000 in
theorem CX1_lawColumn (l : Launch) (D : va_G) (aC : Nat → ClassId) (ad : Nat → Nat) {Z : State → Prop} (zk : ZOK Z (Rg ad)) {h : PH} {x0 : Nat} {x1 : Int32} {x2 : Int32} {rz : Int32} (hf : fX1_lawColumn h x0 x1 x2 = some rz) : CM l D aC Z yX1_lawColumn cX1_lawColumn 4 (some .int) 0 0 0 0 (EX D aC ad h) [.ref (ad x0), .int x1, .int x2] (EX D aC ad h) (some (.int rz)) (Rg ad) := by
  refine CM.of rfl ?_
  intro p e s m below meth c b hr hlk hin2 zs hE
  refine k_ent (Nat.le_of_ble_eq_true rfl) (fun ls hl => ?_)
  exact wfX1_lawColumn_0 b hlk hr zs zk hf hE (lv_sub hl [0, 1, 2] rfl)
theorem dX1_setLaw_0 : decode cX1_setLaw 0 = .ok (.iload_n 1, 1) := by decide +kernel
theorem dX1_setLaw_1 : decode cX1_setLaw 1 = .ok (.ifCond .lt 14, 3) := by decide +kernel
theorem dX1_setLaw_4 : decode cX1_setLaw 4 = .ok (.iload_n 1, 1) := by decide +kernel
theorem dX1_setLaw_5 : decode cX1_setLaw 5 = .ok (.aload_n 0, 1) := by decide +kernel
theorem dX1_setLaw_6 : decode cX1_setLaw 6 = .ok (.getfield 26, 3) := by decide +kernel
theorem dX1_setLaw_9 : decode cX1_setLaw 9 = .ok (.getfield 57, 3) := by decide +kernel
theorem dX1_setLaw_12 : decode cX1_setLaw 12 = .ok (.if_icmp .lt 4, 3) := by decide +kernel
theorem dX1_setLaw_15 : decode cX1_setLaw 15 = .ok (.return_, 1) := by decide +kernel
theorem dX1_setLaw_16 : decode cX1_setLaw 16 = .ok (.iload_n 1, 1) := by decide +kernel
theorem dX1_setLaw_17 : decode cX1_setLaw 17 = .ok (.iconst 5, 1) := by decide +kernel
theorem dX1_setLaw_18 : decode cX1_setLaw 18 = .ok (.imul, 1) := by decide +kernel
theorem dX1_setLaw_19 : decode cX1_setLaw 19 = .ok (.istore 6, 2) := by decide +kernel
theorem dX1_setLaw_21 : decode cX1_setLaw 21 = .ok (.aload_n 0, 1) := by decide +kernel
theorem dX1_setLaw_22 : decode cX1_setLaw 22 = .ok (.getfield 39, 3) := by decide +kernel
theorem dX1_setLaw_25 : decode cX1_setLaw 25 = .ok (.iload 6, 2) := by decide +kernel
theorem dX1_setLaw_27 : decode cX1_setLaw 27 = .ok (.iconst 0, 1) := by decide +kernel
theorem dX1_setLaw_28 : decode cX1_setLaw 28 = .ok (.iadd, 1) := by decide +kernel
theorem dX1_setLaw_29 : decode cX1_setLaw 29 = .ok (.iload_n 2, 1) := by decide +kernel
theorem dX1_setLaw_30 : decode cX1_setLaw 30 = .ok (.iastore, 1) := by decide +kernel
theorem dX1_setLaw_31 : decode cX1_setLaw 31 = .ok (.aload_n 0, 1) := by decide +kernel
theorem dX1_setLaw_32 : decode cX1_setLaw 32 = .ok (.getfield 39, 3) := by decide +kernel
theorem dX1_setLaw_35 : decode cX1_setLaw 35 = .ok (.iload 6, 2) := by decide +kernel
theorem dX1_setLaw_37 : decode cX1_setLaw 37 = .ok (.iconst 1, 1) := by decide +kernel
theorem dX1_setLaw_38 : decode cX1_setLaw 38 = .ok (.iadd, 1) := by decide +kernel
theorem dX1_setLaw_39 : decode cX1_setLaw 39 = .ok (.iload_n 3, 1) := by decide +kernel
theorem dX1_setLaw_40 : decode cX1_setLaw 40 = .ok (.iastore, 1) := by decide +kernel
theorem dX1_setLaw_41 : decode cX1_setLaw 41 = .ok (.aload_n 0, 1) := by decide +kernel
theorem dX1_setLaw_42 : decode cX1_setLaw 42 = .ok (.getfield 39, 3) := by decide +kernel
theorem dX1_setLaw_45 : decode cX1_setLaw 45 = .ok (.iload 6, 2) := by decide +kernel
theorem dX1_setLaw_47 : decode cX1_setLaw 47 = .ok (.iconst 2, 1) := by decide +kernel
theorem dX1_setLaw_48 : decode cX1_setLaw 48 = .ok (.iadd, 1) := by decide +kernel
theorem dX1_setLaw_49 : decode cX1_setLaw 49 = .ok (.iload 4, 2) := by decide +kernel
theorem dX1_setLaw_51 : decode cX1_setLaw 51 = .ok (.iastore, 1) := by decide +kernel
theorem dX1_setLaw_52 : decode cX1_setLaw 52 = .ok (.aload_n 0, 1) := by decide +kernel
theorem dX1_setLaw_53 : decode cX1_setLaw 53 = .ok (.getfield 39, 3) := by decide +kernel
theorem dX1_setLaw_56 : decode cX1_setLaw 56 = .ok (.iload 6, 2) := by decide +kernel
theorem dX1_setLaw_58 : decode cX1_setLaw 58 = .ok (.iconst 3, 1) := by decide +kernel
theorem dX1_setLaw_59 : decode cX1_setLaw 59 = .ok (.iadd, 1) := by decide +kernel
theorem dX1_setLaw_60 : decode cX1_setLaw 60 = .ok (.iload 5, 2) := by decide +kernel
theorem dX1_setLaw_62 : decode cX1_setLaw 62 = .ok (.iastore, 1) := by decide +kernel
theorem dX1_setLaw_63 : decode cX1_setLaw 63 = .ok (.aload_n 0, 1) := by decide +kernel
theorem dX1_setLaw_64 : decode cX1_setLaw 64 = .ok (.getfield 39, 3) := by decide +kernel
theorem dX1_setLaw_67 : decode cX1_setLaw 67 = .ok (.iload 6, 2) := by decide +kernel
theorem dX1_setLaw_69 : decode cX1_setLaw 69 = .ok (.iconst 4, 1) := by decide +kernel
theorem dX1_setLaw_70 : decode cX1_setLaw 70 = .ok (.iadd, 1) := by decide +kernel
theorem dX1_setLaw_71 : decode cX1_setLaw 71 = .ok (.iconst 0, 1) := by decide +kernel
theorem dX1_setLaw_72 : decode cX1_setLaw 72 = .ok (.iastore, 1) := by decide +kernel
theorem dX1_setLaw_73 : decode cX1_setLaw 73 = .ok (.return_, 1) := by decide +kernel
def fX1_setLaw_0  (h : PH) (x0 : Nat) (x1 : Int32) (x2 : Int32) (x3 : Int32) (x4 : Int32) (x5 : Int32) : Option (PH) :=
  if x1 < 0 then (some (h)) else (oC (decide (hT h x0 = 2)) (oN (hR h 131 x0) (fun a3 => oC (decide (hT h a3 = 8)) (if x1 < (hI h 897 a3) then (oL (x1 * 5) (fun y6 => oN (hR h 135 x0) (fun a7 => oC (decide (hT h a7 = 101)) (oC (ix (y6 + 0) (hN h a7)) (oL (sA h a7 (Int32.toNatClampNeg (y6 + 0)) x2) (fun h10 => oN (hR h10 135 x0) (fun a12 => oC (decide (hT h10 a12 = 101)) (oC (ix (y6 + 1) (hN h10 a12)) (oL (sA h10 a12 (Int32.toNatClampNeg (y6 + 1)) x3) (fun h15 => oN (hR h15 135 x0) (fun a17 => oC (decide (hT h15 a17 = 101)) (oC (ix (y6 + 2) (hN h15 a17)) (oL (sA h15 a17 (Int32.toNatClampNeg (y6 + 2)) x4) (fun h20 => oN (hR h20 135 x0) (fun a22 => oC (decide (hT h20 a22 = 101)) (oC (ix (y6 + 3) (hN h20 a22)) (oL (sA h20 a22 (Int32.toNatClampNeg (y6 + 3)) x5) (fun h25 => oN (hR h25 135 x0) (fun a27 => oC (decide (hT h25 a27 = 101)) (oC (ix (y6 + 4) (hN h25 a27)) (oL (sA h25 a27 (Int32.toNatClampNeg (y6 + 4)) 0) (fun h30 => some (h30))))))))))))))))))))))) else (some (h))))))
set_option maxHeartbeats 4000000 in
theorem wfX1_setLaw_0 {args : Array Value} (b : Bd p s m c cX1_setLaw 7 RX1 D aC) (hlk : meth.locks = false) (hr : meth.sig.returnType = none) {Z : State → Prop} (zs : Z s) (zk : ZOK Z (Rg ad)) {hz : PH} {h : PH} {x0 : Nat} {x1 : Int32} {x2 : Int32} {x3 : Int32} {x4 : Int32} {x5 : Int32}  {H : Heap} {locs : List Loc} {ls : Array Slot} (hf : fX1_setLaw_0 h x0 x1 x2 x3 x4 x5 = some hz) (hE : CE (EX D aC ad h) (Rg ad) s H locs) (hl : lv_has ls 7 [(0, .ref (ad x0)), (1, .int x1), (2, .int x2), (3, .int x3), (4, .int x4), (5, .int x5)]) : W p l e (RM 0 0 0 0) s m args below meth c H locs 0 0 (MQ below (PQ (EX D aC ad hz) (Rg ad) none) args s 0 0 (Rg ad)) (F0 m 0 ls []) := by
  unfold fX1_setLaw_0 at hf
  refine lv_iload_n b.1 b.2.1 dX1_setLaw_0 rfl (lv_at hl 1 rfl) ?_
  refine lv_if_lt (tgt := 15) b.1 b.2.1 dX1_setLaw_1 (by decide) (fun c1 => ?_) (fun c1 => ?_)
  · have hf := oI_t c1 hf
    cases hf
    exact k_vret b hlk hr hE (Nat.le_refl _) (Nat.le_refl _) dX1_setLaw_15
  · have hf := oI_f c1 hf
    refine lv_iload_n b.1 b.2.1 dX1_setLaw_4 rfl (lv_at hl 1 rfl) ?_
    refine lv_aload_n b.1 b.2.1 dX1_setLaw_5 rfl (lv_at hl 0 rfl) ?_
    obtain ⟨t2, hf⟩ := oC_s hf
    have t2 := of_decide_eq_true t2
    refine gX1_26 (x := (some x0)) b hE rfl t2 dX1_setLaw_6 ?_
    obtain ⟨a3, ea3, hf⟩ := oN_s hf
    obtain ⟨t4, hf⟩ := oC_s hf
    have t4 := of_decide_eq_true t4
    refine gX1_57 (x := (hR h 131 x0)) b hE ea3 t4 dX1_setLaw_9 ?_
    refine lv_icmp_lt (tgt := 16) b.1 b.2.1 dX1_setLaw_12 (by decide) (fun c5 => ?_) (fun c5 => ?_)
    · have hf := oI_t c5 hf
      refine lv_iload_n b.1 b.2.1 dX1_setLaw_16 rfl (lv_at hl 1 rfl) ?_
      refine lv_iconst (v := 5) b.1 b.2.1 dX1_setLaw_17 (by decide) ?_
      refine lv_imul b.1 b.2.1 dX1_setLaw_18 ?_
      obtain ⟨y6, ey6, hf⟩ := oL_s hf
      refine k_nmI ey6 ?_
      refine lv_istore (lv' := [(6, .int y6), (0, .ref (ad x0)), (1, .int x1), (2, .int x2), (3, .int x3), (4, .int x4), (5, .int x5)]) b.1 b.2.1 dX1_setLaw_19 hl (by decide) rfl (fun ls hl => ?_)
      have hl := lv_sub (l' := [(6, .int y6), (0, .ref (ad x0)), (2, .int x2), (3, .int x3), (4, .int x4), (5, .int x5)]) hl [0, 1, 3, 4, 5, 6] rfl
      refine lv_aload_n b.1 b.2.1 dX1_setLaw_21 rfl (lv_at hl 1 rfl) ?_
      refine gX1_39 (x := (some x0)) b hE rfl t2 dX1_setLaw_22 ?_
      refine lv_iload b.1 b.2.1 dX1_setLaw_25 (lv_at hl 0 rfl) ?_
      refine lv_iconst (v := 0) b.1 b.2.1 dX1_setLaw_27 (by decide) ?_
      refine lv_iadd b.1 b.2.1 dX1_setLaw_28 ?_
      refine lv_iload_n b.1 b.2.1 dX1_setLaw_29 rfl (lv_at hl 2 rfl) ?_
      obtain ⟨a7, ea7, hf⟩ := oN_s hf
      obtain ⟨t8, hf⟩ := oC_s hf
      have t8 := of_decide_eq_true t8
      obtain ⟨g9, hf⟩ := oC_s hf
      obtain ⟨h10, eh10, hf⟩ := oL_s hf
      refine q_iast (x := (hR h 135 x0)) b hE ea7 t8 g9 eh10 dX1_setLaw_30 (fun H locs hE => ?_)
      refine lv_aload_n b.1 b.2.1 dX1_setLaw_31 rfl (lv_at hl 1 rfl) ?_
      have t11 := tg_sA eh10 t2
      refine gX1_39 (x := (some x0)) b hE rfl t11 dX1_setLaw_32 ?_
      refine lv_iload b.1 b.2.1 dX1_setLaw_35 (lv_at hl 0 rfl) ?_
      refine lv_iconst (v := 1) b.1 b.2.1 dX1_setLaw_37 (by decide) ?_
      refine lv_iadd b.1 b.2.1 dX1_setLaw_38 ?_
      refine lv_iload_n b.1 b.2.1 dX1_setLaw_39 rfl (lv_at hl 3 rfl) ?_
      obtain ⟨a12, ea12, hf⟩ := oN_s hf
      obtain ⟨t13, hf⟩ := oC_s hf
      have t13 := of_decide_eq_true t13
      obtain ⟨g14, hf⟩ := oC_s hf
      obtain ⟨h15, eh15, hf⟩ := oL_s hf
      refine q_iast (x := (hR h10 135 x0)) b hE ea12 t13 g14 eh15 dX1_setLaw_40 (fun H locs hE => ?_)
      refine lv_aload_n b.1 b.2.1 dX1_setLaw_41 rfl (lv_at hl 1 rfl) ?_
      have t16 := tg_sA eh15 t11
      refine gX1_39 (x := (some x0)) b hE rfl t16 dX1_setLaw_42 ?_
      refine lv_iload b.1 b.2.1 dX1_setLaw_45 (lv_at hl 0 rfl) ?_
      refine lv_iconst (v := 2) b.1 b.2.1 dX1_setLaw_47 (by decide) ?_
      refine lv_iadd b.1 b.2.1 dX1_setLaw_48 ?_
      refine lv_iload b.1 b.2.1 dX1_setLaw_49 (lv_at hl 4 rfl) ?_
      obtain ⟨a17, ea17, hf⟩ := oN_s hf
      obtain ⟨t18, hf⟩ := oC_s hf
      have t18 := of_decide_eq_true t18
      obtain ⟨g19, hf⟩ := oC_s hf
      obtain ⟨h20, eh20, hf⟩ := oL_s hf
      refine q_iast (x := (hR h15 135 x0)) b hE ea17 t18 g19 eh20 dX1_setLaw_51 (fun H locs hE => ?_)
      refine lv_aload_n b.1 b.2.1 dX1_setLaw_52 rfl (lv_at hl 1 rfl) ?_
      have t21 := tg_sA eh20 t16
      refine gX1_39 (x := (some x0)) b hE rfl t21 dX1_setLaw_53 ?_
      refine lv_iload b.1 b.2.1 dX1_setLaw_56 (lv_at hl 0 rfl) ?_
      refine lv_iconst (v := 3) b.1 b.2.1 dX1_setLaw_58 (by decide) ?_
      refine lv_iadd b.1 b.2.1 dX1_setLaw_59 ?_
      refine lv_iload b.1 b.2.1 dX1_setLaw_60 (lv_at hl 5 rfl) ?_
      obtain ⟨a22, ea22, hf⟩ := oN_s hf
      obtain ⟨t23, hf⟩ := oC_s hf
      have t23 := of_decide_eq_true t23
      obtain ⟨g24, hf⟩ := oC_s hf
      obtain ⟨h25, eh25, hf⟩ := oL_s hf
      refine q_iast (x := (hR h20 135 x0)) b hE ea22 t23 g24 eh25 dX1_setLaw_62 (fun H locs hE => ?_)
      refine lv_aload_n b.1 b.2.1 dX1_setLaw_63 rfl (lv_at hl 1 rfl) ?_
      have t26 := tg_sA eh25 t21
      refine gX1_39 (x := (some x0)) b hE rfl t26 dX1_setLaw_64 ?_
      refine lv_iload b.1 b.2.1 dX1_setLaw_67 (lv_at hl 0 rfl) ?_
      refine lv_iconst (v := 4) b.1 b.2.1 dX1_setLaw_69 (by decide) ?_
      refine lv_iadd b.1 b.2.1 dX1_setLaw_70 ?_
      refine lv_iconst (v := 0) b.1 b.2.1 dX1_setLaw_71 (by decide) ?_
      obtain ⟨a27, ea27, hf⟩ := oN_s hf
      obtain ⟨t28, hf⟩ := oC_s hf
      have t28 := of_decide_eq_true t28
      obtain ⟨g29, hf⟩ := oC_s hf
      obtain ⟨h30, eh30, hf⟩ := oL_s hf
      refine q_iast (x := (hR h25 135 x0)) b hE ea27 t28 g29 eh30 dX1_setLaw_72 (fun H locs hE => ?_)
      cases hf
      exact k_vret b hlk hr hE (Nat.le_refl _) (Nat.le_refl _) dX1_setLaw_73
    · have hf := oI_f c5 hf
      cases hf
      exact k_vret b hlk hr hE (Nat.le_refl _) (Nat.le_refl _) dX1_setLaw_15
def fX1_setLaw (h : PH) (x0 : Nat) (x1 : Int32) (x2 : Int32) (x3 : Int32) (x4 : Int32) (x5 : Int32) : Option (PH) := fX1_setLaw_0 h x0 x1 x2 x3 x4 x5
set_option maxHeartbeats 4000000 in
theorem CX1_setLaw (l : Launch) (D : va_G) (aC : Nat → ClassId) (ad : Nat → Nat) {Z : State → Prop} (zk : ZOK Z (Rg ad)) {h : PH} {x0 : Nat} {x1 : Int32} {x2 : Int32} {x3 : Int32} {x4 : Int32} {x5 : Int32} {hz : PH} (hf : fX1_setLaw h x0 x1 x2 x3 x4 x5 = some hz) : CM l D aC Z yX1_setLaw cX1_setLaw 7 (none) 0 0 0 0 (EX D aC ad h) [.ref (ad x0), .int x1, .int x2, .int x3, .int x4, .int x5] (EX D aC ad hz) none (Rg ad) := by
  refine CM.of rfl ?_
  intro p e s m below meth c b hr hlk hin2 zs hE
  refine k_ent (Nat.le_of_ble_eq_true rfl) (fun ls hl => ?_)
  exact wfX1_setLaw_0 b hlk hr zs zk hf hE (lv_sub hl [0, 1, 2, 3, 4, 5] rfl)
end
