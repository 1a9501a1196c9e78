section
variable {p : Program} {l : Launch} {e : Env} {s : State} {m : MethodId} {below : List Frame} {meth : Method} {c : Code} {D : va_G} {aC : Nat → ClassId} {ad : Nat → Nat}
theorem dJ13_compare_74951_0 : decode cJ13_compare_74951 0 = .ok (.lload_n 0, 1) := by decide +kernel
theorem dJ13_compare_74951_1 : decode cJ13_compare_74951 1 = .ok (.lload_n 2, 1) := by decide +kernel
theorem dJ13_compare_74951_2 : decode cJ13_compare_74951 2 = .ok (.lcmp, 1) := by decide +kernel
theorem dJ13_compare_74951_3 : decode cJ13_compare_74951 3 = .ok (.ifCond .ge 7, 3) := by decide +kernel
theorem dJ13_compare_74951_6 : decode cJ13_compare_74951 6 = .ok (.iconst (-1), 1) := by decide +kernel
theorem dJ13_compare_74951_7 : decode cJ13_compare_74951 7 = .ok (.goto 14, 3) := by decide +kernel
theorem dJ13_compare_74951_10 : decode cJ13_compare_74951 10 = .ok (.lload_n 0, 1) := by decide +kernel
theorem dJ13_compare_74951_11 : decode cJ13_compare_74951 11 = .ok (.lload_n 2, 1) := by decide +kernel
theorem dJ13_compare_74951_12 : decode cJ13_compare_74951 12 = .ok (.lcmp, 1) := by decide +kernel
theorem dJ13_compare_74951_13 : decode cJ13_compare_74951 13 = .ok (.ifCond .ne 7, 3) := by decide +kernel
theorem dJ13_compare_74951_16 : decode cJ13_compare_74951 16 = .ok (.iconst 0, 1) := by decide +kernel
theorem dJ13_compare_74951_17 : decode cJ13_compare_74951 17 = .ok (.goto 4, 3) := by decide +kernel
theorem dJ13_compare_74951_20 : decode cJ13_compare_74951 20 = .ok (.iconst 1, 1) := by decide +kernel
theorem dJ13_compare_74951_21 : decode cJ13_compare_74951 21 = .ok (.ireturn, 1) := by decide +kernel
def fJ13_compare_74951_0  (x0 : Int64) (x2 : Int64) : Option (Int32) :=
  if 0 ≤ (lg_cmp x0 x2) then (if (lg_cmp x0 x2) = 0 then (some (0)) else (some (1))) else (some ((-1)))
set_option maxHeartbeats 4000000 in
theorem wfJ13_compare_74951_0 {E : Heap → Prop} {A : Nat → Prop} {args : Array Value} (b : Bd p s m c cJ13_compare_74951 4 RJ13 D aC) (hlk : meth.locks = false) (hr : meth.sig.returnType = some .int) {Z : State → Prop} (zs : Z s) (zk : ZOK Z A) {rz : Int32} {x0 : Int64} {x2 : Int64}  {H : Heap} {locs : List Loc} {ls : Array Slot} (hf : fJ13_compare_74951_0 x0 x2 = some rz) (hE : CE E A s H locs) (hl : lv_has ls 4 [(0, .long x0), (2, .long x2)]) : W p l e (RM 0 0 0 0) s m args below meth c H locs 0 0 (MQ below (PQ E A (some (.int rz))) args s 0 0 A) (F0 m 0 ls []) := by
  unfold fJ13_compare_74951_0 at hf
  refine lv_lload_n b.1 b.2.1 dJ13_compare_74951_0 rfl (lv_at hl 0 rfl) ?_
  refine lv_lload_n b.1 b.2.1 dJ13_compare_74951_1 rfl (lv_at hl 1 rfl) ?_
  refine W.lcmp b.1 b.2.1 dJ13_compare_74951_2 ?_
  refine lv_if_ge (tgt := 10) b.1 b.2.1 dJ13_compare_74951_3 (by decide) (fun c1 => ?_) (fun c1 => ?_)
  · have hf := oI_t c1 hf
    refine lv_lload_n b.1 b.2.1 dJ13_compare_74951_10 rfl (lv_at hl 0 rfl) ?_
    refine lv_lload_n b.1 b.2.1 dJ13_compare_74951_11 rfl (lv_at hl 1 rfl) ?_
    refine W.lcmp b.1 b.2.1 dJ13_compare_74951_12 ?_
    refine lv_if_ne (tgt := 20) b.1 b.2.1 dJ13_compare_74951_13 (by decide) (fun c2 => ?_) (fun c2 => ?_)
    · have hf := oI_f c2 hf
      refine lv_iconst (v := 1) b.1 b.2.1 dJ13_compare_74951_20 (by decide) ?_
      cases hf
      exact k_iret b hlk hr hE (Nat.le_refl _) (Nat.le_refl _) dJ13_compare_74951_21
    · have hf := oI_t c2 hf
      refine lv_iconst (v := 0) b.1 b.2.1 dJ13_compare_74951_16 (by decide) ?_
      refine lv_goto (tgt := 21) b.1 b.2.1 dJ13_compare_74951_17 (by decide) ?_
      cases hf
      exact k_iret b hlk hr hE (Nat.le_refl _) (Nat.le_refl _) dJ13_compare_74951_21
  · have hf := oI_f c1 hf
    refine lv_iconst (v := (-1)) b.1 b.2.1 dJ13_compare_74951_6 (by decide) ?_
    refine lv_goto (tgt := 21) b.1 b.2.1 dJ13_compare_74951_7 (by decide) ?_
    cases hf
    exact k_iret b hlk hr hE (Nat.le_refl _) (Nat.le_refl _) dJ13_compare_74951_21
def fJ13_compare_74951 (x0 : Int64) (x2 : Int64) : Option (Int32) := fJ13_compare_74951_0 x0 x2
set_option maxHeartbeats 4000000 in
theorem CJ13_compare_74951 (l : Launch) (D : va_G) (aC : Nat → ClassId) {E : Heap → Prop} {A : Nat → Prop} {Z : State → Prop} (zk : ZOK Z A) {x0 : Int64} {x2 : Int64} {rz : Int32} (hf : fJ13_compare_74951 x0 x2 = some rz) : CM l D aC Z yJ13_compare_74951 cJ13_compare_74951 4 (some .int) 0 0 0 0 E [.long x0, .long x2] E (some (.int rz)) A := by
  refine CM.of rfl ?_
  intro p e s m below meth c b hr hlk hin2 zs hE
  refine k_ent (Nat.le_of_ble_eq_true rfl) (fun ls hl => ?_)
  exact wfJ13_compare_74951_0 b hlk hr zs zk hf hE (lv_sub hl [0, 1] rfl)
theorem dJ7_fill_53178_0 : decode cJ7_fill_53178 0 = .ok (.iconst 0, 1) := by decide +kernel
theorem dJ7_fill_53178_1 : decode cJ7_fill_53178 1 = .ok (.istore_n 2, 1) := by decide +kernel
theorem dJ7_fill_53178_2 : decode cJ7_fill_53178 2 = .ok (.aload_n 0, 1) := by decide +kernel
theorem dJ7_fill_53178_3 : decode cJ7_fill_53178 3 = .ok (.arraylength, 1) := by decide +kernel
theorem dJ7_fill_53178_4 : decode cJ7_fill_53178 4 = .ok (.istore_n 3, 1) := by decide +kernel
theorem dJ7_fill_53178_5 : decode cJ7_fill_53178 5 = .ok (.iload_n 2, 1) := by decide +kernel
theorem dJ7_fill_53178_6 : decode cJ7_fill_53178 6 = .ok (.iload_n 3, 1) := by decide +kernel
theorem dJ7_fill_53178_7 : decode cJ7_fill_53178 7 = .ok (.if_icmp .ge 13, 3) := by decide +kernel
theorem dJ7_fill_53178_10 : decode cJ7_fill_53178 10 = .ok (.aload_n 0, 1) := by decide +kernel
theorem dJ7_fill_53178_11 : decode cJ7_fill_53178 11 = .ok (.iload_n 2, 1) := by decide +kernel
theorem dJ7_fill_53178_12 : decode cJ7_fill_53178 12 = .ok (.iload_n 1, 1) := by decide +kernel
theorem dJ7_fill_53178_13 : decode cJ7_fill_53178 13 = .ok (.iastore, 1) := by decide +kernel
theorem dJ7_fill_53178_14 : decode cJ7_fill_53178 14 = .ok (.iinc 2 1, 3) := by decide +kernel
theorem dJ7_fill_53178_17 : decode cJ7_fill_53178 17 = .ok (.goto (-12), 3) := by decide +kernel
theorem dJ7_fill_53178_20 : decode cJ7_fill_53178 20 = .ok (.return_, 1) := by decide +kernel
def fJ7_fill_53178_5F (k5 : PH → Option Nat → Int32 → Int32 → Int32 → Option (PH)) (h : PH) (x0 : Option Nat) (x1 : Int32) (x2 : Int32) (x3 : Int32) : Option (PH) :=
  if x3 ≤ x2 then (some (h)) else (oN x0 (fun a2 => oC (decide (hT h a2 = 101)) (oC (ix x2 (hN h a2)) (oL (sA h a2 (Int32.toNatClampNeg x2) x1) (fun h5 => oL (x2 + 1) (fun y6 => k5 h5 x0 x1 y6 x3))))))
set_option maxHeartbeats 4000000 in
theorem wfJ7_fill_53178_5F {args : Array Value} (b : Bd p s m c cJ7_fill_53178 4 RJ7 D aC) (hlk : meth.locks = false) (hr : meth.sig.returnType = none) {Z : State → Prop} (zs : Z s) (zk : ZOK Z (Rg ad)) {hz : PH} {k5 : PH → Option Nat → Int32 → Int32 → Int32 → Option (PH)} (H5 : ∀ (h : PH) (x0 : Option Nat) (x1 : Int32) (x2 : Int32) (x3 : Int32), ∀ (H : Heap) (locs : List Loc) (ls : Array Slot), k5 h x0 x1 x2 x3 = some hz → CE (EX D aC ad h) (Rg ad) s H locs → lv_has ls 4 [(0, va_rf (Option.map ad x0)), (1, .int x1), (2, .int x2), (3, .int x3)] → W p l e (RM 0 0 0 0) s m args below meth c H locs 0 0 (MQ below (PQ (EX D aC ad hz) (Rg ad) none) args s 0 0 (Rg ad)) (F0 m 5 ls [])) {h : PH} {x0 : Option Nat} {x1 : Int32} {x2 : Int32} {x3 : Int32}  {H : Heap} {locs : List Loc} {ls : Array Slot} (hf : fJ7_fill_53178_5F k5 h x0 x1 x2 x3 = some hz) (hE : CE (EX D aC ad h) (Rg ad) s H locs) (hl : lv_has ls 4 [(0, va_rf (Option.map ad x0)), (1, .int x1), (2, .int x2), (3, .int x3)]) : W p l e (RM 0 0 0 0) s m args below meth c H locs 0 0 (MQ below (PQ (EX D aC ad hz) (Rg ad) none) args s 0 0 (Rg ad)) (F0 m 5 ls []) := by
  unfold fJ7_fill_53178_5F at hf
  refine lv_iload_n b.1 b.2.1 dJ7_fill_53178_5 rfl (lv_at hl 2 rfl) ?_
  refine lv_iload_n b.1 b.2.1 dJ7_fill_53178_6 rfl (lv_at hl 3 rfl) ?_
  refine lv_icmp_ge (tgt := 20) b.1 b.2.1 dJ7_fill_53178_7 (by decide) (fun c1 => ?_) (fun c1 => ?_)
  · have hf := oI_t c1 hf
    cases hf
    exact k_vret b hlk hr hE (Nat.le_refl _) (Nat.le_refl _) dJ7_fill_53178_20
  · have hf := oI_f c1 hf
    refine k_aload_n (x := Option.map ad x0) b dJ7_fill_53178_10 rfl (lv_at hl 0 rfl) ?_
    refine lv_iload_n b.1 b.2.1 dJ7_fill_53178_11 rfl (lv_at hl 2 rfl) ?_
    refine lv_iload_n b.1 b.2.1 dJ7_fill_53178_12 rfl (lv_at hl 1 rfl) ?_
    obtain ⟨a2, ea2, hf⟩ := oN_s hf
    obtain ⟨t3, hf⟩ := oC_s hf
    have t3 := of_decide_eq_true t3
    obtain ⟨g4, hf⟩ := oC_s hf
    obtain ⟨h5, eh5, hf⟩ := oL_s hf
    refine q_iast (x := x0) b hE ea2 t3 g4 eh5 dJ7_fill_53178_13 (fun H locs hE => ?_)
    obtain ⟨y6, ey6, hf⟩ := oL_s hf
    refine lv_iinc (v := y6) (lv' := [(2, .int y6), (0, va_rf (Option.map ad x0)), (1, .int x1), (3, .int x3)]) b.1 b.2.1 dJ7_fill_53178_14 hl (k := 2) rfl (by rw [ey6]; rfl) (by decide) rfl (fun ls hl => ?_)
    refine lv_goto (tgt := 5) b.1 b.2.1 dJ7_fill_53178_17 (by decide) ?_
    exact H5 h5 x0 x1 y6 x3 _ _ _ hf hE (lv_sub hl [1, 2, 0, 3] rfl)
def fJ7_fill_53178_5  : Nat → PH → Option Nat → Int32 → Int32 → Int32 → Option (PH)
  | 0 => fun _ _ _ _ _ => none
  | n + 1 => fJ7_fill_53178_5F  (fJ7_fill_53178_5  n)
set_option maxHeartbeats 4000000 in
theorem wfJ7_fill_53178_5 {args : Array Value} (b : Bd p s m c cJ7_fill_53178 4 RJ7 D aC) (hlk : meth.locks = false) (hr : meth.sig.returnType = none) {Z : State → Prop} (zs : Z s) (zk : ZOK Z (Rg ad)) {hz : PH} : ∀ n : Nat, ∀ (h : PH) (x0 : Option Nat) (x1 : Int32) (x2 : Int32) (x3 : Int32), ∀ (H : Heap) (locs : List Loc) (ls : Array Slot), fJ7_fill_53178_5  n h x0 x1 x2 x3 = some hz → CE (EX D aC ad h) (Rg ad) s H locs → lv_has ls 4 [(0, va_rf (Option.map ad x0)), (1, .int x1), (2, .int x2), (3, .int x3)] → W p l e (RM 0 0 0 0) s m args below meth c H locs 0 0 (MQ below (PQ (EX D aC ad hz) (Rg ad) none) args s 0 0 (Rg ad)) (F0 m 5 ls []) := by
  intro n
  induction n with
  | zero =>
    intro h x0 x1 x2 x3 H locs ls hf
    have hf : (none : Option (PH)) = some _ := hf
    cases hf
  | succ n ih =>
    intro h x0 x1 x2 x3 H locs ls hf hE hl
    exact wfJ7_fill_53178_5F b hlk hr zs zk  ih hf hE hl
def fJ7_fill_53178_0  (h : PH) (x0 : Option Nat) (x1 : Int32) : Option (PH) :=
  oN x0 (fun a7 => oC (decide (hT h a7 = 101)) (oL (nI (hN h a7)) (fun y9 => fJ7_fill_53178_5  FU h x0 x1 0 y9)))
set_option maxHeartbeats 4000000 in
theorem wfJ7_fill_53178_0 {args : Array Value} (b : Bd p s m c cJ7_fill_53178 4 RJ7 D aC) (hlk : meth.locks = false) (hr : meth.sig.returnType = none) {Z : State → Prop} (zs : Z s) (zk : ZOK Z (Rg ad)) {hz : PH} {h : PH} {x0 : Option Nat} {x1 : Int32}  {H : Heap} {locs : List Loc} {ls : Array Slot} (hf : fJ7_fill_53178_0 h x0 x1 = some hz) (hE : CE (EX D aC ad h) (Rg ad) s H locs) (hl : lv_has ls 4 [(0, va_rf (Option.map ad x0)), (1, .int x1)]) : W p l e (RM 0 0 0 0) s m args below meth c H locs 0 0 (MQ below (PQ (EX D aC ad hz) (Rg ad) none) args s 0 0 (Rg ad)) (F0 m 0 ls []) := by
  unfold fJ7_fill_53178_0 at hf
  refine lv_iconst (v := 0) b.1 b.2.1 dJ7_fill_53178_0 (by decide) ?_
  refine lv_istore_n (lv' := [(2, .int 0), (0, va_rf (Option.map ad x0)), (1, .int x1)]) b.1 b.2.1 dJ7_fill_53178_1 rfl hl (by decide) rfl (fun ls hl => ?_)
  refine k_aload_n (x := Option.map ad x0) b dJ7_fill_53178_2 rfl (lv_at hl 1 rfl) ?_
  obtain ⟨a7, ea7, hf⟩ := oN_s hf
  obtain ⟨t8, hf⟩ := oC_s hf
  have t8 := of_decide_eq_true t8
  refine q_alen (x := x0) (k := 1) b hE ea7 (by decide) t8 dJ7_fill_53178_3 ?_
  obtain ⟨y9, ey9, hf⟩ := oL_s hf
  refine k_nmI ey9 ?_
  refine lv_istore_n (lv' := [(3, .int y9), (2, .int 0), (0, va_rf (Option.map ad x0)), (1, .int x1)]) b.1 b.2.1 dJ7_fill_53178_4 rfl hl (by decide) rfl (fun ls hl => ?_)
  exact wfJ7_fill_53178_5 b hlk hr zs zk  FU h x0 x1 0 y9 _ _ _ hf hE (lv_sub hl [2, 3, 1, 0] rfl)
def fJ7_fill_53178 (h : PH) (x0 : Option Nat) (x1 : Int32) : Option (PH) := fJ7_fill_53178_0 h x0 x1
set_option maxHeartbeats 4000000 in
theorem CJ7_fill_53178 (l : Launch) (D : va_G) (aC : Nat → ClassId) (ad : Nat → Nat) {Z : State → Prop} (zk : ZOK Z (Rg ad)) {h : PH} {x0 : Option Nat} {x1 : Int32} {hz : PH} (hf : fJ7_fill_53178 h x0 x1 = some hz) : CM l D aC Z yJ7_fill_53178 cJ7_fill_53178 4 (none) 0 0 0 0 (EX D aC ad h) [va_rf (Option.map ad x0), .int x1] (EX D aC ad hz) none (Rg ad) := by
  refine CM.of rfl ?_
  intro p e s m below meth c b hr hlk hin2 zs hE
  cases x0 <;> (
    refine k_ent (Nat.le_of_ble_eq_true rfl) (fun ls hl => ?_)
    exact wfJ7_fill_53178_0 b hlk hr zs zk hf hE (lv_sub hl [0, 1] rfl))
theorem dJ7_copyOf_9075b_0 : decode cJ7_copyOf_9075b 0 = .ok (.iload_n 1, 1) := by decide +kernel
theorem dJ7_copyOf_9075b_1 : decode cJ7_copyOf_9075b 1 = .ok (.aload_n 0, 1) := by decide +kernel
theorem dJ7_copyOf_9075b_2 : decode cJ7_copyOf_9075b 2 = .ok (.arraylength, 1) := by decide +kernel
theorem dJ7_copyOf_9075b_3 : decode cJ7_copyOf_9075b 3 = .ok (.if_icmp .ne 11, 3) := by decide +kernel
theorem dJ7_copyOf_9075b_6 : decode cJ7_copyOf_9075b 6 = .ok (.aload_n 0, 1) := by decide +kernel
theorem dJ7_copyOf_9075b_7 : decode cJ7_copyOf_9075b 7 = .ok (.invokevirtual 310, 3) := by decide +kernel
theorem dJ7_copyOf_9075b_10 : decode cJ7_copyOf_9075b 10 = .ok (.checkcast 311, 3) := by decide +kernel
theorem dJ7_copyOf_9075b_13 : decode cJ7_copyOf_9075b 13 = .ok (.areturn, 1) := by decide +kernel
theorem dJ7_copyOf_9075b_14 : decode cJ7_copyOf_9075b 14 = .ok (.iload_n 1, 1) := by decide +kernel
theorem dJ7_copyOf_9075b_15 : decode cJ7_copyOf_9075b 15 = .ok (.newarray .byte, 2) := by decide +kernel
theorem dJ7_copyOf_9075b_17 : decode cJ7_copyOf_9075b 17 = .ok (.astore_n 2, 1) := by decide +kernel
theorem dJ7_copyOf_9075b_18 : decode cJ7_copyOf_9075b 18 = .ok (.aload_n 0, 1) := by decide +kernel
theorem dJ7_copyOf_9075b_19 : decode cJ7_copyOf_9075b 19 = .ok (.iconst 0, 1) := by decide +kernel
theorem dJ7_copyOf_9075b_20 : decode cJ7_copyOf_9075b 20 = .ok (.aload_n 2, 1) := by decide +kernel
theorem dJ7_copyOf_9075b_21 : decode cJ7_copyOf_9075b 21 = .ok (.iconst 0, 1) := by decide +kernel
theorem dJ7_copyOf_9075b_22 : decode cJ7_copyOf_9075b 22 = .ok (.aload_n 0, 1) := by decide +kernel
theorem dJ7_copyOf_9075b_23 : decode cJ7_copyOf_9075b 23 = .ok (.arraylength, 1) := by decide +kernel
theorem dJ7_copyOf_9075b_24 : decode cJ7_copyOf_9075b 24 = .ok (.iload_n 1, 1) := by decide +kernel
theorem dJ7_copyOf_9075b_25 : decode cJ7_copyOf_9075b 25 = .ok (.invokestatic 304, 3) := by decide +kernel
theorem dJ7_copyOf_9075b_28 : decode cJ7_copyOf_9075b 28 = .ok (.invokestatic 150, 3) := by decide +kernel
theorem dJ7_copyOf_9075b_31 : decode cJ7_copyOf_9075b 31 = .ok (.aload_n 2, 1) := by decide +kernel
theorem dJ7_copyOf_9075b_32 : decode cJ7_copyOf_9075b 32 = .ok (.areturn, 1) := by decide +kernel
def fJ7_copyOf_9075b_0  (h : PH) (x0 : Option Nat) (x1 : Int32) : Option (PH × Option Nat × Nat × Nat) :=
  oN x0 (fun a1 => oC (decide (hT h a1 = 100)) (if x1 = (nI (hN h a1)) then none else (oC (decide (0 ≤ x1)) (oC (decide ((Int32.toNatClampNeg x1) * 8 ≤ 536870912)) (oL (nA h 100 (Int32.toNatClampNeg x1)) (fun h8 => oK4 1 (Int32.toNatClampNeg x1) (oC (decide (¬ (if x1 < (nI (hN h8 a1)) then x1 else (nI (hN h8 a1))) < 0)) (oC (decide ((Int32.toNatClampNeg (if x1 < (nI (hN h8 a1)) then x1 else (nI (hN h8 a1)))) ≤ hN h8 a1)) (oC (decide ((Int32.toNatClampNeg (if x1 < (nI (hN h8 a1)) then x1 else (nI (hN h8 a1)))) ≤ hN h8 (hZ h))) (oC ((List.range (Int32.toNatClampNeg (if x1 < (nI (hN h8 a1)) then x1 else (nI (hN h8 a1))))).all (fun i => decide (Int8.toInt32 (Int32.toInt8 (hA h8 a1 i)) = hA h8 a1 i))) (oL (sY h8 (hZ h) a1 (Int32.toNatClampNeg (if x1 < (nI (hN h8 a1)) then x1 else (nI (hN h8 a1))))) (fun h15 => some (h15, some (hZ h), 0, 0)))))))))))))
set_option maxHeartbeats 4000000 in
theorem wfJ7_copyOf_9075b_0 {mc ms cells slots : Nat} {args : Array Value} (b : Bd p s m c cJ7_copyOf_9075b 3 RJ7 D aC) (hlk : meth.locks = false) (hr : meth.sig.returnType = some (.array .byte)) {Z : State → Prop} (zs : Z s) (zk : ZOK Z (Rg ad)) {hz : PH} {rz : Option Nat} {h : PH} {x0 : Option Nat} {x1 : Int32} {kz : Nat} {mz : Nat}  {H : Heap} {locs : List Loc} {ls : Array Slot} (hf : fJ7_copyOf_9075b_0 h x0 x1 = some (hz, rz, kz, mz)) (hk : cells + kz ≤ mc) (hs : slots + mz ≤ ms) (hE : CE (EX D aC ad h) (Rg ad) s H locs) (hl : lv_has ls 3 [(0, va_rf (Option.map ad x0)), (1, .int x1)]) : W p l e (RM 1 60 mc ms) s m args below meth c H locs cells slots (MQ below (PQ (EX D aC ad hz) (Rg ad) (some (va_rf (Option.map ad rz)))) args s mc ms (Rg ad)) (F0 m 0 ls []) := by
  unfold fJ7_copyOf_9075b_0 at hf
  refine lv_iload_n b.1 b.2.1 dJ7_copyOf_9075b_0 rfl (lv_at hl 1 rfl) ?_
  refine k_aload_n (x := Option.map ad x0) b dJ7_copyOf_9075b_1 rfl (lv_at hl 0 rfl) ?_
  obtain ⟨a1, ea1, hf⟩ := oN_s hf
  obtain ⟨t2, hf⟩ := oC_s hf
  have t2 := of_decide_eq_true t2
  refine q_alen (x := x0) (k := 0) b hE ea1 (by decide) t2 dJ7_copyOf_9075b_2 ?_
  refine lv_icmp_ne (tgt := 14) b.1 b.2.1 dJ7_copyOf_9075b_3 (by decide) (fun c3 => ?_) (fun c3 => ?_)
  · have hf := oI_f c3 hf
    refine lv_iload_n b.1 b.2.1 dJ7_copyOf_9075b_14 rfl (lv_at hl 1 rfl) ?_
    obtain ⟨g4, hf⟩ := oC_s hf
    obtain ⟨g5, hf⟩ := oC_s hf
    obtain ⟨h8, eh8, hf⟩ := oL_s hf
    obtain ⟨i6, j7, ei6, ej7, hf⟩ := oK4_s hf
    have t9 := tg_nA (t := 99) hE eh8 t2
    have t10 := tg_nA0 eh8
    refine q_newa0 b hE (in1 45 rfl rfl) g4 g5 (le_room hk ei6) (le_room hs ej7) eh8 dJ7_copyOf_9075b_15 (fun H hE => ?_)
    have hk := le_step hk ei6
    have hs := le_step hs ej7
    refine lv_astore_n (lv' := [(2, .ref (ad (hZ h))), (0, va_rf (Option.map ad x0)), (1, .int x1)]) b.1 b.2.1 dJ7_copyOf_9075b_17 rfl hl (by decide) rfl (fun ls hl => ?_)
    refine k_aload_n (x := Option.map ad x0) b dJ7_copyOf_9075b_18 rfl (lv_at hl 1 rfl) ?_
    refine lv_iconst (v := 0) b.1 b.2.1 dJ7_copyOf_9075b_19 (by decide) ?_
    refine lv_aload_n b.1 b.2.1 dJ7_copyOf_9075b_20 rfl (lv_at hl 0 rfl) ?_
    refine lv_iconst (v := 0) b.1 b.2.1 dJ7_copyOf_9075b_21 (by decide) ?_
    refine k_aload_n (x := Option.map ad x0) b dJ7_copyOf_9075b_22 rfl (lv_at hl 1 rfl) ?_
    refine q_alen (x := x0) (k := 0) b hE ea1 (by decide) t9 dJ7_copyOf_9075b_23 ?_
    refine lv_iload_n b.1 b.2.1 dJ7_copyOf_9075b_24 rfl (lv_at hl 2 rfl) ?_
    refine k_min b (in2 100 rfl rfl) mthmin_s mth_i mthmin_c hl.1 ⟨Nat.le_of_ble_eq_true rfl, Nat.le_of_ble_eq_true rfl⟩ (Nat.le_of_ble_eq_true rfl) ⟨le_c hk, le_c hs⟩ dJ7_copyOf_9075b_25 ?_
    obtain ⟨g11, hf⟩ := oC_s hf
    obtain ⟨g12, hf⟩ := oC_s hf
    obtain ⟨g13, hf⟩ := oC_s hf
    obtain ⟨g14, hf⟩ := oC_s hf
    obtain ⟨h15, eh15, hf⟩ := oL_s hf
    refine k_stk [.int (if x1 < (nI (hN h8 a1)) then x1 else (nI (hN h8 a1))), .int 0, .ref (ad (hZ h)), .int 0] ea1 ?_
    refine x_acopy0 b hE (in2 101 rfl rfl) t9 t10 (of_decide_eq_true g11) (of_decide_eq_true g12) (of_decide_eq_true g13) (cp_fit g14) hl.1 ⟨Nat.le_of_ble_eq_true rfl, Nat.le_of_ble_eq_true rfl⟩ (Nat.le_of_ble_eq_true rfl) eh15 dJ7_copyOf_9075b_28 (fun H locs hE => ?_)
    refine lv_aload_n b.1 b.2.1 dJ7_copyOf_9075b_31 rfl (lv_at hl 0 rfl) ?_
    cases hf
    exact k_aretA (x := Option.map ad (some (hZ h))) b hlk hr hE (le_c hk) (le_c hs) dJ7_copyOf_9075b_32
  · have hf := oI_t c3 hf
    cases hf
def fJ7_copyOf_9075b (h : PH) (x0 : Option Nat) (x1 : Int32) : Option (PH × Option Nat × Nat × Nat) := fJ7_copyOf_9075b_0 h x0 x1
set_option maxHeartbeats 4000000 in
theorem CJ7_copyOf_9075b (l : Launch) (D : va_G) (aC : Nat → ClassId) (ad : Nat → Nat) {Z : State → Prop} (zk : ZOK Z (Rg ad)) {h : PH} {x0 : Option Nat} {x1 : Int32} {hz : PH} {rz : Option Nat} {kz : Nat} {mz : Nat} (hf : fJ7_copyOf_9075b h x0 x1 = some (hz, rz, kz, mz)) : CM l D aC Z yJ7_copyOf_9075b cJ7_copyOf_9075b 3 (some (.array .byte)) 1 60 kz mz (EX D aC ad h) [va_rf (Option.map ad x0), .int x1] (EX D aC ad hz) (some (va_rf (Option.map ad rz))) (Rg ad) := by
  refine CM.of rfl ?_
  intro p e s m below meth c b hr hlk hin2 zs hE
  cases x0 <;> (
    refine k_ent (Nat.le_of_ble_eq_true rfl) (fun ls hl => ?_)
    exact wfJ7_copyOf_9075b_0 b hlk hr zs zk hf (by omega) (by omega) hE (lv_sub hl [0, 1] rfl))
theorem dJ7_copyOf_59c91_0 : decode cJ7_copyOf_59c91 0 = .ok (.iload_n 1, 1) := by decide +kernel
theorem dJ7_copyOf_59c91_1 : decode cJ7_copyOf_59c91 1 = .ok (.aload_n 0, 1) := by decide +kernel
theorem dJ7_copyOf_59c91_2 : decode cJ7_copyOf_59c91 2 = .ok (.arraylength, 1) := by decide +kernel
theorem dJ7_copyOf_59c91_3 : decode cJ7_copyOf_59c91 3 = .ok (.if_icmp .ne 11, 3) := by decide +kernel
theorem dJ7_copyOf_59c91_6 : decode cJ7_copyOf_59c91 6 = .ok (.aload_n 0, 1) := by decide +kernel
theorem dJ7_copyOf_59c91_7 : decode cJ7_copyOf_59c91 7 = .ok (.invokevirtual 316, 3) := by decide +kernel
theorem dJ7_copyOf_59c91_10 : decode cJ7_copyOf_59c91 10 = .ok (.checkcast 317, 3) := by decide +kernel
theorem dJ7_copyOf_59c91_13 : decode cJ7_copyOf_59c91 13 = .ok (.areturn, 1) := by decide +kernel
theorem dJ7_copyOf_59c91_14 : decode cJ7_copyOf_59c91 14 = .ok (.iload_n 1, 1) := by decide +kernel
theorem dJ7_copyOf_59c91_15 : decode cJ7_copyOf_59c91 15 = .ok (.newarray .int, 2) := by decide +kernel
theorem dJ7_copyOf_59c91_17 : decode cJ7_copyOf_59c91 17 = .ok (.astore_n 2, 1) := by decide +kernel
theorem dJ7_copyOf_59c91_18 : decode cJ7_copyOf_59c91 18 = .ok (.aload_n 0, 1) := by decide +kernel
theorem dJ7_copyOf_59c91_19 : decode cJ7_copyOf_59c91 19 = .ok (.iconst 0, 1) := by decide +kernel
theorem dJ7_copyOf_59c91_20 : decode cJ7_copyOf_59c91 20 = .ok (.aload_n 2, 1) := by decide +kernel
theorem dJ7_copyOf_59c91_21 : decode cJ7_copyOf_59c91 21 = .ok (.iconst 0, 1) := by decide +kernel
theorem dJ7_copyOf_59c91_22 : decode cJ7_copyOf_59c91 22 = .ok (.aload_n 0, 1) := by decide +kernel
theorem dJ7_copyOf_59c91_23 : decode cJ7_copyOf_59c91 23 = .ok (.arraylength, 1) := by decide +kernel
theorem dJ7_copyOf_59c91_24 : decode cJ7_copyOf_59c91 24 = .ok (.iload_n 1, 1) := by decide +kernel
theorem dJ7_copyOf_59c91_25 : decode cJ7_copyOf_59c91 25 = .ok (.invokestatic 304, 3) := by decide +kernel
theorem dJ7_copyOf_59c91_28 : decode cJ7_copyOf_59c91 28 = .ok (.invokestatic 150, 3) := by decide +kernel
theorem dJ7_copyOf_59c91_31 : decode cJ7_copyOf_59c91 31 = .ok (.aload_n 2, 1) := by decide +kernel
theorem dJ7_copyOf_59c91_32 : decode cJ7_copyOf_59c91 32 = .ok (.areturn, 1) := by decide +kernel
def fJ7_copyOf_59c91_0  (h : PH) (x0 : Option Nat) (x1 : Int32) : Option (PH × Option Nat × Nat × Nat) :=
  oN x0 (fun a1 => oC (decide (hT h a1 = 101)) (if x1 = (nI (hN h a1)) then none else (oC (decide (0 ≤ x1)) (oC (decide ((Int32.toNatClampNeg x1) * 8 ≤ 536870912)) (oL (nA h 101 (Int32.toNatClampNeg x1)) (fun h8 => oK4 1 (Int32.toNatClampNeg x1) (oC (decide (¬ (if x1 < (nI (hN h8 a1)) then x1 else (nI (hN h8 a1))) < 0)) (oC (decide ((Int32.toNatClampNeg (if x1 < (nI (hN h8 a1)) then x1 else (nI (hN h8 a1)))) ≤ hN h8 a1)) (oC (decide ((Int32.toNatClampNeg (if x1 < (nI (hN h8 a1)) then x1 else (nI (hN h8 a1)))) ≤ hN h8 (hZ h))) (oL (sY h8 (hZ h) a1 (Int32.toNatClampNeg (if x1 < (nI (hN h8 a1)) then x1 else (nI (hN h8 a1))))) (fun h14 => some (h14, some (hZ h), 0, 0))))))))))))
set_option maxHeartbeats 4000000 in
theorem wfJ7_copyOf_59c91_0 {mc ms cells slots : Nat} {args : Array Value} (b : Bd p s m c cJ7_copyOf_59c91 3 RJ7 D aC) (hlk : meth.locks = false) (hr : meth.sig.returnType = some (.array .int)) {Z : State → Prop} (zs : Z s) (zk : ZOK Z (Rg ad)) {hz : PH} {rz : Option Nat} {h : PH} {x0 : Option Nat} {x1 : Int32} {kz : Nat} {mz : Nat}  {H : Heap} {locs : List Loc} {ls : Array Slot} (hf : fJ7_copyOf_59c91_0 h x0 x1 = some (hz, rz, kz, mz)) (hk : cells + kz ≤ mc) (hs : slots + mz ≤ ms) (hE : CE (EX D aC ad h) (Rg ad) s H locs) (hl : lv_has ls 3 [(0, va_rf (Option.map ad x0)), (1, .int x1)]) : W p l e (RM 1 60 mc ms) s m args below meth c H locs cells slots (MQ below (PQ (EX D aC ad hz) (Rg ad) (some (va_rf (Option.map ad rz)))) args s mc ms (Rg ad)) (F0 m 0 ls []) := by
  unfold fJ7_copyOf_59c91_0 at hf
  refine lv_iload_n b.1 b.2.1 dJ7_copyOf_59c91_0 rfl (lv_at hl 1 rfl) ?_
  refine k_aload_n (x := Option.map ad x0) b dJ7_copyOf_59c91_1 rfl (lv_at hl 0 rfl) ?_
  obtain ⟨a1, ea1, hf⟩ := oN_s hf
  obtain ⟨t2, hf⟩ := oC_s hf
  have t2 := of_decide_eq_true t2
  refine q_alen (x := x0) (k := 1) b hE ea1 (by decide) t2 dJ7_copyOf_59c91_2 ?_
  refine lv_icmp_ne (tgt := 14) b.1 b.2.1 dJ7_copyOf_59c91_3 (by decide) (fun c3 => ?_) (fun c3 => ?_)
  · have hf := oI_f c3 hf
    refine lv_iload_n b.1 b.2.1 dJ7_copyOf_59c91_14 rfl (lv_at hl 1 rfl) ?_
    obtain ⟨g4, hf⟩ := oC_s hf
    obtain ⟨g5, hf⟩ := oC_s hf
    obtain ⟨h8, eh8, hf⟩ := oL_s hf
    obtain ⟨i6, j7, ei6, ej7, hf⟩ := oK4_s hf
    have t9 := tg_nA (t := 100) hE eh8 t2
    have t10 := tg_nA0 eh8
    refine q_newa1 b hE (in1 147 rfl rfl) g4 g5 (le_room hk ei6) (le_room hs ej7) eh8 dJ7_copyOf_59c91_15 (fun H hE => ?_)
    have hk := le_step hk ei6
    have hs := le_step hs ej7
    refine lv_astore_n (lv' := [(2, .ref (ad (hZ h))), (0, va_rf (Option.map ad x0)), (1, .int x1)]) b.1 b.2.1 dJ7_copyOf_59c91_17 rfl hl (by decide) rfl (fun ls hl => ?_)
    refine k_aload_n (x := Option.map ad x0) b dJ7_copyOf_59c91_18 rfl (lv_at hl 1 rfl) ?_
    refine lv_iconst (v := 0) b.1 b.2.1 dJ7_copyOf_59c91_19 (by decide) ?_
    refine lv_aload_n b.1 b.2.1 dJ7_copyOf_59c91_20 rfl (lv_at hl 0 rfl) ?_
    refine lv_iconst (v := 0) b.1 b.2.1 dJ7_copyOf_59c91_21 (by decide) ?_
    refine k_aload_n (x := Option.map ad x0) b dJ7_copyOf_59c91_22 rfl (lv_at hl 1 rfl) ?_
    refine q_alen (x := x0) (k := 1) b hE ea1 (by decide) t9 dJ7_copyOf_59c91_23 ?_
    refine lv_iload_n b.1 b.2.1 dJ7_copyOf_59c91_24 rfl (lv_at hl 2 rfl) ?_
    refine k_min b (in2 100 rfl rfl) mthmin_s mth_i mthmin_c hl.1 ⟨Nat.le_of_ble_eq_true rfl, Nat.le_of_ble_eq_true rfl⟩ (Nat.le_of_ble_eq_true rfl) ⟨le_c hk, le_c hs⟩ dJ7_copyOf_59c91_25 ?_
    obtain ⟨g11, hf⟩ := oC_s hf
    obtain ⟨g12, hf⟩ := oC_s hf
    obtain ⟨g13, hf⟩ := oC_s hf
    obtain ⟨h14, eh14, hf⟩ := oL_s hf
    refine k_stk [.int (if x1 < (nI (hN h8 a1)) then x1 else (nI (hN h8 a1))), .int 0, .ref (ad (hZ h)), .int 0] ea1 ?_
    refine x_acopy1 b hE (in2 101 rfl rfl) t9 t10 (of_decide_eq_true g11) (of_decide_eq_true g12) (of_decide_eq_true g13) (fun _ _ => rfl) hl.1 ⟨Nat.le_of_ble_eq_true rfl, Nat.le_of_ble_eq_true rfl⟩ (Nat.le_of_ble_eq_true rfl) eh14 dJ7_copyOf_59c91_28 (fun H locs hE => ?_)
    refine lv_aload_n b.1 b.2.1 dJ7_copyOf_59c91_31 rfl (lv_at hl 0 rfl) ?_
    cases hf
    exact k_aretA (x := Option.map ad (some (hZ h))) b hlk hr hE (le_c hk) (le_c hs) dJ7_copyOf_59c91_32
  · have hf := oI_t c3 hf
    cases hf
def fJ7_copyOf_59c91 (h : PH) (x0 : Option Nat) (x1 : Int32) : Option (PH × Option Nat × Nat × Nat) := fJ7_copyOf_59c91_0 h x0 x1
set_option maxHeartbeats 4000000 in
theorem CJ7_copyOf_59c91 (l : Launch) (D : va_G) (aC : Nat → ClassId) (ad : Nat → Nat) {Z : State → Prop} (zk : ZOK Z (Rg ad)) {h : PH} {x0 : Option Nat} {x1 : Int32} {hz : PH} {rz : Option Nat} {kz : Nat} {mz : Nat} (hf : fJ7_copyOf_59c91 h x0 x1 = some (hz, rz, kz, mz)) : CM l D aC Z yJ7_copyOf_59c91 cJ7_copyOf_59c91 3 (some (.array .int)) 1 60 kz mz (EX D aC ad h) [va_rf (Option.map ad x0), .int x1] (EX D aC ad hz) (some (va_rf (Option.map ad rz))) (Rg ad) := by
  refine CM.of rfl ?_
  intro p e s m below meth c b hr hlk hin2 zs hE
  cases x0 <;> (
    refine k_ent (Nat.le_of_ble_eq_true rfl) (fun ls hl => ?_)
    exact wfJ7_copyOf_59c91_0 b hlk hr zs zk hf (by omega) (by omega) hE (lv_sub hl [0, 1] rfl))
theorem dX0_init_0 : decode cX0_init 0 = .ok (.aload_n 0, 1) := by decide +kernel
theorem dX0_init_1 : decode cX0_init 1 = .ok (.invokespecial 3, 3) := by decide +kernel
theorem dX0_init_4 : decode cX0_init 4 = .ok (.aload_n 0, 1) := by decide +kernel
theorem dX0_init_5 : decode cX0_init 5 = .ok (.iconst 0, 1) := by decide +kernel
theorem dX0_init_6 : decode cX0_init 6 = .ok (.newarray .byte, 2) := by decide +kernel
theorem dX0_init_8 : decode cX0_init 8 = .ok (.putfield 9, 3) := by decide +kernel
theorem dX0_init_11 : decode cX0_init 11 = .ok (.return_, 1) := by decide +kernel
def fX0_init_0  (h : PH) (x0 : Nat) : Option (PH × Nat × Nat) :=
  oL (nA h 100 (Int32.toNatClampNeg 0)) (fun h3 => oK3 1 (Int32.toNatClampNeg 0) (oC (decide (hT h3 x0 = 1)) (oL (sR h3 0 x0 (some (hZ h))) (fun h6 => some (h6, 0, 0)))))
set_option maxHeartbeats 4000000 in
theorem wfX0_init_0 {mc ms cells slots : Nat} {args : Array Value} (b : Bd p s m c cX0_init 1 RX0 D aC) (hlk : meth.locks = false) (hr : meth.sig.returnType = none) {Z : State → Prop} (zs : Z s) (zk : ZOK Z (Rg ad)) (hin2 : meth.name = "<init>") {hz : PH} {h : PH} {x0 : Nat} {kz : Nat} {mz : Nat}  {H : Heap} {locs : List Loc} {ls : Array Slot} (hf : fX0_init_0 h x0 = some (hz, kz, mz)) (hk : cells + kz ≤ mc) (hs : slots + mz ≤ ms) (hE : CE (EX D aC ad h) (Rg ad) s H locs) (hl : lv_has ls 1 [(0, .ref (ad x0))]) : W p l e (RM 1 24 mc ms) s m args below meth c H locs cells slots (MQ below (PQ (EX D aC ad hz) (Rg ad) none) args s mc ms (Rg ad)) (F0 m 0 ls []) := by
  unfold fX0_init_0 at hf
  refine lv_aload_n b.1 b.2.1 dX0_init_0 rfl (lv_at hl 0 rfl) ?_
  refine k_objInit b (in1 35 rfl rfl) objI objC hl.1 ⟨Nat.le_of_ble_eq_true rfl, Nat.le_of_ble_eq_true rfl⟩ (Nat.le_of_ble_eq_true rfl) dX0_init_1 ?_
  refine lv_aload_n b.1 b.2.1 dX0_init_4 rfl (lv_at hl 0 rfl) ?_
  refine lv_iconst (v := 0) b.1 b.2.1 dX0_init_5 (by decide) ?_
  obtain ⟨h3, eh3, hf⟩ := oL_s hf
  obtain ⟨i1, j2, ei1, ej2, hf⟩ := oK3_s hf
  have t4 := tg_nA0 eh3
  refine q_newa0 b hE (in1 45 rfl rfl) (by decide) (by decide) (le_room hk ei1) (le_room hs ej2) eh3 dX0_init_6 (fun H hE => ?_)
  have hk := le_step hk ei1
  have hs := le_step hs ej2
  obtain ⟨t5, hf⟩ := oC_s hf
  have t5 := of_decide_eq_true t5
  obtain ⟨h6, eh6, hf⟩ := oL_s hf
  refine pX0_9 (x := (some x0)) (v := (some (hZ h))) b hE rfl t5 eh6 dX0_init_8 (fun H locs hE => ?_)
  cases hf
  exact k_vret b hlk hr hE (le_c hk) (le_c hs) dX0_init_11
def fX0_init (h : PH) (x0 : Nat) : Option (PH × Nat × Nat) := fX0_init_0 h x0
set_option maxHeartbeats 4000000 in
theorem CX0_init (l : Launch) (D : va_G) (aC : Nat → ClassId) (ad : Nat → Nat) {Z : State → Prop} (zk : ZOK Z (Rg ad)) {h : PH} {x0 : Nat} {hz : PH} {kz : Nat} {mz : Nat} (hf : fX0_init h x0 = some (hz, kz, mz)) : CM l D aC Z yX0_init cX0_init 1 (none) 1 24 kz mz (EX D aC ad h) [.ref (ad x0)] (EX D aC ad hz) none (Rg ad) := by
  refine CM.of rfl ?_
  intro p e s m below meth c b hr hlk hin2 zs hE
  refine k_ent (Nat.le_of_ble_eq_true rfl) (fun ls hl => ?_)
  exact wfX0_init_0 b hlk hr zs zk hin2 hf (by omega) (by omega) hE (lv_sub hl [0] rfl)
theorem dX0_add_0 : decode cX0_add 0 = .ok (.aload_n 0, 1) := by decide +kernel
theorem dX0_add_1 : decode cX0_add 1 = .ok (.getfield 15, 3) := by decide +kernel
theorem dX0_add_4 : decode cX0_add 4 = .ok (.aload_n 0, 1) := by decide +kernel
theorem dX0_add_5 : decode cX0_add 5 = .ok (.getfield 9, 3) := by decide +kernel
theorem dX0_add_8 : decode cX0_add 8 = .ok (.arraylength, 1) := by decide +kernel
theorem dX0_add_9 : decode cX0_add 9 = .ok (.if_icmp .lt 44, 3) := by decide +kernel
theorem dX0_add_12 : decode cX0_add 12 = .ok (.aload_n 0, 1) := by decide +kernel
theorem dX0_add_13 : decode cX0_add 13 = .ok (.getfield 15, 3) := by decide +kernel
theorem dX0_add_16 : decode cX0_add 16 = .ok (.sipush 4000, 3) := by decide +kernel
theorem dX0_add_19 : decode cX0_add 19 = .ok (.if_icmp .ge 34, 3) := by decide +kernel
theorem dX0_add_22 : decode cX0_add 22 = .ok (.bipush 64, 2) := by decide +kernel
theorem dX0_add_24 : decode cX0_add 24 = .ok (.aload_n 0, 1) := by decide +kernel
theorem dX0_add_25 : decode cX0_add 25 = .ok (.getfield 9, 3) := by decide +kernel
theorem dX0_add_28 : decode cX0_add 28 = .ok (.arraylength, 1) := by decide +kernel
theorem dX0_add_29 : decode cX0_add 29 = .ok (.iconst 2, 1) := by decide +kernel
theorem dX0_add_30 : decode cX0_add 30 = .ok (.imul, 1) := by decide +kernel
theorem dX0_add_31 : decode cX0_add 31 = .ok (.invokestatic 19, 3) := by decide +kernel
theorem dX0_add_34 : decode cX0_add 34 = .ok (.istore_n 2, 1) := by decide +kernel
theorem dX0_add_35 : decode cX0_add 35 = .ok (.aload_n 0, 1) := by decide +kernel
theorem dX0_add_36 : decode cX0_add 36 = .ok (.aload_n 0, 1) := by decide +kernel
theorem dX0_add_37 : decode cX0_add 37 = .ok (.getfield 9, 3) := by decide +kernel
theorem dX0_add_40 : decode cX0_add 40 = .ok (.iload_n 2, 1) := by decide +kernel
theorem dX0_add_41 : decode cX0_add 41 = .ok (.sipush 4000, 3) := by decide +kernel
theorem dX0_add_44 : decode cX0_add 44 = .ok (.invokestatic 25, 3) := by decide +kernel
theorem dX0_add_47 : decode cX0_add 47 = .ok (.invokestatic 28, 3) := by decide +kernel
theorem dX0_add_50 : decode cX0_add 50 = .ok (.putfield 9, 3) := by decide +kernel
theorem dX0_add_53 : decode cX0_add 53 = .ok (.aload_n 0, 1) := by decide +kernel
theorem dX0_add_54 : decode cX0_add 54 = .ok (.getfield 15, 3) := by decide +kernel
theorem dX0_add_57 : decode cX0_add 57 = .ok (.ifCond .lt 26, 3) := by decide +kernel
theorem dX0_add_60 : decode cX0_add 60 = .ok (.aload_n 0, 1) := by decide +kernel
theorem dX0_add_61 : decode cX0_add 61 = .ok (.getfield 15, 3) := by decide +kernel
theorem dX0_add_64 : decode cX0_add 64 = .ok (.aload_n 0, 1) := by decide +kernel
theorem dX0_add_65 : decode cX0_add 65 = .ok (.getfield 9, 3) := by decide +kernel
theorem dX0_add_68 : decode cX0_add 68 = .ok (.arraylength, 1) := by decide +kernel
theorem dX0_add_69 : decode cX0_add 69 = .ok (.if_icmp .ge 14, 3) := by decide +kernel
theorem dX0_add_72 : decode cX0_add 72 = .ok (.aload_n 0, 1) := by decide +kernel
theorem dX0_add_73 : decode cX0_add 73 = .ok (.getfield 9, 3) := by decide +kernel
theorem dX0_add_76 : decode cX0_add 76 = .ok (.aload_n 0, 1) := by decide +kernel
theorem dX0_add_77 : decode cX0_add 77 = .ok (.getfield 15, 3) := by decide +kernel
theorem dX0_add_80 : decode cX0_add 80 = .ok (.iload_n 1, 1) := by decide +kernel
theorem dX0_add_81 : decode cX0_add 81 = .ok (.i2b, 1) := by decide +kernel
theorem dX0_add_82 : decode cX0_add 82 = .ok (.bastore, 1) := by decide +kernel
theorem dX0_add_83 : decode cX0_add 83 = .ok (.aload_n 0, 1) := by decide +kernel
theorem dX0_add_84 : decode cX0_add 84 = .ok (.dup, 1) := by decide +kernel
theorem dX0_add_85 : decode cX0_add 85 = .ok (.getfield 15, 3) := by decide +kernel
theorem dX0_add_88 : decode cX0_add 88 = .ok (.iconst 1, 1) := by decide +kernel
theorem dX0_add_89 : decode cX0_add 89 = .ok (.iadd, 1) := by decide +kernel
theorem dX0_add_90 : decode cX0_add 90 = .ok (.putfield 15, 3) := by decide +kernel
theorem dX0_add_93 : decode cX0_add 93 = .ok (.return_, 1) := by decide +kernel
def fX0_add_83  (h : PH) (x0 : Nat) : Option (PH × Nat × Nat) :=
  oC (decide (hT h x0 = 1)) (oL (sI h 1 x0 ((hI h 1 x0) + 1)) (fun h2 => some (h2, 0, 0)))
set_option maxHeartbeats 4000000 in
theorem wfX0_add_83 {mc ms cells slots : Nat} {args : Array Value} (b : Bd p s m c cX0_add 3 RX0 D aC) (hlk : meth.locks = false) (hr : meth.sig.returnType = none) {Z : State → Prop} (zs : Z s) (zk : ZOK Z (Rg ad)) {hz : PH} {h : PH} {x0 : Nat} {kz : Nat} {mz : Nat}  {H : Heap} {locs : List Loc} {ls : Array Slot} (hf : fX0_add_83 h x0 = some (hz, kz, mz)) (hk : cells + kz ≤ mc) (hs : slots + mz ≤ ms) (hE : CE (EX D aC ad h) (Rg ad) s H locs) (hl : lv_has ls 3 [(0, .ref (ad x0))]) : W p l e (RM 2 82 mc ms) s m args below meth c H locs cells slots (MQ below (PQ (EX D aC ad hz) (Rg ad) none) args s mc ms (Rg ad)) (F0 m 83 ls []) := by
  unfold fX0_add_83 at hf
  refine lv_aload_n b.1 b.2.1 dX0_add_83 rfl (lv_at hl 0 rfl) ?_
  refine lv_dup b.1 b.2.1 dX0_add_84 rfl ?_
  obtain ⟨t1, hf⟩ := oC_s hf
  have t1 := of_decide_eq_true t1
  refine gX0_15 (x := (some x0)) b hE rfl t1 dX0_add_85 ?_
  refine lv_iconst (v := 1) b.1 b.2.1 dX0_add_88 (by decide) ?_
  refine lv_iadd b.1 b.2.1 dX0_add_89 ?_
  obtain ⟨h2, eh2, hf⟩ := oL_s hf
  refine pX0_15 (x := (some x0)) b hE rfl t1 eh2 dX0_add_90 (fun H locs hE => ?_)
  cases hf
  exact k_vret b hlk hr hE (le_c hk) (le_c hs) dX0_add_93
def fX0_add_53  (h : PH) (x0 : Nat) (x1 : Int32) : Option (PH × Nat × Nat) :=
  oC (decide (hT h x0 = 1)) (if (hI h 1 x0) < 0 then (fX0_add_83  h x0) else (oN (hR h 0 x0) (fun a5 => oC (decide (hT h a5 = 100)) (if (nI (hN h a5)) ≤ (hI h 1 x0) then (fX0_add_83  h x0) else (oC (ix (hI h 1 x0) (hN h a5)) (oL (sA h a5 (Int32.toNatClampNeg (hI h 1 x0)) (Int8.toInt32 (Int32.toInt8 (Int8.toInt32 (Int32.toInt8 x1))))) (fun h9 => fX0_add_83  h9 x0)))))))
set_option maxHeartbeats 4000000 in
theorem wfX0_add_53 {mc ms cells slots : Nat} {args : Array Value} (b : Bd p s m c cX0_add 3 RX0 D aC) (hlk : meth.locks = false) (hr : meth.sig.returnType = none) {Z : State → Prop} (zs : Z s) (zk : ZOK Z (Rg ad)) {hz : PH} {h : PH} {x0 : Nat} {x1 : Int32} {kz : Nat} {mz : Nat}  {H : Heap} {locs : List Loc} {ls : Array Slot} (hf : fX0_add_53 h x0 x1 = some (hz, kz, mz)) (hk : cells + kz ≤ mc) (hs : slots + mz ≤ ms) (hE : CE (EX D aC ad h) (Rg ad) s H locs) (hl : lv_has ls 3 [(0, .ref (ad x0)), (1, .int x1)]) : W p l e (RM 2 82 mc ms) s m args below meth c H locs cells slots (MQ below (PQ (EX D aC ad hz) (Rg ad) none) args s mc ms (Rg ad)) (F0 m 53 ls []) := by
  unfold fX0_add_53 at hf
  refine lv_aload_n b.1 b.2.1 dX0_add_53 rfl (lv_at hl 0 rfl) ?_
  obtain ⟨t3, hf⟩ := oC_s hf
  have t3 := of_decide_eq_true t3
  refine gX0_15 (x := (some x0)) b hE rfl t3 dX0_add_54 ?_
  refine lv_if_lt (tgt := 83) b.1 b.2.1 dX0_add_57 (by decide) (fun c4 => ?_) (fun c4 => ?_)
  · have hf := oI_t c4 hf
    exact wfX0_add_83 b hlk hr zs zk  hf hk hs hE (lv_sub hl [0] rfl)
  · have hf := oI_f c4 hf
    refine lv_aload_n b.1 b.2.1 dX0_add_60 rfl (lv_at hl 0 rfl) ?_
    refine gX0_15 (x := (some x0)) b hE rfl t3 dX0_add_61 ?_
    refine lv_aload_n b.1 b.2.1 dX0_add_64 rfl (lv_at hl 0 rfl) ?_
    refine gX0_9 (x := (some x0)) b hE rfl t3 dX0_add_65 ?_
    obtain ⟨a5, ea5, hf⟩ := oN_s hf
    obtain ⟨t6, hf⟩ := oC_s hf
    have t6 := of_decide_eq_true t6
    refine q_alen (x := (hR h 0 x0)) (k := 0) b hE ea5 (by decide) t6 dX0_add_68 ?_
    refine lv_icmp_ge (tgt := 83) b.1 b.2.1 dX0_add_69 (by decide) (fun c7 => ?_) (fun c7 => ?_)
    · have hf := oI_t c7 hf
      exact wfX0_add_83 b hlk hr zs zk  hf hk hs hE (lv_sub hl [0] rfl)
    · have hf := oI_f c7 hf
      refine lv_aload_n b.1 b.2.1 dX0_add_72 rfl (lv_at hl 0 rfl) ?_
      refine gX0_9 (x := (some x0)) b hE rfl t3 dX0_add_73 ?_
      refine lv_aload_n b.1 b.2.1 dX0_add_76 rfl (lv_at hl 0 rfl) ?_
      refine gX0_15 (x := (some x0)) b hE rfl t3 dX0_add_77 ?_
      refine lv_iload_n b.1 b.2.1 dX0_add_80 rfl (lv_at hl 1 rfl) ?_
      refine lv_i2b b.1 b.2.1 dX0_add_81 rfl ?_
      obtain ⟨g8, hf⟩ := oC_s hf
      obtain ⟨h9, eh9, hf⟩ := oL_s hf
      refine q_bast (x := (hR h 0 x0)) b hE ea5 t6 g8 eh9 dX0_add_82 (fun H locs hE => ?_)
      exact wfX0_add_83 b hlk hr zs zk  hf hk hs hE (lv_sub hl [0] rfl)
def fX0_add_0  (h : PH) (x0 : Nat) (x1 : Int32) : Option (PH × Nat × Nat) :=
  oC (decide (hT h x0 = 1)) (oN (hR h 0 x0) (fun a11 => oC (decide (hT h a11 = 100)) (if (hI h 1 x0) < (nI (hN h a11)) then (fX0_add_53  h x0 x1) else (if 4000 ≤ (hI h 1 x0) then (fX0_add_53  h x0 x1) else (oL (if 64 < ((nI (hN h a11)) * 2) then ((nI (hN h a11)) * 2) else 64) (fun y15 => oB4 (fJ7_copyOf_9075b h (hR h 0 x0) (if 4000 < y15 then 4000 else y15)) (fun h18 r17 i19 j20 => oK3 i19 j20 (oC (decide (hT h18 x0 = 1)) (oL (sR h18 0 x0 r17) (fun h24 => fX0_add_53  h24 x0 x1))))))))))
set_option maxHeartbeats 4000000 in
theorem wfX0_add_0 {mc ms cells slots : Nat} {args : Array Value} (b : Bd p s m c cX0_add 3 RX0 D aC) (hlk : meth.locks = false) (hr : meth.sig.returnType = none) {Z : State → Prop} (zs : Z s) (zk : ZOK Z (Rg ad)) {hz : PH} {h : PH} {x0 : Nat} {x1 : Int32} {kz : Nat} {mz : Nat}  {H : Heap} {locs : List Loc} {ls : Array Slot} (hf : fX0_add_0 h x0 x1 = some (hz, kz, mz)) (hk : cells + kz ≤ mc) (hs : slots + mz ≤ ms) (hE : CE (EX D aC ad h) (Rg ad) s H locs) (hl : lv_has ls 3 [(0, .ref (ad x0)), (1, .int x1)]) : W p l e (RM 2 82 mc ms) s m args below meth c H locs cells slots (MQ below (PQ (EX D aC ad hz) (Rg ad) none) args s mc ms (Rg ad)) (F0 m 0 ls []) := by
  unfold fX0_add_0 at hf
  refine lv_aload_n b.1 b.2.1 dX0_add_0 rfl (lv_at hl 0 rfl) ?_
  obtain ⟨t10, hf⟩ := oC_s hf
  have t10 := of_decide_eq_true t10
  refine gX0_15 (x := (some x0)) b hE rfl t10 dX0_add_1 ?_
  refine lv_aload_n b.1 b.2.1 dX0_add_4 rfl (lv_at hl 0 rfl) ?_
  refine gX0_9 (x := (some x0)) b hE rfl t10 dX0_add_5 ?_
  obtain ⟨a11, ea11, hf⟩ := oN_s hf
  obtain ⟨t12, hf⟩ := oC_s hf
  have t12 := of_decide_eq_true t12
  refine q_alen (x := (hR h 0 x0)) (k := 0) b hE ea11 (by decide) t12 dX0_add_8 ?_
  refine lv_icmp_lt (tgt := 53) b.1 b.2.1 dX0_add_9 (by decide) (fun c13 => ?_) (fun c13 => ?_)
  · have hf := oI_t c13 hf
    exact wfX0_add_53 b hlk hr zs zk  hf hk hs hE (lv_sub hl [0, 1] rfl)
  · have hf := oI_f c13 hf
    refine lv_aload_n b.1 b.2.1 dX0_add_12 rfl (lv_at hl 0 rfl) ?_
    refine gX0_15 (x := (some x0)) b hE rfl t10 dX0_add_13 ?_
    refine lv_sipush (v := 4000) b.1 b.2.1 dX0_add_16 (by decide) ?_
    refine lv_icmp_ge (tgt := 53) b.1 b.2.1 dX0_add_19 (by decide) (fun c14 => ?_) (fun c14 => ?_)
    · have hf := oI_t c14 hf
      exact wfX0_add_53 b hlk hr zs zk  hf hk hs hE (lv_sub hl [0, 1] rfl)
    · have hf := oI_f c14 hf
      refine lv_bipush (v := 64) b.1 b.2.1 dX0_add_22 (by decide) ?_
      refine lv_aload_n b.1 b.2.1 dX0_add_24 rfl (lv_at hl 0 rfl) ?_
      refine gX0_9 (x := (some x0)) b hE rfl t10 dX0_add_25 ?_
      refine q_alen (x := (hR h 0 x0)) (k := 0) b hE ea11 (by decide) t12 dX0_add_28 ?_
      refine lv_iconst (v := 2) b.1 b.2.1 dX0_add_29 (by decide) ?_
      refine lv_imul b.1 b.2.1 dX0_add_30 ?_
      refine k_max b (in2 86 rfl rfl) mthmax_s mth_i mthmax_c hl.1 ⟨Nat.le_of_ble_eq_true rfl, Nat.le_of_ble_eq_true rfl⟩ (Nat.le_of_ble_eq_true rfl) ⟨le_c hk, le_c hs⟩ dX0_add_31 ?_
      obtain ⟨y15, ey15, hf⟩ := oL_s hf
      refine k_nmI ey15 ?_
      refine lv_istore_n (lv' := [(2, .int y15), (0, .ref (ad x0)), (1, .int x1)]) b.1 b.2.1 dX0_add_34 rfl hl (by decide) rfl (fun ls hl => ?_)
      refine lv_aload_n b.1 b.2.1 dX0_add_35 rfl (lv_at hl 1 rfl) ?_
      refine lv_aload_n b.1 b.2.1 dX0_add_36 rfl (lv_at hl 1 rfl) ?_
      refine gX0_9 (x := (some x0)) b hE rfl t10 dX0_add_37 ?_
      refine lv_iload_n b.1 b.2.1 dX0_add_40 rfl (lv_at hl 0 rfl) ?_
      refine lv_sipush (v := 4000) b.1 b.2.1 dX0_add_41 (by decide) ?_
      refine k_min b (in2 87 rfl rfl) mthmin_s mth_i mthmin_c hl.1 ⟨Nat.le_of_ble_eq_true rfl, Nat.le_of_ble_eq_true rfl⟩ (Nat.le_of_ble_eq_true rfl) ⟨le_c hk, le_c hs⟩ dX0_add_44 ?_
      obtain ⟨h18, r17, i19, j20, hc16, hf⟩ := oB4_s hf
      obtain ⟨i21, j22, ei21, ej22, hf⟩ := oK3_s hf
      refine k_callS b zs zk hE (CJ7_copyOf_9075b l D aC ad zk hc16) mc_J7_copyOf_9075b (in2 90 rfl rfl) mt_J7_copyOf_9075b ini_RJ7 ok_J7_copyOf_9075b ⟨Nat.le_of_ble_eq_true rfl, Nat.le_of_ble_eq_true rfl⟩ rfl hl.1 rfl (k_room _ (by exact Nat.le_of_ble_eq_true rfl)) ⟨le_room hk ei21, le_room hs ej22⟩ dX0_add_47 (fun H locs hE => ?_)
      have hk := le_step hk ei21
      have hs := le_step hs ej22
      obtain ⟨t23, hf⟩ := oC_s hf
      have t23 := of_decide_eq_true t23
      obtain ⟨h24, eh24, hf⟩ := oL_s hf
      refine pX0_9 (x := (some x0)) (v := r17) b hE rfl t23 eh24 dX0_add_50 (fun H locs hE => ?_)
      exact wfX0_add_53 b hlk hr zs zk  hf hk hs hE (lv_sub hl [1, 2] rfl)
def fX0_add (h : PH) (x0 : Nat) (x1 : Int32) : Option (PH × Nat × Nat) := fX0_add_0 h x0 x1
set_option maxHeartbeats 4000000 in
theorem CX0_add (l : Launch) (D : va_G) (aC : Nat → ClassId) (ad : Nat → Nat) {Z : State → Prop} (zk : ZOK Z (Rg ad)) {h : PH} {x0 : Nat} {x1 : Int32} {hz : PH} {kz : Nat} {mz : Nat} (hf : fX0_add h x0 x1 = some (hz, kz, mz)) : CM l D aC Z yX0_add cX0_add 3 (none) 2 82 kz mz (EX D aC ad h) [.ref (ad x0), .int x1] (EX D aC ad hz) none (Rg ad) := by
  refine CM.of rfl ?_
  intro p e s m below meth c b hr hlk hin2 zs hE
  refine k_ent (Nat.le_of_ble_eq_true rfl) (fun ls hl => ?_)
  exact wfX0_add_0 b hlk hr zs zk hf (by omega) (by omega) hE (lv_sub hl [0, 1] rfl)
theorem dX0_byteAt_0 : decode cX0_byteAt 0 = .ok (.iload_n 1, 1) := by decide +kernel
theorem dX0_byteAt_1 : decode cX0_byteAt 1 = .ok (.ifCond .lt 33, 3) := by decide +kernel
theorem dX0_byteAt_4 : decode cX0_byteAt 4 = .ok (.iload_n 1, 1) := by decide +kernel
theorem dX0_byteAt_5 : decode cX0_byteAt 5 = .ok (.aload_n 0, 1) := by decide +kernel
theorem dX0_byteAt_6 : decode cX0_byteAt 6 = .ok (.getfield 15, 3) := by decide +kernel
theorem dX0_byteAt_9 : decode cX0_byteAt 9 = .ok (.if_icmp .ge 25, 3) := by decide +kernel
theorem dX0_byteAt_12 : decode cX0_byteAt 12 = .ok (.iload_n 1, 1) := by decide +kernel
theorem dX0_byteAt_13 : decode cX0_byteAt 13 = .ok (.aload_n 0, 1) := by decide +kernel
theorem dX0_byteAt_14 : decode cX0_byteAt 14 = .ok (.getfield 9, 3) := by decide +kernel
theorem dX0_byteAt_17 : decode cX0_byteAt 17 = .ok (.arraylength, 1) := by decide +kernel
theorem dX0_byteAt_18 : decode cX0_byteAt 18 = .ok (.if_icmp .ge 16, 3) := by decide +kernel
theorem dX0_byteAt_21 : decode cX0_byteAt 21 = .ok (.aload_n 0, 1) := by decide +kernel
theorem dX0_byteAt_22 : decode cX0_byteAt 22 = .ok (.getfield 9, 3) := by decide +kernel
theorem dX0_byteAt_25 : decode cX0_byteAt 25 = .ok (.iload_n 1, 1) := by decide +kernel
theorem dX0_byteAt_26 : decode cX0_byteAt 26 = .ok (.baload, 1) := by decide +kernel
theorem dX0_byteAt_27 : decode cX0_byteAt 27 = .ok (.sipush 255, 3) := by decide +kernel
theorem dX0_byteAt_30 : decode cX0_byteAt 30 = .ok (.iand, 1) := by decide +kernel
theorem dX0_byteAt_31 : decode cX0_byteAt 31 = .ok (.goto 4, 3) := by decide +kernel
theorem dX0_byteAt_34 : decode cX0_byteAt 34 = .ok (.iconst (-1), 1) := by decide +kernel
theorem dX0_byteAt_35 : decode cX0_byteAt 35 = .ok (.ireturn, 1) := by decide +kernel
def fX0_byteAt_0  (h : PH) (x0 : Nat) (x1 : Int32) : Option (Int32) :=
  if x1 < 0 then (some ((-1))) else (oC (decide (hT h x0 = 1)) (if (hI h 1 x0) ≤ x1 then (some ((-1))) else (oN (hR h 0 x0) (fun a4 => oC (decide (hT h a4 = 100)) (if (nI (hN h a4)) ≤ x1 then (some ((-1))) else (oC (ix x1 (hN h a4)) (some (((hA h a4 (Int32.toNatClampNeg x1)) &&& 255)))))))))
set_option maxHeartbeats 4000000 in
theorem wfX0_byteAt_0 {args : Array Value} (b : Bd p s m c cX0_byteAt 2 RX0 D aC) (hlk : meth.locks = false) (hr : meth.sig.returnType = some .int) {Z : State → Prop} (zs : Z s) (zk : ZOK Z (Rg ad)) {rz : Int32} {h : PH} {x0 : Nat} {x1 : Int32}  {H : Heap} {locs : List Loc} {ls : Array Slot} (hf : fX0_byteAt_0 h x0 x1 = some rz) (hE : CE (EX D aC ad h) (Rg ad) s H locs) (hl : lv_has ls 2 [(0, .ref (ad x0)), (1, .int x1)]) : W p l e (RM 0 0 0 0) s m args below meth c H locs 0 0 (MQ below (PQ (EX D aC ad h) (Rg ad) (some (.int rz))) args s 0 0 (Rg ad)) (F0 m 0 ls []) := by
  unfold fX0_byteAt_0 at hf
  refine lv_iload_n b.1 b.2.1 dX0_byteAt_0 rfl (lv_at hl 1 rfl) ?_
  refine lv_if_lt (tgt := 34) b.1 b.2.1 dX0_byteAt_1 (by decide) (fun c1 => ?_) (fun c1 => ?_)
  · have hf := oI_t c1 hf
    refine lv_iconst (v := (-1)) b.1 b.2.1 dX0_byteAt_34 (by decide) ?_
    cases hf
    exact k_iret b hlk hr hE (Nat.le_refl _) (Nat.le_refl _) dX0_byteAt_35
  · have hf := oI_f c1 hf
    refine lv_iload_n b.1 b.2.1 dX0_byteAt_4 rfl (lv_at hl 1 rfl) ?_
    refine lv_aload_n b.1 b.2.1 dX0_byteAt_5 rfl (lv_at hl 0 rfl) ?_
    obtain ⟨t2, hf⟩ := oC_s hf
    have t2 := of_decide_eq_true t2
    refine gX0_15 (x := (some x0)) b hE rfl t2 dX0_byteAt_6 ?_
    refine lv_icmp_ge (tgt := 34) b.1 b.2.1 dX0_byteAt_9 (by decide) (fun c3 => ?_) (fun c3 => ?_)
    · have hf := oI_t c3 hf
      refine lv_iconst (v := (-1)) b.1 b.2.1 dX0_byteAt_34 (by decide) ?_
      cases hf
      exact k_iret b hlk hr hE (Nat.le_refl _) (Nat.le_refl _) dX0_byteAt_35
    · have hf := oI_f c3 hf
      refine lv_iload_n b.1 b.2.1 dX0_byteAt_12 rfl (lv_at hl 1 rfl) ?_
      refine lv_aload_n b.1 b.2.1 dX0_byteAt_13 rfl (lv_at hl 0 rfl) ?_
      refine gX0_9 (x := (some x0)) b hE rfl t2 dX0_byteAt_14 ?_
      obtain ⟨a4, ea4, hf⟩ := oN_s hf
      obtain ⟨t5, hf⟩ := oC_s hf
      have t5 := of_decide_eq_true t5
      refine q_alen (x := (hR h 0 x0)) (k := 0) b hE ea4 (by decide) t5 dX0_byteAt_17 ?_
      refine lv_icmp_ge (tgt := 34) b.1 b.2.1 dX0_byteAt_18 (by decide) (fun c6 => ?_) (fun c6 => ?_)
      · have hf := oI_t c6 hf
        refine lv_iconst (v := (-1)) b.1 b.2.1 dX0_byteAt_34 (by decide) ?_
        cases hf
        exact k_iret b hlk hr hE (Nat.le_refl _) (Nat.le_refl _) dX0_byteAt_35
      · have hf := oI_f c6 hf
        refine lv_aload_n b.1 b.2.1 dX0_byteAt_21 rfl (lv_at hl 0 rfl) ?_
        refine gX0_9 (x := (some x0)) b hE rfl t2 dX0_byteAt_22 ?_
        refine lv_iload_n b.1 b.2.1 dX0_byteAt_25 rfl (lv_at hl 1 rfl) ?_
        obtain ⟨g7, hf⟩ := oC_s hf
        refine q_bald (x := (hR h 0 x0)) b hE ea4 t5 g7 dX0_byteAt_26 ?_
        refine lv_sipush (v := 255) b.1 b.2.1 dX0_byteAt_27 (by decide) ?_
        refine lv_iand b.1 b.2.1 dX0_byteAt_30 ?_
        refine lv_goto (tgt := 35) b.1 b.2.1 dX0_byteAt_31 (by decide) ?_
        cases hf
        exact k_iret b hlk hr hE (Nat.le_refl _) (Nat.le_refl _) dX0_byteAt_35
def fX0_byteAt (h : PH) (x0 : Nat) (x1 : Int32) : Option (Int32) := fX0_byteAt_0 h x0 x1
set_option maxHeartbeats 4000000 in
theorem CX0_byteAt (l : Launch) (D : va_G) (aC : Nat → ClassId) (ad : Nat → Nat) {Z : State → Prop} (zk : ZOK Z (Rg ad)) {h : PH} {x0 : Nat} {x1 : Int32} {rz : Int32} (hf : fX0_byteAt h x0 x1 = some rz) : CM l D aC Z yX0_byteAt cX0_byteAt 2 (some .int) 0 0 0 0 (EX D aC ad h) [.ref (ad x0), .int x1] (EX D aC ad h) (some (.int rz)) (Rg ad) := by
  refine CM.of rfl ?_
  intro p e s m below meth c b hr hlk hin2 zs hE
  refine k_ent (Nat.le_of_ble_eq_true rfl) (fun ls hl => ?_)
  exact wfX0_byteAt_0 b hlk hr zs zk hf hE (lv_sub hl [0, 1] rfl)
theorem dX0_addWord_0 : decode cX0_addWord 0 = .ok (.aload_n 0, 1) := by decide +kernel
theorem dX0_addWord_1 : decode cX0_addWord 1 = .ok (.iload_n 1, 1) := by decide +kernel
theorem dX0_addWord_2 : decode cX0_addWord 2 = .ok (.bipush 24, 2) := by decide +kernel
theorem dX0_addWord_4 : decode cX0_addWord 4 = .ok (.ishr, 1) := by decide +kernel
theorem dX0_addWord_5 : decode cX0_addWord 5 = .ok (.invokevirtual 34, 3) := by decide +kernel
theorem dX0_addWord_8 : decode cX0_addWord 8 = .ok (.aload_n 0, 1) := by decide +kernel
theorem dX0_addWord_9 : decode cX0_addWord 9 = .ok (.iload_n 1, 1) := by decide +kernel
theorem dX0_addWord_10 : decode cX0_addWord 10 = .ok (.bipush 16, 2) := by decide +kernel
theorem dX0_addWord_12 : decode cX0_addWord 12 = .ok (.ishr, 1) := by decide +kernel
theorem dX0_addWord_13 : decode cX0_addWord 13 = .ok (.invokevirtual 34, 3) := by decide +kernel
theorem dX0_addWord_16 : decode cX0_addWord 16 = .ok (.aload_n 0, 1) := by decide +kernel
theorem dX0_addWord_17 : decode cX0_addWord 17 = .ok (.iload_n 1, 1) := by decide +kernel
theorem dX0_addWord_18 : decode cX0_addWord 18 = .ok (.bipush 8, 2) := by decide +kernel
theorem dX0_addWord_20 : decode cX0_addWord 20 = .ok (.ishr, 1) := by decide +kernel
theorem dX0_addWord_21 : decode cX0_addWord 21 = .ok (.invokevirtual 34, 3) := by decide +kernel
theorem dX0_addWord_24 : decode cX0_addWord 24 = .ok (.aload_n 0, 1) := by decide +kernel
theorem dX0_addWord_25 : decode cX0_addWord 25 = .ok (.iload_n 1, 1) := by decide +kernel
theorem dX0_addWord_26 : decode cX0_addWord 26 = .ok (.invokevirtual 34, 3) := by decide +kernel
theorem dX0_addWord_29 : decode cX0_addWord 29 = .ok (.return_, 1) := by decide +kernel
def fX0_addWord_0  (h : PH) (x0 : Nat) (x1 : Int32) : Option (PH × Nat × Nat) :=
  oC (decide (hT h x0 = 1)) (oB3 (fX0_add h x0 (x1 >>> (24 &&& 31))) (fun h3 i4 j5 => oK3 i4 j5 (oC (decide (hT h3 x0 = 1)) (oB3 (fX0_add h3 x0 (x1 >>> (16 &&& 31))) (fun h10 i11 j12 => oK3 i11 j12 (oC (decide (hT h10 x0 = 1)) (oB3 (fX0_add h10 x0 (x1 >>> (8 &&& 31))) (fun h17 i18 j19 => oK3 i18 j19 (oC (decide (hT h17 x0 = 1)) (oB3 (fX0_add h17 x0 x1) (fun h24 i25 j26 => oK3 i25 j26 (some (h24, 0, 0)))))))))))))
set_option maxHeartbeats 4000000 in
theorem wfX0_addWord_0 {mc ms cells slots : Nat} {args : Array Value} (b : Bd p s m c cX0_addWord 2 RX0 D aC) (hlk : meth.locks = false) (hr : meth.sig.returnType = none) {Z : State → Prop} (zs : Z s) (zk : ZOK Z (Rg ad)) {hz : PH} {h : PH} {x0 : Nat} {x1 : Int32} {kz : Nat} {mz : Nat}  {H : Heap} {locs : List Loc} {ls : Array Slot} (hf : fX0_addWord_0 h x0 x1 = some (hz, kz, mz)) (hk : cells + kz ≤ mc) (hs : slots + mz ≤ ms) (hE : CE (EX D aC ad h) (Rg ad) s H locs) (hl : lv_has ls 2 [(0, .ref (ad x0)), (1, .int x1)]) : W p l e (RM 3 104 mc ms) s m args below meth c H locs cells slots (MQ below (PQ (EX D aC ad hz) (Rg ad) none) args s mc ms (Rg ad)) (F0 m 0 ls []) := by
  unfold fX0_addWord_0 at hf
  refine lv_aload_n b.1 b.2.1 dX0_addWord_0 rfl (lv_at hl 0 rfl) ?_
  refine lv_iload_n b.1 b.2.1 dX0_addWord_1 rfl (lv_at hl 1 rfl) ?_
  refine lv_bipush (v := 24) b.1 b.2.1 dX0_addWord_2 (by decide) ?_
  refine lv_ishr b.1 b.2.1 dX0_addWord_4 ?_
  obtain ⟨t1, hf⟩ := oC_s hf
  have t1 := of_decide_eq_true t1
  obtain ⟨h3, i4, j5, hc2, hf⟩ := oB3_s hf
  obtain ⟨i6, j7, ei6, ej7, hf⟩ := oK3_s hf
  refine k_callV (C := RX0) b zs zk hE (CX0_add l D aC ad zk hc2) mc_X0_add (in2 82 rfl rfl) mi_X0_add ms_X0_add ini_RX0 ok_X0_add (x_recv b hE (ci := 0) rfl (by decide) t1) ⟨Nat.le_of_ble_eq_true rfl, Nat.le_of_ble_eq_true rfl⟩ rfl hl.1 rfl (k_room _ (by exact Nat.le_of_ble_eq_true rfl)) ⟨le_room hk ei6, le_room hs ej7⟩ dX0_addWord_5 (fun H locs hE => ?_)
  have hk := le_step hk ei6
  have hs := le_step hs ej7
  refine lv_aload_n b.1 b.2.1 dX0_addWord_8 rfl (lv_at hl 0 rfl) ?_
  refine lv_iload_n b.1 b.2.1 dX0_addWord_9 rfl (lv_at hl 1 rfl) ?_
  refine lv_bipush (v := 16) b.1 b.2.1 dX0_addWord_10 (by decide) ?_
  refine lv_ishr b.1 b.2.1 dX0_addWord_12 ?_
  obtain ⟨t8, hf⟩ := oC_s hf
  have t8 := of_decide_eq_true t8
  obtain ⟨h10, i11, j12, hc9, hf⟩ := oB3_s hf
  obtain ⟨i13, j14, ei13, ej14, hf⟩ := oK3_s hf
  refine k_callV (C := RX0) b zs zk hE (CX0_add l D aC ad zk hc9) mc_X0_add (in2 82 rfl rfl) mi_X0_add ms_X0_add ini_RX0 ok_X0_add (x_recv b hE (ci := 0) rfl (by decide) t8) ⟨Nat.le_of_ble_eq_true rfl, Nat.le_of_ble_eq_true rfl⟩ rfl hl.1 rfl (k_room _ (by exact Nat.le_of_ble_eq_true rfl)) ⟨le_room hk ei13, le_room hs ej14⟩ dX0_addWord_13 (fun H locs hE => ?_)
  have hk := le_step hk ei13
  have hs := le_step hs ej14
  refine lv_aload_n b.1 b.2.1 dX0_addWord_16 rfl (lv_at hl 0 rfl) ?_
  refine lv_iload_n b.1 b.2.1 dX0_addWord_17 rfl (lv_at hl 1 rfl) ?_
  refine lv_bipush (v := 8) b.1 b.2.1 dX0_addWord_18 (by decide) ?_
  refine lv_ishr b.1 b.2.1 dX0_addWord_20 ?_
  obtain ⟨t15, hf⟩ := oC_s hf
  have t15 := of_decide_eq_true t15
  obtain ⟨h17, i18, j19, hc16, hf⟩ := oB3_s hf
  obtain ⟨i20, j21, ei20, ej21, hf⟩ := oK3_s hf
  refine k_callV (C := RX0) b zs zk hE (CX0_add l D aC ad zk hc16) mc_X0_add (in2 82 rfl rfl) mi_X0_add ms_X0_add ini_RX0 ok_X0_add (x_recv b hE (ci := 0) rfl (by decide) t15) ⟨Nat.le_of_ble_eq_true rfl, Nat.le_of_ble_eq_true rfl⟩ rfl hl.1 rfl (k_room _ (by exact Nat.le_of_ble_eq_true rfl)) ⟨le_room hk ei20, le_room hs ej21⟩ dX0_addWord_21 (fun H locs hE => ?_)
  have hk := le_step hk ei20
  have hs := le_step hs ej21
  refine lv_aload_n b.1 b.2.1 dX0_addWord_24 rfl (lv_at hl 0 rfl) ?_
  refine lv_iload_n b.1 b.2.1 dX0_addWord_25 rfl (lv_at hl 1 rfl) ?_
  obtain ⟨t22, hf⟩ := oC_s hf
  have t22 := of_decide_eq_true t22
  obtain ⟨h24, i25, j26, hc23, hf⟩ := oB3_s hf
  obtain ⟨i27, j28, ei27, ej28, hf⟩ := oK3_s hf
  refine k_callV (C := RX0) b zs zk hE (CX0_add l D aC ad zk hc23) mc_X0_add (in2 82 rfl rfl) mi_X0_add ms_X0_add ini_RX0 ok_X0_add (x_recv b hE (ci := 0) rfl (by decide) t22) ⟨Nat.le_of_ble_eq_true rfl, Nat.le_of_ble_eq_true rfl⟩ rfl hl.1 rfl (k_room _ (by exact Nat.le_of_ble_eq_true rfl)) ⟨le_room hk ei27, le_room hs ej28⟩ dX0_addWord_26 (fun H locs hE => ?_)
  have hk := le_step hk ei27
  have hs := le_step hs ej28
  cases hf
  exact k_vret b hlk hr hE (le_c hk) (le_c hs) dX0_addWord_29
def fX0_addWord (h : PH) (x0 : Nat) (x1 : Int32) : Option (PH × Nat × Nat) := fX0_addWord_0 h x0 x1
set_option maxHeartbeats 4000000 in
theorem CX0_addWord (l : Launch) (D : va_G) (aC : Nat → ClassId) (ad : Nat → Nat) {Z : State → Prop} (zk : ZOK Z (Rg ad)) {h : PH} {x0 : Nat} {x1 : Int32} {hz : PH} {kz : Nat} {mz : Nat} (hf : fX0_addWord h x0 x1 = some (hz, kz, mz)) : CM l D aC Z yX0_addWord cX0_addWord 2 (none) 3 104 kz mz (EX D aC ad h) [.ref (ad x0), .int x1] (EX D aC ad hz) none (Rg ad) := by
  refine CM.of rfl ?_
  intro p e s m below meth c b hr hlk hin2 zs hE
  refine k_ent (Nat.le_of_ble_eq_true rfl) (fun ls hl => ?_)
  exact wfX0_addWord_0 b hlk hr zs zk hf (by omega) (by omega) hE (lv_sub hl [0, 1] rfl)
theorem dX0_addText_0 : decode cX0_addText 0 = .ok (.iconst 0, 1) := by decide +kernel
theorem dX0_addText_1 : decode cX0_addText 1 = .ok (.istore_n 2, 1) := by decide +kernel
theorem dX0_addText_2 : decode cX0_addText 2 = .ok (.iload_n 2, 1) := by decide +kernel
theorem dX0_addText_3 : decode cX0_addText 3 = .ok (.aload_n 1, 1) := by decide +kernel
theorem dX0_addText_4 : decode cX0_addText 4 = .ok (.invokevirtual 38, 3) := by decide +kernel
theorem dX0_addText_7 : decode cX0_addText 7 = .ok (.if_icmp .ge 18, 3) := by decide +kernel
theorem dX0_addText_10 : decode cX0_addText 10 = .ok (.aload_n 0, 1) := by decide +kernel
theorem dX0_addText_11 : decode cX0_addText 11 = .ok (.aload_n 1, 1) := by decide +kernel
theorem dX0_addText_12 : decode cX0_addText 12 = .ok (.iload_n 2, 1) := by decide +kernel
theorem dX0_addText_13 : decode cX0_addText 13 = .ok (.invokevirtual 43, 3) := by decide +kernel
theorem dX0_addText_16 : decode cX0_addText 16 = .ok (.invokevirtual 34, 3) := by decide +kernel
theorem dX0_addText_19 : decode cX0_addText 19 = .ok (.iinc 2 1, 3) := by decide +kernel
theorem dX0_addText_22 : decode cX0_addText 22 = .ok (.goto (-20), 3) := by decide +kernel
theorem dX0_addText_25 : decode cX0_addText 25 = .ok (.return_, 1) := by decide +kernel
def fX0_addText_2F (k2 : PH → Nat → Nat → Int32 → Option (PH × Nat × Nat)) (h : PH) (x0 : Nat) (x1 : Nat) (x2 : Int32) : Option (PH × Nat × Nat) :=
  oB (fJ0_length_8abf5 x1) (fun r2 => if r2 ≤ x2 then (some (h, 0, 0)) else (oB (fJ0_charAt_5068e x1 x2) (fun r5 => oC (decide (hT h x0 = 1)) (oB3 (fX0_add h x0 r5) (fun h8 i9 j10 => oK3 i9 j10 (oL (x2 + 1) (fun y13 => k2 h8 x0 x1 y13)))))))
set_option maxHeartbeats 4000000 in
theorem wfX0_addText_2F {mc ms cells slots : Nat} {args : Array Value} (b : Bd p s m c cX0_addText 3 RX0 D aC) (hlk : meth.locks = false) (hr : meth.sig.returnType = none) {Z : State → Prop} (zs : Z s) (zk : ZOK Z (Rg ad)) {adK adV : Nat → Nat} (hStr : ∀ U : State, Z U → ZS adK adV (Rg ad) U) {hz : PH} {k2 : PH → Nat → Nat → Int32 → Option (PH × Nat × Nat)} (H2 : ∀ (h : PH) (x0 : Nat) (x1 : Nat) (x2 : Int32), ∀ (cells slots kz mz : Nat) (H : Heap) (locs : List Loc) (ls : Array Slot), k2 h x0 x1 x2 = some (hz, kz, mz) → cells + kz ≤ mc → slots + mz ≤ ms → CE (EX D aC ad h) (Rg ad) s H locs → lv_has ls 3 [(0, .ref (ad x0)), (1, .ref (adK x1)), (2, .int x2)] → W p l e (RM 4 104 mc ms) s m args below meth c H locs cells slots (MQ below (PQ (EX D aC ad hz) (Rg ad) none) args s mc ms (Rg ad)) (F0 m 2 ls [])) {h : PH} {x0 : Nat} {x1 : Nat} {x2 : Int32} {kz : Nat} {mz : Nat}  {H : Heap} {locs : List Loc} {ls : Array Slot} (hf : fX0_addText_2F k2 h x0 x1 x2 = some (hz, kz, mz)) (hk : cells + kz ≤ mc) (hs : slots + mz ≤ ms) (hE : CE (EX D aC ad h) (Rg ad) s H locs) (hl : lv_has ls 3 [(0, .ref (ad x0)), (1, .ref (adK x1)), (2, .int x2)]) : W p l e (RM 4 104 mc ms) s m args below meth c H locs cells slots (MQ below (PQ (EX D aC ad hz) (Rg ad) none) args s mc ms (Rg ad)) (F0 m 2 ls []) := by
  unfold fX0_addText_2F at hf
  refine lv_iload_n b.1 b.2.1 dX0_addText_2 rfl (lv_at hl 2 rfl) ?_
  refine lv_aload_n b.1 b.2.1 dX0_addText_3 rfl (lv_at hl 1 rfl) ?_
  obtain ⟨r2, hc1, hf⟩ := oB_s hf
  refine k_callV0 (C := RJ0) b zs zk hE (CJ0_length_8abf5 l D aC zk hStr hc1) mc_J0_length_8abf5 (in5 131 rfl rfl) mi_J0_length_8abf5 ms_J0_length_8abf5 ini_RJ0 ok_J0_length_8abf5 (vk_recv (hStr s zs).1 (sl_lt hc1) hE.2) ⟨Nat.le_of_ble_eq_true rfl, Nat.le_of_ble_eq_true rfl⟩ rfl hl.1 rfl (k_room _ (by exact Nat.le_of_ble_eq_true rfl)) ⟨le_0 hk, le_0 hs⟩ dX0_addText_4 (fun H locs hE => ?_)
  refine lv_icmp_ge (tgt := 25) b.1 b.2.1 dX0_addText_7 (by decide) (fun c3 => ?_) (fun c3 => ?_)
  · have hf := oI_t c3 hf
    cases hf
    exact k_vret b hlk hr hE (le_c hk) (le_c hs) dX0_addText_25
  · have hf := oI_f c3 hf
    refine lv_aload_n b.1 b.2.1 dX0_addText_10 rfl (lv_at hl 0 rfl) ?_
    refine lv_aload_n b.1 b.2.1 dX0_addText_11 rfl (lv_at hl 1 rfl) ?_
    refine lv_iload_n b.1 b.2.1 dX0_addText_12 rfl (lv_at hl 2 rfl) ?_
    obtain ⟨r5, hc4, hf⟩ := oB_s hf
    refine k_callV0 (C := RJ0) b zs zk hE (CJ0_charAt_5068e l D aC zk hStr hc4) mc_J0_charAt_5068e (in5 132 rfl rfl) mi_J0_charAt_5068e ms_J0_charAt_5068e ini_RJ0 ok_J0_charAt_5068e (vk_recv (hStr s zs).1 (sc_lt hc4) hE.2) ⟨Nat.le_of_ble_eq_true rfl, Nat.le_of_ble_eq_true rfl⟩ rfl hl.1 rfl (k_room _ (by exact Nat.le_of_ble_eq_true rfl)) ⟨le_0 hk, le_0 hs⟩ dX0_addText_13 (fun H locs hE => ?_)
    obtain ⟨t6, hf⟩ := oC_s hf
    have t6 := of_decide_eq_true t6
    obtain ⟨h8, i9, j10, hc7, hf⟩ := oB3_s hf
    obtain ⟨i11, j12, ei11, ej12, hf⟩ := oK3_s hf
    refine k_callV (C := RX0) b zs zk hE (CX0_add l D aC ad zk hc7) mc_X0_add (in2 82 rfl rfl) mi_X0_add ms_X0_add ini_RX0 ok_X0_add (x_recv b hE (ci := 0) rfl (by decide) t6) ⟨Nat.le_of_ble_eq_true rfl, Nat.le_of_ble_eq_true rfl⟩ rfl hl.1 rfl (k_room _ (by exact Nat.le_of_ble_eq_true rfl)) ⟨le_room hk ei11, le_room hs ej12⟩ dX0_addText_16 (fun H locs hE => ?_)
    have hk := le_step hk ei11
    have hs := le_step hs ej12
    obtain ⟨y13, ey13, hf⟩ := oL_s hf
    refine lv_iinc (v := y13) (lv' := [(2, .int y13), (0, .ref (ad x0)), (1, .ref (adK x1))]) b.1 b.2.1 dX0_addText_19 hl (k := 2) rfl (by rw [ey13]; rfl) (by decide) rfl (fun ls hl => ?_)
    refine lv_goto (tgt := 2) b.1 b.2.1 dX0_addText_22 (by decide) ?_
    exact H2 h8 x0 x1 y13 _ _ _ _ _ _ _ hf hk hs hE (lv_sub hl [1, 2, 0] rfl)
def fX0_addText_2  : Nat → PH → Nat → Nat → Int32 → Option (PH × Nat × Nat)
  | 0 => fun _ _ _ _ => none
  | n + 1 => fX0_addText_2F  (fX0_addText_2  n)
set_option maxHeartbeats 4000000 in
theorem wfX0_addText_2 {mc ms : Nat} {args : Array Value} (b : Bd p s m c cX0_addText 3 RX0 D aC) (hlk : meth.locks = false) (hr : meth.sig.returnType = none) {Z : State → Prop} (zs : Z s) (zk : ZOK Z (Rg ad)) {adK adV : Nat → Nat} (hStr : ∀ U : State, Z U → ZS adK adV (Rg ad) U) {hz : PH} : ∀ n : Nat, ∀ (h : PH) (x0 : Nat) (x1 : Nat) (x2 : Int32), ∀ (cells slots kz mz : Nat) (H : Heap) (locs : List Loc) (ls : Array Slot), fX0_addText_2  n h x0 x1 x2 = some (hz, kz, mz) → cells + kz ≤ mc → slots + mz ≤ ms → CE (EX D aC ad h) (Rg ad) s H locs → lv_has ls 3 [(0, .ref (ad x0)), (1, .ref (adK x1)), (2, .int x2)] → W p l e (RM 4 104 mc ms) s m args below meth c H locs cells slots (MQ below (PQ (EX D aC ad hz) (Rg ad) none) args s mc ms (Rg ad)) (F0 m 2 ls []) := by
  intro n
  induction n with
  | zero =>
    intro h x0 x1 x2 cells slots kz mz H locs ls hf
    have hf : (none : Option (PH × Nat × Nat)) = some _ := hf
    cases hf
  | succ n ih =>
    intro h x0 x1 x2 cells slots kz mz H locs ls hf hk hs hE hl
    exact wfX0_addText_2F b hlk hr zs zk hStr  ih hf hk hs hE hl
def fX0_addText_0  (h : PH) (x0 : Nat) (x1 : Nat) : Option (PH × Nat × Nat) :=
  fX0_addText_2  FU h x0 x1 0
set_option maxHeartbeats 4000000 in
theorem wfX0_addText_0 {mc ms cells slots : Nat} {args : Array Value} (b : Bd p s m c cX0_addText 3 RX0 D aC) (hlk : meth.locks = false) (hr : meth.sig.returnType = none) {Z : State → Prop} (zs : Z s) (zk : ZOK Z (Rg ad)) {adK adV : Nat → Nat} (hStr : ∀ U : State, Z U → ZS adK adV (Rg ad) U) {hz : PH} {h : PH} {x0 : Nat} {x1 : Nat} {kz : Nat} {mz : Nat}  {H : Heap} {locs : List Loc} {ls : Array Slot} (hf : fX0_addText_0 h x0 x1 = some (hz, kz, mz)) (hk : cells + kz ≤ mc) (hs : slots + mz ≤ ms) (hE : CE (EX D aC ad h) (Rg ad) s H locs) (hl : lv_has ls 3 [(0, .ref (ad x0)), (1, .ref (adK x1))]) : W p l e (RM 4 104 mc ms) s m args below meth c H locs cells slots (MQ below (PQ (EX D aC ad hz) (Rg ad) none) args s mc ms (Rg ad)) (F0 m 0 ls []) := by
  unfold fX0_addText_0 at hf
  refine lv_iconst (v := 0) b.1 b.2.1 dX0_addText_0 (by decide) ?_
  refine lv_istore_n (lv' := [(2, .int 0), (0, .ref (ad x0)), (1, .ref (adK x1))]) b.1 b.2.1 dX0_addText_1 rfl hl (by decide) rfl (fun ls hl => ?_)
  exact wfX0_addText_2 b hlk hr zs zk hStr  FU h x0 x1 0 _ _ _ _ _ _ _ hf hk hs hE (lv_sub hl [1, 2, 0] rfl)
def fX0_addText (h : PH) (x0 : Nat) (x1 : Nat) : Option (PH × Nat × Nat) := fX0_addText_0 h x0 x1
set_option maxHeartbeats 4000000 in
theorem CX0_addText (l : Launch) (D : va_G) (aC : Nat → ClassId) (ad : Nat → Nat) {Z : State → Prop} (zk : ZOK Z (Rg ad)) {adK adV : Nat → Nat} (hStr : ∀ U : State, Z U → ZS adK adV (Rg ad) U) {h : PH} {x0 : Nat} {x1 : Nat} {hz : PH} {kz : Nat} {mz : Nat} (hf : fX0_addText h x0 x1 = some (hz, kz, mz)) : CM l D aC Z yX0_addText cX0_addText 3 (none) 4 104 kz mz (EX D aC ad h) [.ref (ad x0), .ref (adK x1)] (EX D aC ad hz) none (Rg ad) := by
  refine CM.of rfl ?_
  intro p e s m below meth c b hr hlk hin2 zs hE
  refine k_ent (Nat.le_of_ble_eq_true rfl) (fun ls hl => ?_)
  exact wfX0_addText_0 b hlk hr zs zk hStr hf (by omega) (by omega) hE (lv_sub hl [0, 1] rfl)
theorem dX0_addName_0 : decode cX0_addName 0 = .ok (.bipush 54, 2) := by decide +kernel
theorem dX0_addName_2 : decode cX0_addName 2 = .ok (.istore_n 3, 1) := by decide +kernel
theorem dX0_addName_3 : decode cX0_addName 3 = .ok (.iload_n 3, 1) := by decide +kernel
theorem dX0_addName_4 : decode cX0_addName 4 = .ok (.ifCond .lt 58, 3) := by decide +kernel
theorem dX0_addName_7 : decode cX0_addName 7 = .ok (.lload_n 1, 1) := by decide +kernel
theorem dX0_addName_8 : decode cX0_addName 8 = .ok (.iload_n 3, 1) := by decide +kernel
theorem dX0_addName_9 : decode cX0_addName 9 = .ok (.lshr, 1) := by decide +kernel
theorem dX0_addName_10 : decode cX0_addName 10 = .ok (.l2i, 1) := by decide +kernel
theorem dX0_addName_11 : decode cX0_addName 11 = .ok (.bipush 63, 2) := by decide +kernel
theorem dX0_addName_13 : decode cX0_addName 13 = .ok (.iand, 1) := by decide +kernel
theorem dX0_addName_14 : decode cX0_addName 14 = .ok (.istore 4, 2) := by decide +kernel
theorem dX0_addName_16 : decode cX0_addName 16 = .ok (.iload 4, 2) := by decide +kernel
theorem dX0_addName_18 : decode cX0_addName 18 = .ok (.bipush 26, 2) := by decide +kernel
theorem dX0_addName_20 : decode cX0_addName 20 = .ok (.if_icmp .le 20, 3) := by decide +kernel
theorem dX0_addName_23 : decode cX0_addName 23 = .ok (.aload_n 0, 1) := by decide +kernel
theorem dX0_addName_24 : decode cX0_addName 24 = .ok (.bipush 48, 2) := by decide +kernel
theorem dX0_addName_26 : decode cX0_addName 26 = .ok (.iload 4, 2) := by decide +kernel
theorem dX0_addName_28 : decode cX0_addName 28 = .ok (.iadd, 1) := by decide +kernel
theorem dX0_addName_29 : decode cX0_addName 29 = .ok (.bipush 26, 2) := by decide +kernel
theorem dX0_addName_31 : decode cX0_addName 31 = .ok (.isub, 1) := by decide +kernel
theorem dX0_addName_32 : decode cX0_addName 32 = .ok (.iconst 1, 1) := by decide +kernel
theorem dX0_addName_33 : decode cX0_addName 33 = .ok (.isub, 1) := by decide +kernel
theorem dX0_addName_34 : decode cX0_addName 34 = .ok (.invokevirtual 34, 3) := by decide +kernel
theorem dX0_addName_37 : decode cX0_addName 37 = .ok (.goto 19, 3) := by decide +kernel
theorem dX0_addName_40 : decode cX0_addName 40 = .ok (.iload 4, 2) := by decide +kernel
theorem dX0_addName_42 : decode cX0_addName 42 = .ok (.ifCond .le 14, 3) := by decide +kernel
theorem dX0_addName_45 : decode cX0_addName 45 = .ok (.aload_n 0, 1) := by decide +kernel
theorem dX0_addName_46 : decode cX0_addName 46 = .ok (.bipush 97, 2) := by decide +kernel
theorem dX0_addName_48 : decode cX0_addName 48 = .ok (.iload 4, 2) := by decide +kernel
theorem dX0_addName_50 : decode cX0_addName 50 = .ok (.iadd, 1) := by decide +kernel
theorem dX0_addName_51 : decode cX0_addName 51 = .ok (.iconst 1, 1) := by decide +kernel
theorem dX0_addName_52 : decode cX0_addName 52 = .ok (.isub, 1) := by decide +kernel
theorem dX0_addName_53 : decode cX0_addName 53 = .ok (.invokevirtual 34, 3) := by decide +kernel
theorem dX0_addName_56 : decode cX0_addName 56 = .ok (.iinc 3 (-6), 3) := by decide +kernel
theorem dX0_addName_59 : decode cX0_addName 59 = .ok (.goto (-56), 3) := by decide +kernel
theorem dX0_addName_62 : decode cX0_addName 62 = .ok (.return_, 1) := by decide +kernel
def fX0_addName_56 (k3 : PH → Nat → Int64 → Int32 → Option (PH × Nat × Nat)) (h : PH) (x0 : Nat) (x1 : Int64) (x3 : Int32) : Option (PH × Nat × Nat) :=
  oL (x3 + (-6)) (fun y1 => k3 h x0 x1 y1)
set_option maxHeartbeats 4000000 in
theorem wfX0_addName_56 {mc ms cells slots : Nat} {args : Array Value} (b : Bd p s m c cX0_addName 5 RX0 D aC) (hlk : meth.locks = false) (hr : meth.sig.returnType = none) {Z : State → Prop} (zs : Z s) (zk : ZOK Z (Rg ad)) {hz : PH} {k3 : PH → Nat → Int64 → Int32 → Option (PH × Nat × Nat)} (H3 : ∀ (h : PH) (x0 : Nat) (x1 : Int64) (x3 : Int32), ∀ (cells slots kz mz : Nat) (H : Heap) (locs : List Loc) (ls : Array Slot), k3 h x0 x1 x3 = some (hz, kz, mz) → cells + kz ≤ mc → slots + mz ≤ ms → CE (EX D aC ad h) (Rg ad) s H locs → lv_has ls 5 [(0, .ref (ad x0)), (1, .long x1), (3, .int x3)] → W p l e (RM 3 104 mc ms) s m args below meth c H locs cells slots (MQ below (PQ (EX D aC ad hz) (Rg ad) none) args s mc ms (Rg ad)) (F0 m 3 ls [])) {h : PH} {x0 : Nat} {x1 : Int64} {x3 : Int32} {kz : Nat} {mz : Nat}  {H : Heap} {locs : List Loc} {ls : Array Slot} (hf : fX0_addName_56 k3 h x0 x1 x3 = some (hz, kz, mz)) (hk : cells + kz ≤ mc) (hs : slots + mz ≤ ms) (hE : CE (EX D aC ad h) (Rg ad) s H locs) (hl : lv_has ls 5 [(0, .ref (ad x0)), (1, .long x1), (3, .int x3)]) : W p l e (RM 3 104 mc ms) s m args below meth c H locs cells slots (MQ below (PQ (EX D aC ad hz) (Rg ad) none) args s mc ms (Rg ad)) (F0 m 56 ls []) := by
  unfold fX0_addName_56 at hf
  obtain ⟨y1, ey1, hf⟩ := oL_s hf
  refine lv_iinc (v := y1) (lv' := [(3, .int y1), (0, .ref (ad x0)), (1, .long x1)]) b.1 b.2.1 dX0_addName_56 hl (k := 2) rfl (by rw [ey1]; rfl) (by decide) rfl (fun ls hl => ?_)
  refine lv_goto (tgt := 3) b.1 b.2.1 dX0_addName_59 (by decide) ?_
  exact H3 h x0 x1 y1 _ _ _ _ _ _ _ hf hk hs hE (lv_sub hl [1, 2, 0] rfl)
def fX0_addName_3F (k3 : PH → Nat → Int64 → Int32 → Option (PH × Nat × Nat)) (h : PH) (x0 : Nat) (x1 : Int64) (x3 : Int32) : Option (PH × Nat × Nat) :=
  if x3 < 0 then (some (h, 0, 0)) else (oL ((Int64.toInt32 (x1 >>> (x3.toInt64 &&& 63))) &&& 63) (fun y3 => if y3 ≤ 26 then (if y3 ≤ 0 then (fX0_addName_56 k3 h x0 x1 x3) else (oC (decide (hT h x0 = 1)) (oB3 (fX0_add h x0 ((97 + y3) - 1)) (fun h8 i9 j10 => oK3 i9 j10 (fX0_addName_56 k3 h8 x0 x1 x3))))) else (oC (decide (hT h x0 = 1)) (oB3 (fX0_add h x0 (((48 + y3) - 26) - 1)) (fun h15 i16 j17 => oK3 i16 j17 (fX0_addName_56 k3 h15 x0 x1 x3))))))
set_option maxHeartbeats 4000000 in
theorem wfX0_addName_3F {mc ms cells slots : Nat} {args : Array Value} (b : Bd p s m c cX0_addName 5 RX0 D aC) (hlk : meth.locks = false) (hr : meth.sig.returnType = none) {Z : State → Prop} (zs : Z s) (zk : ZOK Z (Rg ad)) {hz : PH} {k3 : PH → Nat → Int64 → Int32 → Option (PH × Nat × Nat)} (H3 : ∀ (h : PH) (x0 : Nat) (x1 : Int64) (x3 : Int32), ∀ (cells slots kz mz : Nat) (H : Heap) (locs : List Loc) (ls : Array Slot), k3 h x0 x1 x3 = some (hz, kz, mz) → cells + kz ≤ mc → slots + mz ≤ ms → CE (EX D aC ad h) (Rg ad) s H locs → lv_has ls 5 [(0, .ref (ad x0)), (1, .long x1), (3, .int x3)] → W p l e (RM 3 104 mc ms) s m args below meth c H locs cells slots (MQ below (PQ (EX D aC ad hz) (Rg ad) none) args s mc ms (Rg ad)) (F0 m 3 ls [])) {h : PH} {x0 : Nat} {x1 : Int64} {x3 : Int32} {kz : Nat} {mz : Nat}  {H : Heap} {locs : List Loc} {ls : Array Slot} (hf : fX0_addName_3F k3 h x0 x1 x3 = some (hz, kz, mz)) (hk : cells + kz ≤ mc) (hs : slots + mz ≤ ms) (hE : CE (EX D aC ad h) (Rg ad) s H locs) (hl : lv_has ls 5 [(0, .ref (ad x0)), (1, .long x1), (3, .int x3)]) : W p l e (RM 3 104 mc ms) s m args below meth c H locs cells slots (MQ below (PQ (EX D aC ad hz) (Rg ad) none) args s mc ms (Rg ad)) (F0 m 3 ls []) := by
  unfold fX0_addName_3F at hf
  refine lv_iload_n b.1 b.2.1 dX0_addName_3 rfl (lv_at hl 2 rfl) ?_
  refine lv_if_lt (tgt := 62) b.1 b.2.1 dX0_addName_4 (by decide) (fun c2 => ?_) (fun c2 => ?_)
  · have hf := oI_t c2 hf
    cases hf
    exact k_vret b hlk hr hE (le_c hk) (le_c hs) dX0_addName_62
  · have hf := oI_f c2 hf
    refine lv_lload_n b.1 b.2.1 dX0_addName_7 rfl (lv_at hl 1 rfl) ?_
    refine lv_iload_n b.1 b.2.1 dX0_addName_8 rfl (lv_at hl 2 rfl) ?_
    refine lv_lshr b.1 b.2.1 dX0_addName_9 rfl ?_
    refine lv_l2i b.1 b.2.1 dX0_addName_10 rfl ?_
    refine lv_bipush (v := 63) b.1 b.2.1 dX0_addName_11 (by decide) ?_
    refine lv_iand b.1 b.2.1 dX0_addName_13 ?_
    obtain ⟨y3, ey3, hf⟩ := oL_s hf
    refine k_nmI ey3 ?_
    refine lv_istore (lv' := [(4, .int y3), (0, .ref (ad x0)), (1, .long x1), (3, .int x3)]) b.1 b.2.1 dX0_addName_14 hl (by decide) rfl (fun ls hl => ?_)
    refine lv_iload b.1 b.2.1 dX0_addName_16 (lv_at hl 0 rfl) ?_
    refine lv_bipush (v := 26) b.1 b.2.1 dX0_addName_18 (by decide) ?_
    refine lv_icmp_le (tgt := 40) b.1 b.2.1 dX0_addName_20 (by decide) (fun c4 => ?_) (fun c4 => ?_)
    · have hf := oI_t c4 hf
      refine lv_iload b.1 b.2.1 dX0_addName_40 (lv_at hl 0 rfl) ?_
      refine lv_if_le (tgt := 56) b.1 b.2.1 dX0_addName_42 (by decide) (fun c5 => ?_) (fun c5 => ?_)
      · have hf := oI_t c5 hf
        exact wfX0_addName_56 b hlk hr zs zk H3 hf hk hs hE (lv_sub hl [1, 2, 3] rfl)
      · have hf := oI_f c5 hf
        refine lv_aload_n b.1 b.2.1 dX0_addName_45 rfl (lv_at hl 1 rfl) ?_
        refine lv_bipush (v := 97) b.1 b.2.1 dX0_addName_46 (by decide) ?_
        refine lv_iload b.1 b.2.1 dX0_addName_48 (lv_at hl 0 rfl) ?_
        refine lv_iadd b.1 b.2.1 dX0_addName_50 ?_
        refine lv_iconst (v := 1) b.1 b.2.1 dX0_addName_51 (by decide) ?_
        refine lv_isub b.1 b.2.1 dX0_addName_52 ?_
        obtain ⟨t6, hf⟩ := oC_s hf
        have t6 := of_decide_eq_true t6
        obtain ⟨h8, i9, j10, hc7, hf⟩ := oB3_s hf
        obtain ⟨i11, j12, ei11, ej12, hf⟩ := oK3_s hf
        refine k_callV (C := RX0) b zs zk hE (CX0_add l D aC ad zk hc7) mc_X0_add (in2 82 rfl rfl) mi_X0_add ms_X0_add ini_RX0 ok_X0_add (x_recv b hE (ci := 0) rfl (by decide) t6) ⟨Nat.le_of_ble_eq_true rfl, Nat.le_of_ble_eq_true rfl⟩ rfl hl.1 rfl (k_room _ (by exact Nat.le_of_ble_eq_true rfl)) ⟨le_room hk ei11, le_room hs ej12⟩ dX0_addName_53 (fun H locs hE => ?_)
        have hk := le_step hk ei11
        have hs := le_step hs ej12
        exact wfX0_addName_56 b hlk hr zs zk H3 hf hk hs hE (lv_sub hl [1, 2, 3] rfl)
    · have hf := oI_f c4 hf
      refine lv_aload_n b.1 b.2.1 dX0_addName_23 rfl (lv_at hl 1 rfl) ?_
      refine lv_bipush (v := 48) b.1 b.2.1 dX0_addName_24 (by decide) ?_
      refine lv_iload b.1 b.2.1 dX0_addName_26 (lv_at hl 0 rfl) ?_
      refine lv_iadd b.1 b.2.1 dX0_addName_28 ?_
      refine lv_bipush (v := 26) b.1 b.2.1 dX0_addName_29 (by decide) ?_
      refine lv_isub b.1 b.2.1 dX0_addName_31 ?_
      refine lv_iconst (v := 1) b.1 b.2.1 dX0_addName_32 (by decide) ?_
      refine lv_isub b.1 b.2.1 dX0_addName_33 ?_
      obtain ⟨t13, hf⟩ := oC_s hf
      have t13 := of_decide_eq_true t13
      obtain ⟨h15, i16, j17, hc14, hf⟩ := oB3_s hf
      obtain ⟨i18, j19, ei18, ej19, hf⟩ := oK3_s hf
      refine k_callV (C := RX0) b zs zk hE (CX0_add l D aC ad zk hc14) mc_X0_add (in2 82 rfl rfl) mi_X0_add ms_X0_add ini_RX0 ok_X0_add (x_recv b hE (ci := 0) rfl (by decide) t13) ⟨Nat.le_of_ble_eq_true rfl, Nat.le_of_ble_eq_true rfl⟩ rfl hl.1 rfl (k_room _ (by exact Nat.le_of_ble_eq_true rfl)) ⟨le_room hk ei18, le_room hs ej19⟩ dX0_addName_34 (fun H locs hE => ?_)
      have hk := le_step hk ei18
      have hs := le_step hs ej19
      refine lv_goto (tgt := 56) b.1 b.2.1 dX0_addName_37 (by decide) ?_
      exact wfX0_addName_56 b hlk hr zs zk H3 hf hk hs hE (lv_sub hl [1, 2, 3] rfl)
def fX0_addName_3  : Nat → PH → Nat → Int64 → Int32 → Option (PH × Nat × Nat)
  | 0 => fun _ _ _ _ => none
  | n + 1 => fX0_addName_3F  (fX0_addName_3  n)
set_option maxHeartbeats 4000000 in
theorem wfX0_addName_3 {mc ms : Nat} {args : Array Value} (b : Bd p s m c cX0_addName 5 RX0 D aC) (hlk : meth.locks = false) (hr : meth.sig.returnType = none) {Z : State → Prop} (zs : Z s) (zk : ZOK Z (Rg ad)) {hz : PH} : ∀ n : Nat, ∀ (h : PH) (x0 : Nat) (x1 : Int64) (x3 : Int32), ∀ (cells slots kz mz : Nat) (H : Heap) (locs : List Loc) (ls : Array Slot), fX0_addName_3  n h x0 x1 x3 = some (hz, kz, mz) → cells + kz ≤ mc → slots + mz ≤ ms → CE (EX D aC ad h) (Rg ad) s H locs → lv_has ls 5 [(0, .ref (ad x0)), (1, .long x1), (3, .int x3)] → W p l e (RM 3 104 mc ms) s m args below meth c H locs cells slots (MQ below (PQ (EX D aC ad hz) (Rg ad) none) args s mc ms (Rg ad)) (F0 m 3 ls []) := by
  intro n
  induction n with
  | zero =>
    intro h x0 x1 x3 cells slots kz mz H locs ls hf
    have hf : (none : Option (PH × Nat × Nat)) = some _ := hf
    cases hf
  | succ n ih =>
    intro h x0 x1 x3 cells slots kz mz H locs ls hf hk hs hE hl
    exact wfX0_addName_3F b hlk hr zs zk  ih hf hk hs hE hl
def fX0_addName_0  (h : PH) (x0 : Nat) (x1 : Int64) : Option (PH × Nat × Nat) :=
  fX0_addName_3  FU h x0 x1 54
set_option maxHeartbeats 4000000 in
theorem wfX0_addName_0 {mc ms cells slots : Nat} {args : Array Value} (b : Bd p s m c cX0_addName 5 RX0 D aC) (hlk : meth.locks = false) (hr : meth.sig.returnType = none) {Z : State → Prop} (zs : Z s) (zk : ZOK Z (Rg ad)) {hz : PH} {h : PH} {x0 : Nat} {x1 : Int64} {kz : Nat} {mz : Nat}  {H : Heap} {locs : List Loc} {ls : Array Slot} (hf : fX0_addName_0 h x0 x1 = some (hz, kz, mz)) (hk : cells + kz ≤ mc) (hs : slots + mz ≤ ms) (hE : CE (EX D aC ad h) (Rg ad) s H locs) (hl : lv_has ls 5 [(0, .ref (ad x0)), (1, .long x1)]) : W p l e (RM 3 104 mc ms) s m args below meth c H locs cells slots (MQ below (PQ (EX D aC ad hz) (Rg ad) none) args s mc ms (Rg ad)) (F0 m 0 ls []) := by
  unfold fX0_addName_0 at hf
  refine lv_bipush (v := 54) b.1 b.2.1 dX0_addName_0 (by decide) ?_
  refine lv_istore_n (lv' := [(3, .int 54), (0, .ref (ad x0)), (1, .long x1)]) b.1 b.2.1 dX0_addName_2 rfl hl (by decide) rfl (fun ls hl => ?_)
  exact wfX0_addName_3 b hlk hr zs zk  FU h x0 x1 54 _ _ _ _ _ _ _ hf hk hs hE (lv_sub hl [1, 2, 0] rfl)
def fX0_addName (h : PH) (x0 : Nat) (x1 : Int64) : Option (PH × Nat × Nat) := fX0_addName_0 h x0 x1
set_option maxHeartbeats 4000000 in
theorem CX0_addName (l : Launch) (D : va_G) (aC : Nat → ClassId) (ad : Nat → Nat) {Z : State → Prop} (zk : ZOK Z (Rg ad)) {h : PH} {x0 : Nat} {x1 : Int64} {hz : PH} {kz : Nat} {mz : Nat} (hf : fX0_addName h x0 x1 = some (hz, kz, mz)) : CM l D aC Z yX0_addName cX0_addName 5 (none) 3 104 kz mz (EX D aC ad h) [.ref (ad x0), .long x1] (EX D aC ad hz) none (Rg ad) := by
  refine CM.of rfl ?_
  intro p e s m below meth c b hr hlk hin2 zs hE
  refine k_ent (Nat.le_of_ble_eq_true rfl) (fun ls hl => ?_)
  exact wfX0_addName_0 b hlk hr zs zk hf (by omega) (by omega) hE (lv_sub hl [0, 1] rfl)
end
