section
variable {p : Program} {l : Launch} {e : Env} {s : State} {m : MethodId} {below : List Frame} {meth : Method} {c : Code} {D : va_G} {aC : Nat → ClassId} {ad : Nat → Nat}
theorem dX5_settleLiterals_0 : decode cX5_settleLiterals 0 = .ok (.iconst 0, 1) := by decide +kernel
theorem dX5_settleLiterals_1 : decode cX5_settleLiterals 1 = .ok (.istore_n 1, 1) := by decide +kernel
theorem dX5_settleLiterals_2 : decode cX5_settleLiterals 2 = .ok (.iconst 0, 1) := by decide +kernel
theorem dX5_settleLiterals_3 : decode cX5_settleLiterals 3 = .ok (.istore_n 2, 1) := by decide +kernel
theorem dX5_settleLiterals_4 : decode cX5_settleLiterals 4 = .ok (.iload_n 2, 1) := by decide +kernel
theorem dX5_settleLiterals_5 : decode cX5_settleLiterals 5 = .ok (.sipush 600, 3) := by decide +kernel
theorem dX5_settleLiterals_8 : decode cX5_settleLiterals 8 = .ok (.if_icmp .ge 51, 3) := by decide +kernel
theorem dX5_settleLiterals_11 : decode cX5_settleLiterals 11 = .ok (.aload_n 0, 1) := by decide +kernel
theorem dX5_settleLiterals_12 : decode cX5_settleLiterals 12 = .ok (.getfield 15, 3) := by decide +kernel
theorem dX5_settleLiterals_15 : decode cX5_settleLiterals 15 = .ok (.iload_n 2, 1) := by decide +kernel
theorem dX5_settleLiterals_16 : decode cX5_settleLiterals 16 = .ok (.baload, 1) := by decide +kernel
theorem dX5_settleLiterals_17 : decode cX5_settleLiterals 17 = .ok (.iconst 2, 1) := by decide +kernel
theorem dX5_settleLiterals_18 : decode cX5_settleLiterals 18 = .ok (.if_icmp .ne 35, 3) := by decide +kernel
theorem dX5_settleLiterals_21 : decode cX5_settleLiterals 21 = .ok (.aload_n 0, 1) := by decide +kernel
theorem dX5_settleLiterals_22 : decode cX5_settleLiterals 22 = .ok (.getfield 15, 3) := by decide +kernel
theorem dX5_settleLiterals_25 : decode cX5_settleLiterals 25 = .ok (.iload_n 2, 1) := by decide +kernel
theorem dX5_settleLiterals_26 : decode cX5_settleLiterals 26 = .ok (.aload_n 0, 1) := by decide +kernel
theorem dX5_settleLiterals_27 : decode cX5_settleLiterals 27 = .ok (.iload_n 2, 1) := by decide +kernel
theorem dX5_settleLiterals_28 : decode cX5_settleLiterals 28 = .ok (.invokevirtual 152, 3) := by decide +kernel
theorem dX5_settleLiterals_31 : decode cX5_settleLiterals 31 = .ok (.i2b, 1) := by decide +kernel
theorem dX5_settleLiterals_32 : decode cX5_settleLiterals 32 = .ok (.bastore, 1) := by decide +kernel
theorem dX5_settleLiterals_33 : decode cX5_settleLiterals 33 = .ok (.iload_n 1, 1) := by decide +kernel
theorem dX5_settleLiterals_34 : decode cX5_settleLiterals 34 = .ok (.ifCond .ne 13, 3) := by decide +kernel
theorem dX5_settleLiterals_37 : decode cX5_settleLiterals 37 = .ok (.aload_n 0, 1) := by decide +kernel
theorem dX5_settleLiterals_38 : decode cX5_settleLiterals 38 = .ok (.getfield 15, 3) := by decide +kernel
theorem dX5_settleLiterals_41 : decode cX5_settleLiterals 41 = .ok (.iload_n 2, 1) := by decide +kernel
theorem dX5_settleLiterals_42 : decode cX5_settleLiterals 42 = .ok (.baload, 1) := by decide +kernel
theorem dX5_settleLiterals_43 : decode cX5_settleLiterals 43 = .ok (.iconst 2, 1) := by decide +kernel
theorem dX5_settleLiterals_44 : decode cX5_settleLiterals 44 = .ok (.if_icmp .eq 7, 3) := by decide +kernel
theorem dX5_settleLiterals_47 : decode cX5_settleLiterals 47 = .ok (.iconst 1, 1) := by decide +kernel
theorem dX5_settleLiterals_48 : decode cX5_settleLiterals 48 = .ok (.goto 4, 3) := by decide +kernel
theorem dX5_settleLiterals_51 : decode cX5_settleLiterals 51 = .ok (.iconst 0, 1) := by decide +kernel
theorem dX5_settleLiterals_52 : decode cX5_settleLiterals 52 = .ok (.istore_n 1, 1) := by decide +kernel
theorem dX5_settleLiterals_53 : decode cX5_settleLiterals 53 = .ok (.iinc 2 1, 3) := by decide +kernel
theorem dX5_settleLiterals_56 : decode cX5_settleLiterals 56 = .ok (.goto (-52), 3) := by decide +kernel
theorem dX5_settleLiterals_59 : decode cX5_settleLiterals 59 = .ok (.iload_n 1, 1) := by decide +kernel
theorem dX5_settleLiterals_60 : decode cX5_settleLiterals 60 = .ok (.ireturn, 1) := by decide +kernel
def fX5_settleLiterals_53 (k4 : PH → Nat → Int32 → Int32 → Option (PH × Int32)) (h : PH) (x0 : Nat) (x1 : Int32) (x2 : Int32) : Option (PH × Int32) :=
  oL (x2 + 1) (fun y1 => k4 h x0 x1 y1)
set_option maxHeartbeats 4000000 in
theorem wfX5_settleLiterals_53 {args : Array Value} (b : Bd p s m c cX5_settleLiterals 3 RX5 D aC) (hlk : meth.locks = false) (hr : meth.sig.returnType = some .boolean) {Z : State → Prop} (zs : Z s) (zk : ZOK Z (Rg ad)) {hz : PH} {rz : Int32} {k4 : PH → Nat → Int32 → Int32 → Option (PH × Int32)} (H4 : ∀ (h : PH) (x0 : Nat) (x1 : Int32) (x2 : Int32), ∀ (H : Heap) (locs : List Loc) (ls : Array Slot), k4 h x0 x1 x2 = some (hz, rz) → CE (EX D aC ad h) (Rg ad) s H locs → lv_has ls 3 [(0, .ref (ad x0)), (1, .int x1), (2, .int x2)] → W p l e (RM 3 66 0 0) s m args below meth c H locs 0 0 (MQ below (PQ (EX D aC ad hz) (Rg ad) (some (.int rz))) args s 0 0 (Rg ad)) (F0 m 4 ls [])) {h : PH} {x0 : Nat} {x1 : Int32} {x2 : Int32}  {H : Heap} {locs : List Loc} {ls : Array Slot} (hf : fX5_settleLiterals_53 k4 h x0 x1 x2 = some (hz, rz)) (hE : CE (EX D aC ad h) (Rg ad) s H locs) (hl : lv_has ls 3 [(0, .ref (ad x0)), (1, .int x1), (2, .int x2)]) : W p l e (RM 3 66 0 0) s m args below meth c H locs 0 0 (MQ below (PQ (EX D aC ad hz) (Rg ad) (some (.int rz))) args s 0 0 (Rg ad)) (F0 m 53 ls []) := by
  unfold fX5_settleLiterals_53 at hf
  obtain ⟨y1, ey1, hf⟩ := oL_s hf
  refine lv_iinc (v := y1) (lv' := [(2, .int y1), (0, .ref (ad x0)), (1, .int x1)]) b.1 b.2.1 dX5_settleLiterals_53 hl (k := 2) rfl (by rw [ey1]; rfl) (by decide) rfl (fun ls hl => ?_)
  refine lv_goto (tgt := 4) b.1 b.2.1 dX5_settleLiterals_56 (by decide) ?_
  exact H4 h x0 x1 y1 _ _ _ hf hE (lv_sub hl [1, 2, 0] rfl)
def fX5_settleLiterals_52 (k4 : PH → Nat → Int32 → Int32 → Option (PH × Int32)) (h : PH) (x0 : Nat) (x2 : Int32) (s0 : Int32) : Option (PH × Int32) :=
  fX5_settleLiterals_53 k4 h x0 s0 x2
set_option maxHeartbeats 4000000 in
theorem wfX5_settleLiterals_52 {args : Array Value} (b : Bd p s m c cX5_settleLiterals 3 RX5 D aC) (hlk : meth.locks = false) (hr : meth.sig.returnType = some .boolean) {Z : State → Prop} (zs : Z s) (zk : ZOK Z (Rg ad)) {hz : PH} {rz : Int32} {k4 : PH → Nat → Int32 → Int32 → Option (PH × Int32)} (H4 : ∀ (h : PH) (x0 : Nat) (x1 : Int32) (x2 : Int32), ∀ (H : Heap) (locs : List Loc) (ls : Array Slot), k4 h x0 x1 x2 = some (hz, rz) → CE (EX D aC ad h) (Rg ad) s H locs → lv_has ls 3 [(0, .ref (ad x0)), (1, .int x1), (2, .int x2)] → W p l e (RM 3 66 0 0) s m args below meth c H locs 0 0 (MQ below (PQ (EX D aC ad hz) (Rg ad) (some (.int rz))) args s 0 0 (Rg ad)) (F0 m 4 ls [])) {h : PH} {x0 : Nat} {x2 : Int32} {s0 : Int32}  {H : Heap} {locs : List Loc} {ls : Array Slot} (hf : fX5_settleLiterals_52 k4 h x0 x2 s0 = some (hz, rz)) (hE : CE (EX D aC ad h) (Rg ad) s H locs) (hl : lv_has ls 3 [(0, .ref (ad x0)), (2, .int x2)]) : W p l e (RM 3 66 0 0) s m args below meth c H locs 0 0 (MQ below (PQ (EX D aC ad hz) (Rg ad) (some (.int rz))) args s 0 0 (Rg ad)) (F0 m 52 ls [.int s0]) := by
  unfold fX5_settleLiterals_52 at hf
  refine lv_istore_n (lv' := [(1, .int s0), (0, .ref (ad x0)), (2, .int x2)]) b.1 b.2.1 dX5_settleLiterals_52 rfl hl (by decide) rfl (fun ls hl => ?_)
  exact wfX5_settleLiterals_53 b hlk hr zs zk H4 hf hE (lv_sub hl [1, 0, 2] rfl)
def fX5_settleLiterals_4F (k4 : PH → Nat → Int32 → Int32 → Option (PH × Int32)) (h : PH) (x0 : Nat) (x1 : Int32) (x2 : Int32) : Option (PH × Int32) :=
  if 600 ≤ x2 then (oC (isB x1) (some (h, x1))) else (oC (decide (hT h x0 = 6)) (oN (hR h 646 x0) (fun a5 => oC (decide (hT h a5 = 100)) (oC (ix x2 (hN h a5)) (if (hA h a5 (Int32.toNatClampNeg x2)) = 2 then (oB (fX5_markOf h x0 x2) (fun r10 => oC (ix x2 (hN h a5)) (oL (sA h a5 (Int32.toNatClampNeg x2) (Int8.toInt32 (Int32.toInt8 (Int8.toInt32 (Int32.toInt8 r10))))) (fun h12 => if x1 = 0 then (oN (hR h12 646 x0) (fun a15 => oC (decide (hT h12 a15 = 100)) (oC (ix x2 (hN h12 a15)) (if (hA h12 a15 (Int32.toNatClampNeg x2)) = 2 then (fX5_settleLiterals_52 k4 h12 x0 x2 0) else (fX5_settleLiterals_52 k4 h12 x0 x2 1))))) else (fX5_settleLiterals_52 k4 h12 x0 x2 1))))) else (fX5_settleLiterals_53 k4 h x0 x1 x2))))))
set_option maxHeartbeats 4000000 in
theorem wfX5_settleLiterals_4F {args : Array Value} (b : Bd p s m c cX5_settleLiterals 3 RX5 D aC) (hlk : meth.locks = false) (hr : meth.sig.returnType = some .boolean) {Z : State → Prop} (zs : Z s) (zk : ZOK Z (Rg ad)) {hz : PH} {rz : Int32} {k4 : PH → Nat → Int32 → Int32 → Option (PH × Int32)} (H4 : ∀ (h : PH) (x0 : Nat) (x1 : Int32) (x2 : Int32), ∀ (H : Heap) (locs : List Loc) (ls : Array Slot), k4 h x0 x1 x2 = some (hz, rz) → CE (EX D aC ad h) (Rg ad) s H locs → lv_has ls 3 [(0, .ref (ad x0)), (1, .int x1), (2, .int x2)] → W p l e (RM 3 66 0 0) s m args below meth c H locs 0 0 (MQ below (PQ (EX D aC ad hz) (Rg ad) (some (.int rz))) args s 0 0 (Rg ad)) (F0 m 4 ls [])) {h : PH} {x0 : Nat} {x1 : Int32} {x2 : Int32}  {H : Heap} {locs : List Loc} {ls : Array Slot} (hf : fX5_settleLiterals_4F k4 h x0 x1 x2 = some (hz, rz)) (hE : CE (EX D aC ad h) (Rg ad) s H locs) (hl : lv_has ls 3 [(0, .ref (ad x0)), (1, .int x1), (2, .int x2)]) : W p l e (RM 3 66 0 0) s m args below meth c H locs 0 0 (MQ below (PQ (EX D aC ad hz) (Rg ad) (some (.int rz))) args s 0 0 (Rg ad)) (F0 m 4 ls []) := by
  unfold fX5_settleLiterals_4F at hf
  refine lv_iload_n b.1 b.2.1 dX5_settleLiterals_4 rfl (lv_at hl 2 rfl) ?_
  refine lv_sipush (v := 600) b.1 b.2.1 dX5_settleLiterals_5 (by decide) ?_
  refine lv_icmp_ge (tgt := 59) b.1 b.2.1 dX5_settleLiterals_8 (by decide) (fun c2 => ?_) (fun c2 => ?_)
  · have hf := oI_t c2 hf
    refine lv_iload_n b.1 b.2.1 dX5_settleLiterals_59 rfl (lv_at hl 1 rfl) ?_
    obtain ⟨g3, hf⟩ := oC_s hf
    cases hf
    exact k_zret b hlk hr g3 hE (Nat.le_refl _) (Nat.le_refl _) dX5_settleLiterals_60
  · have hf := oI_f c2 hf
    refine lv_aload_n b.1 b.2.1 dX5_settleLiterals_11 rfl (lv_at hl 0 rfl) ?_
    obtain ⟨t4, hf⟩ := oC_s hf
    have t4 := of_decide_eq_true t4
    refine gX5_15 (x := (some x0)) b hE rfl t4 dX5_settleLiterals_12 ?_
    refine lv_iload_n b.1 b.2.1 dX5_settleLiterals_15 rfl (lv_at hl 2 rfl) ?_
    obtain ⟨a5, ea5, hf⟩ := oN_s hf
    obtain ⟨t6, hf⟩ := oC_s hf
    have t6 := of_decide_eq_true t6
    obtain ⟨g7, hf⟩ := oC_s hf
    refine q_bald (x := (hR h 646 x0)) b hE ea5 t6 g7 dX5_settleLiterals_16 ?_
    refine lv_iconst (v := 2) b.1 b.2.1 dX5_settleLiterals_17 (by decide) ?_
    refine lv_icmp_ne (tgt := 53) b.1 b.2.1 dX5_settleLiterals_18 (by decide) (fun c8 => ?_) (fun c8 => ?_)
    · have hf := oI_f c8 hf
      exact wfX5_settleLiterals_53 b hlk hr zs zk H4 hf hE (lv_sub hl [0, 1, 2] rfl)
    · have hf := oI_t c8 hf
      refine lv_aload_n b.1 b.2.1 dX5_settleLiterals_21 rfl (lv_at hl 0 rfl) ?_
      refine gX5_15 (x := (some x0)) b hE rfl t4 dX5_settleLiterals_22 ?_
      refine lv_iload_n b.1 b.2.1 dX5_settleLiterals_25 rfl (lv_at hl 2 rfl) ?_
      refine lv_aload_n b.1 b.2.1 dX5_settleLiterals_26 rfl (lv_at hl 0 rfl) ?_
      refine lv_iload_n b.1 b.2.1 dX5_settleLiterals_27 rfl (lv_at hl 2 rfl) ?_
      obtain ⟨r10, hc9, hf⟩ := oB_s hf
      refine k_callV0 (C := RX5) b zs zk hE (CX5_markOf l D aC ad zk hc9) mc_X5_markOf (in5 45 rfl rfl) mi_X5_markOf ms_X5_markOf ini_RX5 ok_X5_markOf (x_recv b hE (ci := 5) rfl (by decide) t4) ⟨Nat.le_of_ble_eq_true rfl, Nat.le_of_ble_eq_true rfl⟩ rfl hl.1 rfl (k_room _ (by exact Nat.le_of_ble_eq_true rfl)) ⟨Nat.le_refl _, Nat.le_refl _⟩ dX5_settleLiterals_28 (fun H locs hE => ?_)
      refine lv_i2b b.1 b.2.1 dX5_settleLiterals_31 rfl ?_
      obtain ⟨g11, hf⟩ := oC_s hf
      obtain ⟨h12, eh12, hf⟩ := oL_s hf
      refine q_bast (x := (hR h 646 x0)) b hE ea5 t6 g11 eh12 dX5_settleLiterals_32 (fun H locs hE => ?_)
      refine lv_iload_n b.1 b.2.1 dX5_settleLiterals_33 rfl (lv_at hl 1 rfl) ?_
      refine lv_if_ne (tgt := 47) b.1 b.2.1 dX5_settleLiterals_34 (by decide) (fun c13 => ?_) (fun c13 => ?_)
      · have hf := oI_f c13 hf
        refine lv_iconst (v := 1) b.1 b.2.1 dX5_settleLiterals_47 (by decide) ?_
        refine lv_goto (tgt := 52) b.1 b.2.1 dX5_settleLiterals_48 (by decide) ?_
        exact wfX5_settleLiterals_52 b hlk hr zs zk H4 hf hE (lv_sub hl [0, 2] rfl)
      · have hf := oI_t c13 hf
        refine lv_aload_n b.1 b.2.1 dX5_settleLiterals_37 rfl (lv_at hl 0 rfl) ?_
        have t14 := tg_sA eh12 t4
        refine gX5_15 (x := (some x0)) b hE rfl t14 dX5_settleLiterals_38 ?_
        refine lv_iload_n b.1 b.2.1 dX5_settleLiterals_41 rfl (lv_at hl 2 rfl) ?_
        obtain ⟨a15, ea15, hf⟩ := oN_s hf
        obtain ⟨t16, hf⟩ := oC_s hf
        have t16 := of_decide_eq_true t16
        obtain ⟨g17, hf⟩ := oC_s hf
        refine q_bald (x := (hR h12 646 x0)) b hE ea15 t16 g17 dX5_settleLiterals_42 ?_
        refine lv_iconst (v := 2) b.1 b.2.1 dX5_settleLiterals_43 (by decide) ?_
        refine lv_icmp_eq (tgt := 51) b.1 b.2.1 dX5_settleLiterals_44 (by decide) (fun c18 => ?_) (fun c18 => ?_)
        · have hf := oI_t c18 hf
          refine lv_iconst (v := 0) b.1 b.2.1 dX5_settleLiterals_51 (by decide) ?_
          exact wfX5_settleLiterals_52 b hlk hr zs zk H4 hf hE (lv_sub hl [0, 2] rfl)
        · have hf := oI_f c18 hf
          refine lv_iconst (v := 1) b.1 b.2.1 dX5_settleLiterals_47 (by decide) ?_
          refine lv_goto (tgt := 52) b.1 b.2.1 dX5_settleLiterals_48 (by decide) ?_
          exact wfX5_settleLiterals_52 b hlk hr zs zk H4 hf hE (lv_sub hl [0, 2] rfl)
def fX5_settleLiterals_4  : Nat → PH → Nat → Int32 → Int32 → Option (PH × Int32)
  | 0 => fun _ _ _ _ => none
  | n + 1 => fX5_settleLiterals_4F  (fX5_settleLiterals_4  n)
set_option maxHeartbeats 4000000 in
theorem wfX5_settleLiterals_4 {args : Array Value} (b : Bd p s m c cX5_settleLiterals 3 RX5 D aC) (hlk : meth.locks = false) (hr : meth.sig.returnType = some .boolean) {Z : State → Prop} (zs : Z s) (zk : ZOK Z (Rg ad)) {hz : PH} {rz : Int32} : ∀ n : Nat, ∀ (h : PH) (x0 : Nat) (x1 : Int32) (x2 : Int32), ∀ (H : Heap) (locs : List Loc) (ls : Array Slot), fX5_settleLiterals_4  n h x0 x1 x2 = some (hz, rz) → CE (EX D aC ad h) (Rg ad) s H locs → lv_has ls 3 [(0, .ref (ad x0)), (1, .int x1), (2, .int x2)] → W p l e (RM 3 66 0 0) s m args below meth c H locs 0 0 (MQ below (PQ (EX D aC ad hz) (Rg ad) (some (.int rz))) args s 0 0 (Rg ad)) (F0 m 4 ls []) := by
  intro n
  induction n with
  | zero =>
    intro h x0 x1 x2 H locs ls hf
    have hf : (none : Option (PH × Int32)) = some _ := hf
    cases hf
  | succ n ih =>
    intro h x0 x1 x2 H locs ls hf hE hl
    exact wfX5_settleLiterals_4F b hlk hr zs zk  ih hf hE hl
def fX5_settleLiterals_0  (h : PH) (x0 : Nat) : Option (PH × Int32) :=
  fX5_settleLiterals_4  FU h x0 0 0
set_option maxHeartbeats 4000000 in
theorem wfX5_settleLiterals_0 {args : Array Value} (b : Bd p s m c cX5_settleLiterals 3 RX5 D aC) (hlk : meth.locks = false) (hr : meth.sig.returnType = some .boolean) {Z : State → Prop} (zs : Z s) (zk : ZOK Z (Rg ad)) {hz : PH} {rz : Int32} {h : PH} {x0 : Nat}  {H : Heap} {locs : List Loc} {ls : Array Slot} (hf : fX5_settleLiterals_0 h x0 = some (hz, rz)) (hE : CE (EX D aC ad h) (Rg ad) s H locs) (hl : lv_has ls 3 [(0, .ref (ad x0))]) : W p l e (RM 3 66 0 0) s m args below meth c H locs 0 0 (MQ below (PQ (EX D aC ad hz) (Rg ad) (some (.int rz))) args s 0 0 (Rg ad)) (F0 m 0 ls []) := by
  unfold fX5_settleLiterals_0 at hf
  refine lv_iconst (v := 0) b.1 b.2.1 dX5_settleLiterals_0 (by decide) ?_
  refine lv_istore_n (lv' := [(1, .int 0), (0, .ref (ad x0))]) b.1 b.2.1 dX5_settleLiterals_1 rfl hl (by decide) rfl (fun ls hl => ?_)
  refine lv_iconst (v := 0) b.1 b.2.1 dX5_settleLiterals_2 (by decide) ?_
  refine lv_istore_n (lv' := [(2, .int 0), (1, .int 0), (0, .ref (ad x0))]) b.1 b.2.1 dX5_settleLiterals_3 rfl hl (by decide) rfl (fun ls hl => ?_)
  exact wfX5_settleLiterals_4 b hlk hr zs zk  FU h x0 0 0 _ _ _ hf hE (lv_sub hl [2, 1, 0] rfl)
def fX5_settleLiterals (h : PH) (x0 : Nat) : Option (PH × Int32) := fX5_settleLiterals_0 h x0
set_option maxHeartbeats 4000000 in
theorem CX5_settleLiterals (l : Launch) (D : va_G) (aC : Nat → ClassId) (ad : Nat → Nat) {Z : State → Prop} (zk : ZOK Z (Rg ad)) {h : PH} {x0 : Nat} {hz : PH} {rz : Int32} (hf : fX5_settleLiterals h x0 = some (hz, rz)) : CM l D aC Z yX5_settleLiterals cX5_settleLiterals 3 (some .boolean) 3 66 0 0 (EX D aC ad h) [.ref (ad x0)] (EX D aC ad hz) (some (.int rz)) (Rg ad) := by
  refine CM.of rfl ?_
  intro p e s m below meth c b hr hlk hin2 zs hE
  refine k_ent (Nat.le_of_ble_eq_true rfl) (fun ls hl => ?_)
  exact wfX5_settleLiterals_0 b hlk hr zs zk hf hE (lv_sub hl [0] rfl)
theorem dX5_giveReason_0 : decode cX5_giveReason 0 = .ok (.iload_n 2, 1) := by decide +kernel
theorem dX5_giveReason_1 : decode cX5_giveReason 1 = .ok (.ifCond .lt 10, 3) := by decide +kernel
theorem dX5_giveReason_4 : decode cX5_giveReason 4 = .ok (.iload_n 2, 1) := by decide +kernel
theorem dX5_giveReason_5 : decode cX5_giveReason 5 = .ok (.sipush 600, 3) := by decide +kernel
theorem dX5_giveReason_8 : decode cX5_giveReason 8 = .ok (.if_icmp .lt 4, 3) := by decide +kernel
theorem dX5_giveReason_11 : decode cX5_giveReason 11 = .ok (.return_, 1) := by decide +kernel
theorem dX5_giveReason_12 : decode cX5_giveReason 12 = .ok (.iload_n 1, 1) := by decide +kernel
theorem dX5_giveReason_13 : decode cX5_giveReason 13 = .ok (.bipush 125, 2) := by decide +kernel
theorem dX5_giveReason_15 : decode cX5_giveReason 15 = .ok (.idiv, 1) := by decide +kernel
theorem dX5_giveReason_16 : decode cX5_giveReason 16 = .ok (.istore_n 3, 1) := by decide +kernel
theorem dX5_giveReason_17 : decode cX5_giveReason 17 = .ok (.iload_n 2, 1) := by decide +kernel
theorem dX5_giveReason_18 : decode cX5_giveReason 18 = .ok (.iconst 1, 1) := by decide +kernel
theorem dX5_giveReason_19 : decode cX5_giveReason 19 = .ok (.ixor, 1) := by decide +kernel
theorem dX5_giveReason_20 : decode cX5_giveReason 20 = .ok (.istore 4, 2) := by decide +kernel
theorem dX5_giveReason_22 : decode cX5_giveReason 22 = .ok (.aload_n 0, 1) := by decide +kernel
theorem dX5_giveReason_23 : decode cX5_giveReason 23 = .ok (.getfield 87, 3) := by decide +kernel
theorem dX5_giveReason_26 : decode cX5_giveReason 26 = .ok (.iload_n 3, 1) := by decide +kernel
theorem dX5_giveReason_27 : decode cX5_giveReason 27 = .ok (.ishr, 1) := by decide +kernel
theorem dX5_giveReason_28 : decode cX5_giveReason 28 = .ok (.iconst 1, 1) := by decide +kernel
theorem dX5_giveReason_29 : decode cX5_giveReason 29 = .ok (.iand, 1) := by decide +kernel
theorem dX5_giveReason_30 : decode cX5_giveReason 30 = .ok (.iconst 1, 1) := by decide +kernel
theorem dX5_giveReason_31 : decode cX5_giveReason 31 = .ok (.if_icmp .ne 7, 3) := by decide +kernel
theorem dX5_giveReason_34 : decode cX5_giveReason 34 = .ok (.iconst 1, 1) := by decide +kernel
theorem dX5_giveReason_35 : decode cX5_giveReason 35 = .ok (.goto 4, 3) := by decide +kernel
theorem dX5_giveReason_38 : decode cX5_giveReason 38 = .ok (.iconst 0, 1) := by decide +kernel
theorem dX5_giveReason_39 : decode cX5_giveReason 39 = .ok (.istore 5, 2) := by decide +kernel
theorem dX5_giveReason_41 : decode cX5_giveReason 41 = .ok (.iload 5, 2) := by decide +kernel
theorem dX5_giveReason_43 : decode cX5_giveReason 43 = .ok (.ifCond .eq 30, 3) := by decide +kernel
theorem dX5_giveReason_46 : decode cX5_giveReason 46 = .ok (.aload_n 0, 1) := by decide +kernel
theorem dX5_giveReason_47 : decode cX5_giveReason 47 = .ok (.getfield 15, 3) := by decide +kernel
theorem dX5_giveReason_50 : decode cX5_giveReason 50 = .ok (.iload_n 2, 1) := by decide +kernel
theorem dX5_giveReason_51 : decode cX5_giveReason 51 = .ok (.baload, 1) := by decide +kernel
theorem dX5_giveReason_52 : decode cX5_giveReason 52 = .ok (.iconst 1, 1) := by decide +kernel
theorem dX5_giveReason_53 : decode cX5_giveReason 53 = .ok (.if_icmp .ne 20, 3) := by decide +kernel
theorem dX5_giveReason_56 : decode cX5_giveReason 56 = .ok (.aload_n 0, 1) := by decide +kernel
theorem dX5_giveReason_57 : decode cX5_giveReason 57 = .ok (.getfield 19, 3) := by decide +kernel
theorem dX5_giveReason_60 : decode cX5_giveReason 60 = .ok (.iload_n 2, 1) := by decide +kernel
theorem dX5_giveReason_61 : decode cX5_giveReason 61 = .ok (.iaload, 1) := by decide +kernel
theorem dX5_giveReason_62 : decode cX5_giveReason 62 = .ok (.iconst (-1), 1) := by decide +kernel
theorem dX5_giveReason_63 : decode cX5_giveReason 63 = .ok (.if_icmp .ne 10, 3) := by decide +kernel
theorem dX5_giveReason_66 : decode cX5_giveReason 66 = .ok (.aload_n 0, 1) := by decide +kernel
theorem dX5_giveReason_67 : decode cX5_giveReason 67 = .ok (.getfield 19, 3) := by decide +kernel
theorem dX5_giveReason_70 : decode cX5_giveReason 70 = .ok (.iload_n 2, 1) := by decide +kernel
theorem dX5_giveReason_71 : decode cX5_giveReason 71 = .ok (.iload_n 1, 1) := by decide +kernel
theorem dX5_giveReason_72 : decode cX5_giveReason 72 = .ok (.iastore, 1) := by decide +kernel
theorem dX5_giveReason_73 : decode cX5_giveReason 73 = .ok (.aload_n 0, 1) := by decide +kernel
theorem dX5_giveReason_74 : decode cX5_giveReason 74 = .ok (.getfield 15, 3) := by decide +kernel
theorem dX5_giveReason_77 : decode cX5_giveReason 77 = .ok (.iload 4, 2) := by decide +kernel
theorem dX5_giveReason_79 : decode cX5_giveReason 79 = .ok (.baload, 1) := by decide +kernel
theorem dX5_giveReason_80 : decode cX5_giveReason 80 = .ok (.ifCond .ne 32, 3) := by decide +kernel
theorem dX5_giveReason_83 : decode cX5_giveReason 83 = .ok (.aload_n 0, 1) := by decide +kernel
theorem dX5_giveReason_84 : decode cX5_giveReason 84 = .ok (.getfield 19, 3) := by decide +kernel
theorem dX5_giveReason_87 : decode cX5_giveReason 87 = .ok (.iload 4, 2) := by decide +kernel
theorem dX5_giveReason_89 : decode cX5_giveReason 89 = .ok (.iaload, 1) := by decide +kernel
theorem dX5_giveReason_90 : decode cX5_giveReason 90 = .ok (.iconst (-1), 1) := by decide +kernel
theorem dX5_giveReason_91 : decode cX5_giveReason 91 = .ok (.if_icmp .ne 21, 3) := by decide +kernel
theorem dX5_giveReason_94 : decode cX5_giveReason 94 = .ok (.aload_n 0, 1) := by decide +kernel
theorem dX5_giveReason_95 : decode cX5_giveReason 95 = .ok (.iload_n 3, 1) := by decide +kernel
theorem dX5_giveReason_96 : decode cX5_giveReason 96 = .ok (.iload 4, 2) := by decide +kernel
theorem dX5_giveReason_98 : decode cX5_giveReason 98 = .ok (.invokevirtual 283, 3) := by decide +kernel
theorem dX5_giveReason_101 : decode cX5_giveReason 101 = .ok (.ifCond .eq 11, 3) := by decide +kernel
theorem dX5_giveReason_104 : decode cX5_giveReason 104 = .ok (.aload_n 0, 1) := by decide +kernel
theorem dX5_giveReason_105 : decode cX5_giveReason 105 = .ok (.getfield 19, 3) := by decide +kernel
theorem dX5_giveReason_108 : decode cX5_giveReason 108 = .ok (.iload 4, 2) := by decide +kernel
theorem dX5_giveReason_110 : decode cX5_giveReason 110 = .ok (.iload_n 1, 1) := by decide +kernel
theorem dX5_giveReason_111 : decode cX5_giveReason 111 = .ok (.iastore, 1) := by decide +kernel
theorem dX5_giveReason_112 : decode cX5_giveReason 112 = .ok (.return_, 1) := by decide +kernel
def fX5_giveReason_73  (h : PH) (x0 : Nat) (x1 : Int32) (x3 : Int32) (x4 : Int32) : Option (PH) :=
  oC (decide (hT h x0 = 6)) (oN (hR h 646 x0) (fun a2 => oC (decide (hT h a2 = 100)) (oC (ix x4 (hN h a2)) (if (hA h a2 (Int32.toNatClampNeg x4)) = 0 then (oN (hR h 647 x0) (fun a6 => oC (decide (hT h a6 = 101)) (oC (ix x4 (hN h a6)) (if (hA h a6 (Int32.toNatClampNeg x4)) = (-1) then (oB (fX5_prevails h x0 x3 x4) (fun r11 => if r11 = 0 then (some (h)) else (oC (ix x4 (hN h a6)) (oL (sA h a6 (Int32.toNatClampNeg x4) x1) (fun h14 => some (h14)))))) else (some (h)))))) else (some (h))))))
set_option maxHeartbeats 4000000 in
theorem wfX5_giveReason_73 {args : Array Value} (b : Bd p s m c cX5_giveReason 6 RX5 D aC) (hlk : meth.locks = false) (hr : meth.sig.returnType = none) {Z : State → Prop} (zs : Z s) (zk : ZOK Z (Rg ad)) {hz : PH} {h : PH} {x0 : Nat} {x1 : Int32} {x3 : Int32} {x4 : Int32}  {H : Heap} {locs : List Loc} {ls : Array Slot} (hf : fX5_giveReason_73 h x0 x1 x3 x4 = some hz) (hE : CE (EX D aC ad h) (Rg ad) s H locs) (hl : lv_has ls 6 [(0, .ref (ad x0)), (1, .int x1), (3, .int x3), (4, .int x4)]) : W p l e (RM 1 22 0 0) s m args below meth c H locs 0 0 (MQ below (PQ (EX D aC ad hz) (Rg ad) none) args s 0 0 (Rg ad)) (F0 m 73 ls []) := by
  unfold fX5_giveReason_73 at hf
  refine lv_aload_n b.1 b.2.1 dX5_giveReason_73 rfl (lv_at hl 0 rfl) ?_
  obtain ⟨t1, hf⟩ := oC_s hf
  have t1 := of_decide_eq_true t1
  refine gX5_15 (x := (some x0)) b hE rfl t1 dX5_giveReason_74 ?_
  refine lv_iload b.1 b.2.1 dX5_giveReason_77 (lv_at hl 3 rfl) ?_
  obtain ⟨a2, ea2, hf⟩ := oN_s hf
  obtain ⟨t3, hf⟩ := oC_s hf
  have t3 := of_decide_eq_true t3
  obtain ⟨g4, hf⟩ := oC_s hf
  refine q_bald (x := (hR h 646 x0)) b hE ea2 t3 g4 dX5_giveReason_79 ?_
  refine lv_if_ne (tgt := 112) b.1 b.2.1 dX5_giveReason_80 (by decide) (fun c5 => ?_) (fun c5 => ?_)
  · have hf := oI_f c5 hf
    cases hf
    exact k_vret b hlk hr hE (Nat.le_refl _) (Nat.le_refl _) dX5_giveReason_112
  · have hf := oI_t c5 hf
    refine lv_aload_n b.1 b.2.1 dX5_giveReason_83 rfl (lv_at hl 0 rfl) ?_
    refine gX5_19 (x := (some x0)) b hE rfl t1 dX5_giveReason_84 ?_
    refine lv_iload b.1 b.2.1 dX5_giveReason_87 (lv_at hl 3 rfl) ?_
    obtain ⟨a6, ea6, hf⟩ := oN_s hf
    obtain ⟨t7, hf⟩ := oC_s hf
    have t7 := of_decide_eq_true t7
    obtain ⟨g8, hf⟩ := oC_s hf
    refine q_iald (x := (hR h 647 x0)) b hE ea6 t7 g8 dX5_giveReason_89 ?_
    refine lv_iconst (v := (-1)) b.1 b.2.1 dX5_giveReason_90 (by decide) ?_
    refine lv_icmp_ne (tgt := 112) b.1 b.2.1 dX5_giveReason_91 (by decide) (fun c9 => ?_) (fun c9 => ?_)
    · have hf := oI_f c9 hf
      cases hf
      exact k_vret b hlk hr hE (Nat.le_refl _) (Nat.le_refl _) dX5_giveReason_112
    · have hf := oI_t c9 hf
      refine lv_aload_n b.1 b.2.1 dX5_giveReason_94 rfl (lv_at hl 0 rfl) ?_
      refine lv_iload_n b.1 b.2.1 dX5_giveReason_95 rfl (lv_at hl 2 rfl) ?_
      refine lv_iload b.1 b.2.1 dX5_giveReason_96 (lv_at hl 3 rfl) ?_
      obtain ⟨r11, hc10, hf⟩ := oB_s hf
      refine k_callV0 (C := RX5) b zs zk hE (CX5_prevails l D aC ad zk hc10) mc_X5_prevails (in5 57 rfl rfl) mi_X5_prevails ms_X5_prevails ini_RX5 ok_X5_prevails (x_recv b hE (ci := 5) rfl (by decide) t1) ⟨Nat.le_of_ble_eq_true rfl, Nat.le_of_ble_eq_true rfl⟩ rfl hl.1 rfl (k_room _ (by exact Nat.le_of_ble_eq_true rfl)) ⟨Nat.le_refl _, Nat.le_refl _⟩ dX5_giveReason_98 (fun H locs hE => ?_)
      refine lv_if_eq (tgt := 112) b.1 b.2.1 dX5_giveReason_101 (by decide) (fun c12 => ?_) (fun c12 => ?_)
      · have hf := oI_t c12 hf
        cases hf
        exact k_vret b hlk hr hE (Nat.le_refl _) (Nat.le_refl _) dX5_giveReason_112
      · have hf := oI_f c12 hf
        refine lv_aload_n b.1 b.2.1 dX5_giveReason_104 rfl (lv_at hl 0 rfl) ?_
        refine gX5_19 (x := (some x0)) b hE rfl t1 dX5_giveReason_105 ?_
        refine lv_iload b.1 b.2.1 dX5_giveReason_108 (lv_at hl 3 rfl) ?_
        refine lv_iload_n b.1 b.2.1 dX5_giveReason_110 rfl (lv_at hl 1 rfl) ?_
        obtain ⟨g13, hf⟩ := oC_s hf
        obtain ⟨h14, eh14, hf⟩ := oL_s hf
        refine q_iast (x := (hR h 647 x0)) b hE ea6 t7 g13 eh14 dX5_giveReason_111 (fun H locs hE => ?_)
        cases hf
        exact k_vret b hlk hr hE (Nat.le_refl _) (Nat.le_refl _) dX5_giveReason_112
def fX5_giveReason_39  (h : PH) (x0 : Nat) (x1 : Int32) (x2 : Int32) (x3 : Int32) (x4 : Int32) (s0 : Int32) : Option (PH) :=
  if s0 = 0 then (fX5_giveReason_73  h x0 x1 x3 x4) else (oC (decide (hT h x0 = 6)) (oN (hR h 646 x0) (fun a17 => oC (decide (hT h a17 = 100)) (oC (ix x2 (hN h a17)) (if (hA h a17 (Int32.toNatClampNeg x2)) = 1 then (oN (hR h 647 x0) (fun a21 => oC (decide (hT h a21 = 101)) (oC (ix x2 (hN h a21)) (if (hA h a21 (Int32.toNatClampNeg x2)) = (-1) then (oC (ix x2 (hN h a21)) (oL (sA h a21 (Int32.toNatClampNeg x2) x1) (fun h26 => fX5_giveReason_73  h26 x0 x1 x3 x4))) else (fX5_giveReason_73  h x0 x1 x3 x4))))) else (fX5_giveReason_73  h x0 x1 x3 x4))))))
set_option maxHeartbeats 4000000 in
theorem wfX5_giveReason_39 {args : Array Value} (b : Bd p s m c cX5_giveReason 6 RX5 D aC) (hlk : meth.locks = false) (hr : meth.sig.returnType = none) {Z : State → Prop} (zs : Z s) (zk : ZOK Z (Rg ad)) {hz : PH} {h : PH} {x0 : Nat} {x1 : Int32} {x2 : Int32} {x3 : Int32} {x4 : Int32} {s0 : Int32}  {H : Heap} {locs : List Loc} {ls : Array Slot} (hf : fX5_giveReason_39 h x0 x1 x2 x3 x4 s0 = some hz) (hE : CE (EX D aC ad h) (Rg ad) s H locs) (hl : lv_has ls 6 [(0, .ref (ad x0)), (1, .int x1), (2, .int x2), (3, .int x3), (4, .int x4)]) : W p l e (RM 1 22 0 0) s m args below meth c H locs 0 0 (MQ below (PQ (EX D aC ad hz) (Rg ad) none) args s 0 0 (Rg ad)) (F0 m 39 ls [.int s0]) := by
  unfold fX5_giveReason_39 at hf
  refine lv_istore (lv' := [(5, .int s0), (0, .ref (ad x0)), (1, .int x1), (2, .int x2), (3, .int x3), (4, .int x4)]) b.1 b.2.1 dX5_giveReason_39 hl (by decide) rfl (fun ls hl => ?_)
  refine lv_iload b.1 b.2.1 dX5_giveReason_41 (lv_at hl 0 rfl) ?_
  refine lv_if_eq (tgt := 73) b.1 b.2.1 dX5_giveReason_43 (by decide) (fun c15 => ?_) (fun c15 => ?_)
  · have hf := oI_t c15 hf
    exact wfX5_giveReason_73 b hlk hr zs zk  hf hE (lv_sub hl [1, 2, 4, 5] rfl)
  · have hf := oI_f c15 hf
    refine lv_aload_n b.1 b.2.1 dX5_giveReason_46 rfl (lv_at hl 1 rfl) ?_
    obtain ⟨t16, hf⟩ := oC_s hf
    have t16 := of_decide_eq_true t16
    refine gX5_15 (x := (some x0)) b hE rfl t16 dX5_giveReason_47 ?_
    refine lv_iload_n b.1 b.2.1 dX5_giveReason_50 rfl (lv_at hl 3 rfl) ?_
    obtain ⟨a17, ea17, hf⟩ := oN_s hf
    obtain ⟨t18, hf⟩ := oC_s hf
    have t18 := of_decide_eq_true t18
    obtain ⟨g19, hf⟩ := oC_s hf
    refine q_bald (x := (hR h 646 x0)) b hE ea17 t18 g19 dX5_giveReason_51 ?_
    refine lv_iconst (v := 1) b.1 b.2.1 dX5_giveReason_52 (by decide) ?_
    refine lv_icmp_ne (tgt := 73) b.1 b.2.1 dX5_giveReason_53 (by decide) (fun c20 => ?_) (fun c20 => ?_)
    · have hf := oI_f c20 hf
      exact wfX5_giveReason_73 b hlk hr zs zk  hf hE (lv_sub hl [1, 2, 4, 5] rfl)
    · have hf := oI_t c20 hf
      refine lv_aload_n b.1 b.2.1 dX5_giveReason_56 rfl (lv_at hl 1 rfl) ?_
      refine gX5_19 (x := (some x0)) b hE rfl t16 dX5_giveReason_57 ?_
      refine lv_iload_n b.1 b.2.1 dX5_giveReason_60 rfl (lv_at hl 3 rfl) ?_
      obtain ⟨a21, ea21, hf⟩ := oN_s hf
      obtain ⟨t22, hf⟩ := oC_s hf
      have t22 := of_decide_eq_true t22
      obtain ⟨g23, hf⟩ := oC_s hf
      refine q_iald (x := (hR h 647 x0)) b hE ea21 t22 g23 dX5_giveReason_61 ?_
      refine lv_iconst (v := (-1)) b.1 b.2.1 dX5_giveReason_62 (by decide) ?_
      refine lv_icmp_ne (tgt := 73) b.1 b.2.1 dX5_giveReason_63 (by decide) (fun c24 => ?_) (fun c24 => ?_)
      · have hf := oI_f c24 hf
        exact wfX5_giveReason_73 b hlk hr zs zk  hf hE (lv_sub hl [1, 2, 4, 5] rfl)
      · have hf := oI_t c24 hf
        refine lv_aload_n b.1 b.2.1 dX5_giveReason_66 rfl (lv_at hl 1 rfl) ?_
        refine gX5_19 (x := (some x0)) b hE rfl t16 dX5_giveReason_67 ?_
        refine lv_iload_n b.1 b.2.1 dX5_giveReason_70 rfl (lv_at hl 3 rfl) ?_
        refine lv_iload_n b.1 b.2.1 dX5_giveReason_71 rfl (lv_at hl 2 rfl) ?_
        obtain ⟨g25, hf⟩ := oC_s hf
        obtain ⟨h26, eh26, hf⟩ := oL_s hf
        refine q_iast (x := (hR h 647 x0)) b hE ea21 t22 g25 eh26 dX5_giveReason_72 (fun H locs hE => ?_)
        exact wfX5_giveReason_73 b hlk hr zs zk  hf hE (lv_sub hl [1, 2, 4, 5] rfl)
def fX5_giveReason_0  (h : PH) (x0 : Nat) (x1 : Int32) (x2 : Int32) : Option (PH) :=
  if x2 < 0 then (some (h)) else (if x2 < 600 then (oL (x1 / 125) (fun y29 => oL (x2 ^^^ 1) (fun y30 => oC (decide (hT h x0 = 6)) (if (((hI h 651 x0) >>> (y29 &&& 31)) &&& 1) = 1 then (fX5_giveReason_39  h x0 x1 x2 y29 y30 1) else (fX5_giveReason_39  h x0 x1 x2 y29 y30 0))))) else (some (h)))
set_option maxHeartbeats 4000000 in
theorem wfX5_giveReason_0 {args : Array Value} (b : Bd p s m c cX5_giveReason 6 RX5 D aC) (hlk : meth.locks = false) (hr : meth.sig.returnType = none) {Z : State → Prop} (zs : Z s) (zk : ZOK Z (Rg ad)) {hz : PH} {h : PH} {x0 : Nat} {x1 : Int32} {x2 : Int32}  {H : Heap} {locs : List Loc} {ls : Array Slot} (hf : fX5_giveReason_0 h x0 x1 x2 = some hz) (hE : CE (EX D aC ad h) (Rg ad) s H locs) (hl : lv_has ls 6 [(0, .ref (ad x0)), (1, .int x1), (2, .int x2)]) : W p l e (RM 1 22 0 0) s m args below meth c H locs 0 0 (MQ below (PQ (EX D aC ad hz) (Rg ad) none) args s 0 0 (Rg ad)) (F0 m 0 ls []) := by
  unfold fX5_giveReason_0 at hf
  refine lv_iload_n b.1 b.2.1 dX5_giveReason_0 rfl (lv_at hl 2 rfl) ?_
  refine lv_if_lt (tgt := 11) b.1 b.2.1 dX5_giveReason_1 (by decide) (fun c27 => ?_) (fun c27 => ?_)
  · have hf := oI_t c27 hf
    cases hf
    exact k_vret b hlk hr hE (Nat.le_refl _) (Nat.le_refl _) dX5_giveReason_11
  · have hf := oI_f c27 hf
    refine lv_iload_n b.1 b.2.1 dX5_giveReason_4 rfl (lv_at hl 2 rfl) ?_
    refine lv_sipush (v := 600) b.1 b.2.1 dX5_giveReason_5 (by decide) ?_
    refine lv_icmp_lt (tgt := 12) b.1 b.2.1 dX5_giveReason_8 (by decide) (fun c28 => ?_) (fun c28 => ?_)
    · have hf := oI_t c28 hf
      refine lv_iload_n b.1 b.2.1 dX5_giveReason_12 rfl (lv_at hl 1 rfl) ?_
      refine lv_bipush (v := 125) b.1 b.2.1 dX5_giveReason_13 (by decide) ?_
      refine lv_idiv b.1 b.2.1 dX5_giveReason_15 (by decide) ?_
      obtain ⟨y29, ey29, hf⟩ := oL_s hf
      refine k_nmI ey29 ?_
      refine lv_istore_n (lv' := [(3, .int y29), (0, .ref (ad x0)), (1, .int x1), (2, .int x2)]) b.1 b.2.1 dX5_giveReason_16 rfl hl (by decide) rfl (fun ls hl => ?_)
      refine lv_iload_n b.1 b.2.1 dX5_giveReason_17 rfl (lv_at hl 3 rfl) ?_
      refine lv_iconst (v := 1) b.1 b.2.1 dX5_giveReason_18 (by decide) ?_
      refine lv_ixor b.1 b.2.1 dX5_giveReason_19 ?_
      obtain ⟨y30, ey30, hf⟩ := oL_s hf
      refine k_nmI ey30 ?_
      refine lv_istore (lv' := [(4, .int y30), (3, .int y29), (0, .ref (ad x0)), (1, .int x1), (2, .int x2)]) b.1 b.2.1 dX5_giveReason_20 hl (by decide) rfl (fun ls hl => ?_)
      refine lv_aload_n b.1 b.2.1 dX5_giveReason_22 rfl (lv_at hl 2 rfl) ?_
      obtain ⟨t31, hf⟩ := oC_s hf
      have t31 := of_decide_eq_true t31
      refine gX5_87 (x := (some x0)) b hE rfl t31 dX5_giveReason_23 ?_
      refine lv_iload_n b.1 b.2.1 dX5_giveReason_26 rfl (lv_at hl 1 rfl) ?_
      refine lv_ishr b.1 b.2.1 dX5_giveReason_27 ?_
      refine lv_iconst (v := 1) b.1 b.2.1 dX5_giveReason_28 (by decide) ?_
      refine lv_iand b.1 b.2.1 dX5_giveReason_29 ?_
      refine lv_iconst (v := 1) b.1 b.2.1 dX5_giveReason_30 (by decide) ?_
      refine lv_icmp_ne (tgt := 38) b.1 b.2.1 dX5_giveReason_31 (by decide) (fun c32 => ?_) (fun c32 => ?_)
      · have hf := oI_f c32 hf
        refine lv_iconst (v := 0) b.1 b.2.1 dX5_giveReason_38 (by decide) ?_
        exact wfX5_giveReason_39 b hlk hr zs zk  hf hE (lv_sub hl [2, 3, 4, 1, 0] rfl)
      · have hf := oI_t c32 hf
        refine lv_iconst (v := 1) b.1 b.2.1 dX5_giveReason_34 (by decide) ?_
        refine lv_goto (tgt := 39) b.1 b.2.1 dX5_giveReason_35 (by decide) ?_
        exact wfX5_giveReason_39 b hlk hr zs zk  hf hE (lv_sub hl [2, 3, 4, 1, 0] rfl)
    · have hf := oI_f c28 hf
      cases hf
      exact k_vret b hlk hr hE (Nat.le_refl _) (Nat.le_refl _) dX5_giveReason_11
def fX5_giveReason (h : PH) (x0 : Nat) (x1 : Int32) (x2 : Int32) : Option (PH) := fX5_giveReason_0 h x0 x1 x2
set_option maxHeartbeats 4000000 in
theorem CX5_giveReason (l : Launch) (D : va_G) (aC : Nat → ClassId) (ad : Nat → Nat) {Z : State → Prop} (zk : ZOK Z (Rg ad)) {h : PH} {x0 : Nat} {x1 : Int32} {x2 : Int32} {hz : PH} (hf : fX5_giveReason h x0 x1 x2 = some hz) : CM l D aC Z yX5_giveReason cX5_giveReason 6 (none) 1 22 0 0 (EX D aC ad h) [.ref (ad x0), .int x1, .int x2] (EX D aC ad hz) none (Rg ad) := by
  refine CM.of rfl ?_
  intro p e s m below meth c b hr hlk hin2 zs hE
  refine k_ent (Nat.le_of_ble_eq_true rfl) (fun ls hl => ?_)
  exact wfX5_giveReason_0 b hlk hr zs zk hf hE (lv_sub hl [0, 1, 2] rfl)
theorem dX5_explain_0 : decode cX5_explain 0 = .ok (.iconst 0, 1) := by decide +kernel
theorem dX5_explain_1 : decode cX5_explain 1 = .ok (.istore_n 1, 1) := by decide +kernel
theorem dX5_explain_2 : decode cX5_explain 2 = .ok (.iload_n 1, 1) := by decide +kernel
theorem dX5_explain_3 : decode cX5_explain 3 = .ok (.aload_n 0, 1) := by decide +kernel
theorem dX5_explain_4 : decode cX5_explain 4 = .ok (.getfield 90, 3) := by decide +kernel
theorem dX5_explain_7 : decode cX5_explain 7 = .ok (.if_icmp .ge 45, 3) := by decide +kernel
theorem dX5_explain_10 : decode cX5_explain 10 = .ok (.aload_n 0, 1) := by decide +kernel
theorem dX5_explain_11 : decode cX5_explain 11 = .ok (.getfield 37, 3) := by decide +kernel
theorem dX5_explain_14 : decode cX5_explain 14 = .ok (.iload_n 1, 1) := by decide +kernel
theorem dX5_explain_15 : decode cX5_explain 15 = .ok (.baload, 1) := by decide +kernel
theorem dX5_explain_16 : decode cX5_explain 16 = .ok (.iconst 1, 1) := by decide +kernel
theorem dX5_explain_17 : decode cX5_explain 17 = .ok (.if_icmp .ne 29, 3) := by decide +kernel
theorem dX5_explain_20 : decode cX5_explain 20 = .ok (.aload_n 0, 1) := by decide +kernel
theorem dX5_explain_21 : decode cX5_explain 21 = .ok (.getfield 40, 3) := by decide +kernel
theorem dX5_explain_24 : decode cX5_explain 24 = .ok (.iconst 3, 1) := by decide +kernel
theorem dX5_explain_25 : decode cX5_explain 25 = .ok (.dup2, 1) := by decide +kernel
theorem dX5_explain_26 : decode cX5_explain 26 = .ok (.iaload, 1) := by decide +kernel
theorem dX5_explain_27 : decode cX5_explain 27 = .ok (.iconst 1, 1) := by decide +kernel
theorem dX5_explain_28 : decode cX5_explain 28 = .ok (.iadd, 1) := by decide +kernel
theorem dX5_explain_29 : decode cX5_explain 29 = .ok (.iastore, 1) := by decide +kernel
theorem dX5_explain_30 : decode cX5_explain 30 = .ok (.aload_n 0, 1) := by decide +kernel
theorem dX5_explain_31 : decode cX5_explain 31 = .ok (.aload_n 0, 1) := by decide +kernel
theorem dX5_explain_32 : decode cX5_explain 32 = .ok (.getfield 31, 3) := by decide +kernel
theorem dX5_explain_35 : decode cX5_explain 35 = .ok (.iload_n 1, 1) := by decide +kernel
theorem dX5_explain_36 : decode cX5_explain 36 = .ok (.iaload, 1) := by decide +kernel
theorem dX5_explain_37 : decode cX5_explain 37 = .ok (.aload_n 0, 1) := by decide +kernel
theorem dX5_explain_38 : decode cX5_explain 38 = .ok (.getfield 34, 3) := by decide +kernel
theorem dX5_explain_41 : decode cX5_explain 41 = .ok (.iload_n 1, 1) := by decide +kernel
theorem dX5_explain_42 : decode cX5_explain 42 = .ok (.iaload, 1) := by decide +kernel
theorem dX5_explain_43 : decode cX5_explain 43 = .ok (.invokevirtual 155, 3) := by decide +kernel
theorem dX5_explain_46 : decode cX5_explain 46 = .ok (.iinc 1 1, 3) := by decide +kernel
theorem dX5_explain_49 : decode cX5_explain 49 = .ok (.goto (-47), 3) := by decide +kernel
theorem dX5_explain_52 : decode cX5_explain 52 = .ok (.iconst 0, 1) := by decide +kernel
theorem dX5_explain_53 : decode cX5_explain 53 = .ok (.istore_n 1, 1) := by decide +kernel
theorem dX5_explain_54 : decode cX5_explain 54 = .ok (.iload_n 1, 1) := by decide +kernel
theorem dX5_explain_55 : decode cX5_explain 55 = .ok (.sipush 600, 3) := by decide +kernel
theorem dX5_explain_58 : decode cX5_explain 58 = .ok (.if_icmp .ge 34, 3) := by decide +kernel
theorem dX5_explain_61 : decode cX5_explain 61 = .ok (.aload_n 0, 1) := by decide +kernel
theorem dX5_explain_62 : decode cX5_explain 62 = .ok (.getfield 15, 3) := by decide +kernel
theorem dX5_explain_65 : decode cX5_explain 65 = .ok (.iload_n 1, 1) := by decide +kernel
theorem dX5_explain_66 : decode cX5_explain 66 = .ok (.baload, 1) := by decide +kernel
theorem dX5_explain_67 : decode cX5_explain 67 = .ok (.iconst (-1), 1) := by decide +kernel
theorem dX5_explain_68 : decode cX5_explain 68 = .ok (.if_icmp .eq 18, 3) := by decide +kernel
theorem dX5_explain_71 : decode cX5_explain 71 = .ok (.aload_n 0, 1) := by decide +kernel
theorem dX5_explain_72 : decode cX5_explain 72 = .ok (.getfield 40, 3) := by decide +kernel
theorem dX5_explain_75 : decode cX5_explain 75 = .ok (.aload_n 0, 1) := by decide +kernel
theorem dX5_explain_76 : decode cX5_explain 76 = .ok (.getfield 15, 3) := by decide +kernel
theorem dX5_explain_79 : decode cX5_explain 79 = .ok (.iload_n 1, 1) := by decide +kernel
theorem dX5_explain_80 : decode cX5_explain 80 = .ok (.baload, 1) := by decide +kernel
theorem dX5_explain_81 : decode cX5_explain 81 = .ok (.dup2, 1) := by decide +kernel
theorem dX5_explain_82 : decode cX5_explain 82 = .ok (.iaload, 1) := by decide +kernel
theorem dX5_explain_83 : decode cX5_explain 83 = .ok (.iconst 1, 1) := by decide +kernel
theorem dX5_explain_84 : decode cX5_explain 84 = .ok (.iadd, 1) := by decide +kernel
theorem dX5_explain_85 : decode cX5_explain 85 = .ok (.iastore, 1) := by decide +kernel
theorem dX5_explain_86 : decode cX5_explain 86 = .ok (.iinc 1 1, 3) := by decide +kernel
theorem dX5_explain_89 : decode cX5_explain 89 = .ok (.goto (-35), 3) := by decide +kernel
theorem dX5_explain_92 : decode cX5_explain 92 = .ok (.return_, 1) := by decide +kernel
def fX5_explain_86 (k54 : PH → Nat → Int32 → Option (PH)) (h : PH) (x0 : Nat) (x1 : Int32) : Option (PH) :=
  oL (x1 + 1) (fun y1 => k54 h x0 y1)
set_option maxHeartbeats 4000000 in
theorem wfX5_explain_86 {args : Array Value} (b : Bd p s m c cX5_explain 2 RX5 D aC) (hlk : meth.locks = false) (hr : meth.sig.returnType = none) {Z : State → Prop} (zs : Z s) (zk : ZOK Z (Rg ad)) {hz : PH} {k54 : PH → Nat → Int32 → Option (PH)} (H54 : ∀ (h : PH) (x0 : Nat) (x1 : Int32), ∀ (H : Heap) (locs : List Loc) (ls : Array Slot), k54 h x0 x1 = some hz → CE (EX D aC ad h) (Rg ad) s H locs → lv_has ls 2 [(0, .ref (ad x0)), (1, .int x1)] → W p l e (RM 2 47 0 0) s m args below meth c H locs 0 0 (MQ below (PQ (EX D aC ad hz) (Rg ad) none) args s 0 0 (Rg ad)) (F0 m 54 ls [])) {h : PH} {x0 : Nat} {x1 : Int32}  {H : Heap} {locs : List Loc} {ls : Array Slot} (hf : fX5_explain_86 k54 h x0 x1 = some hz) (hE : CE (EX D aC ad h) (Rg ad) s H locs) (hl : lv_has ls 2 [(0, .ref (ad x0)), (1, .int x1)]) : W p l e (RM 2 47 0 0) s m args below meth c H locs 0 0 (MQ below (PQ (EX D aC ad hz) (Rg ad) none) args s 0 0 (Rg ad)) (F0 m 86 ls []) := by
  unfold fX5_explain_86 at hf
  obtain ⟨y1, ey1, hf⟩ := oL_s hf
  refine lv_iinc (v := y1) (lv' := [(1, .int y1), (0, .ref (ad x0))]) b.1 b.2.1 dX5_explain_86 hl (k := 1) rfl (by rw [ey1]; rfl) (by decide) rfl (fun ls hl => ?_)
  refine lv_goto (tgt := 54) b.1 b.2.1 dX5_explain_89 (by decide) ?_
  exact H54 h x0 y1 _ _ _ hf hE (lv_sub hl [1, 0] rfl)
def fX5_explain_54F (k54 : PH → Nat → Int32 → Option (PH)) (h : PH) (x0 : Nat) (x1 : Int32) : Option (PH) :=
  if 600 ≤ x1 then (some (h)) else (oC (decide (hT h x0 = 6)) (oN (hR h 646 x0) (fun a4 => oC (decide (hT h a4 = 100)) (oC (ix x1 (hN h a4)) (if (hA h a4 (Int32.toNatClampNeg x1)) = (-1) then (fX5_explain_86 k54 h x0 x1) else (oC (ix x1 (hN h a4)) (oN (hR h 656 x0) (fun a9 => oC (decide (hT h a9 = 101)) (oC (ix (hA h a4 (Int32.toNatClampNeg x1)) (hN h a9)) (oC (ix (hA h a4 (Int32.toNatClampNeg x1)) (hN h a9)) (oL (sA h a9 (Int32.toNatClampNeg (hA h a4 (Int32.toNatClampNeg x1))) ((hA h a9 (Int32.toNatClampNeg (hA h a4 (Int32.toNatClampNeg x1)))) + 1)) (fun h13 => fX5_explain_86 k54 h13 x0 x1))))))))))))
set_option maxHeartbeats 4000000 in
theorem wfX5_explain_54F {args : Array Value} (b : Bd p s m c cX5_explain 2 RX5 D aC) (hlk : meth.locks = false) (hr : meth.sig.returnType = none) {Z : State → Prop} (zs : Z s) (zk : ZOK Z (Rg ad)) {hz : PH} {k54 : PH → Nat → Int32 → Option (PH)} (H54 : ∀ (h : PH) (x0 : Nat) (x1 : Int32), ∀ (H : Heap) (locs : List Loc) (ls : Array Slot), k54 h x0 x1 = some hz → CE (EX D aC ad h) (Rg ad) s H locs → lv_has ls 2 [(0, .ref (ad x0)), (1, .int x1)] → W p l e (RM 2 47 0 0) s m args below meth c H locs 0 0 (MQ below (PQ (EX D aC ad hz) (Rg ad) none) args s 0 0 (Rg ad)) (F0 m 54 ls [])) {h : PH} {x0 : Nat} {x1 : Int32}  {H : Heap} {locs : List Loc} {ls : Array Slot} (hf : fX5_explain_54F k54 h x0 x1 = some hz) (hE : CE (EX D aC ad h) (Rg ad) s H locs) (hl : lv_has ls 2 [(0, .ref (ad x0)), (1, .int x1)]) : W p l e (RM 2 47 0 0) s m args below meth c H locs 0 0 (MQ below (PQ (EX D aC ad hz) (Rg ad) none) args s 0 0 (Rg ad)) (F0 m 54 ls []) := by
  unfold fX5_explain_54F at hf
  refine lv_iload_n b.1 b.2.1 dX5_explain_54 rfl (lv_at hl 1 rfl) ?_
  refine lv_sipush (v := 600) b.1 b.2.1 dX5_explain_55 (by decide) ?_
  refine lv_icmp_ge (tgt := 92) b.1 b.2.1 dX5_explain_58 (by decide) (fun c2 => ?_) (fun c2 => ?_)
  · have hf := oI_t c2 hf
    cases hf
    exact k_vret b hlk hr hE (Nat.le_refl _) (Nat.le_refl _) dX5_explain_92
  · have hf := oI_f c2 hf
    refine lv_aload_n b.1 b.2.1 dX5_explain_61 rfl (lv_at hl 0 rfl) ?_
    obtain ⟨t3, hf⟩ := oC_s hf
    have t3 := of_decide_eq_true t3
    refine gX5_15 (x := (some x0)) b hE rfl t3 dX5_explain_62 ?_
    refine lv_iload_n b.1 b.2.1 dX5_explain_65 rfl (lv_at hl 1 rfl) ?_
    obtain ⟨a4, ea4, hf⟩ := oN_s hf
    obtain ⟨t5, hf⟩ := oC_s hf
    have t5 := of_decide_eq_true t5
    obtain ⟨g6, hf⟩ := oC_s hf
    refine q_bald (x := (hR h 646 x0)) b hE ea4 t5 g6 dX5_explain_66 ?_
    refine lv_iconst (v := (-1)) b.1 b.2.1 dX5_explain_67 (by decide) ?_
    refine lv_icmp_eq (tgt := 86) b.1 b.2.1 dX5_explain_68 (by decide) (fun c7 => ?_) (fun c7 => ?_)
    · have hf := oI_t c7 hf
      exact wfX5_explain_86 b hlk hr zs zk H54 hf hE (lv_sub hl [0, 1] rfl)
    · have hf := oI_f c7 hf
      refine lv_aload_n b.1 b.2.1 dX5_explain_71 rfl (lv_at hl 0 rfl) ?_
      refine gX5_40 (x := (some x0)) b hE rfl t3 dX5_explain_72 ?_
      refine lv_aload_n b.1 b.2.1 dX5_explain_75 rfl (lv_at hl 0 rfl) ?_
      refine gX5_15 (x := (some x0)) b hE rfl t3 dX5_explain_76 ?_
      refine lv_iload_n b.1 b.2.1 dX5_explain_79 rfl (lv_at hl 1 rfl) ?_
      obtain ⟨g8, hf⟩ := oC_s hf
      refine q_bald (x := (hR h 646 x0)) b hE ea4 t5 g8 dX5_explain_80 ?_
      refine lv_dup2_11 b.1 b.2.1 dX5_explain_81 rfl (rf_cat _) ?_
      obtain ⟨a9, ea9, hf⟩ := oN_s hf
      obtain ⟨t10, hf⟩ := oC_s hf
      have t10 := of_decide_eq_true t10
      obtain ⟨g11, hf⟩ := oC_s hf
      refine q_iald (x := (hR h 656 x0)) b hE ea9 t10 g11 dX5_explain_82 ?_
      refine lv_iconst (v := 1) b.1 b.2.1 dX5_explain_83 (by decide) ?_
      refine lv_iadd b.1 b.2.1 dX5_explain_84 ?_
      obtain ⟨g12, hf⟩ := oC_s hf
      obtain ⟨h13, eh13, hf⟩ := oL_s hf
      refine q_iast (x := (hR h 656 x0)) b hE ea9 t10 g12 eh13 dX5_explain_85 (fun H locs hE => ?_)
      exact wfX5_explain_86 b hlk hr zs zk H54 hf hE (lv_sub hl [0, 1] rfl)
def fX5_explain_54  : Nat → PH → Nat → Int32 → Option (PH)
  | 0 => fun _ _ _ => none
  | n + 1 => fX5_explain_54F  (fX5_explain_54  n)
set_option maxHeartbeats 4000000 in
theorem wfX5_explain_54 {args : Array Value} (b : Bd p s m c cX5_explain 2 RX5 D aC) (hlk : meth.locks = false) (hr : meth.sig.returnType = none) {Z : State → Prop} (zs : Z s) (zk : ZOK Z (Rg ad)) {hz : PH} : ∀ n : Nat, ∀ (h : PH) (x0 : Nat) (x1 : Int32), ∀ (H : Heap) (locs : List Loc) (ls : Array Slot), fX5_explain_54  n h x0 x1 = some hz → CE (EX D aC ad h) (Rg ad) s H locs → lv_has ls 2 [(0, .ref (ad x0)), (1, .int x1)] → W p l e (RM 2 47 0 0) s m args below meth c H locs 0 0 (MQ below (PQ (EX D aC ad hz) (Rg ad) none) args s 0 0 (Rg ad)) (F0 m 54 ls []) := by
  intro n
  induction n with
  | zero =>
    intro h x0 x1 H locs ls hf
    have hf : (none : Option (PH)) = some _ := hf
    cases hf
  | succ n ih =>
    intro h x0 x1 H locs ls hf hE hl
    exact wfX5_explain_54F b hlk hr zs zk  ih hf hE hl
def fX5_explain_46 (k2 : PH → Nat → Int32 → Option (PH)) (h : PH) (x0 : Nat) (x1 : Int32) : Option (PH) :=
  oL (x1 + 1) (fun y14 => k2 h x0 y14)
set_option maxHeartbeats 4000000 in
theorem wfX5_explain_46 {args : Array Value} (b : Bd p s m c cX5_explain 2 RX5 D aC) (hlk : meth.locks = false) (hr : meth.sig.returnType = none) {Z : State → Prop} (zs : Z s) (zk : ZOK Z (Rg ad)) {hz : PH} {k2 : PH → Nat → Int32 → Option (PH)} (H2 : ∀ (h : PH) (x0 : Nat) (x1 : Int32), ∀ (H : Heap) (locs : List Loc) (ls : Array Slot), k2 h x0 x1 = some hz → CE (EX D aC ad h) (Rg ad) s H locs → lv_has ls 2 [(0, .ref (ad x0)), (1, .int x1)] → W p l e (RM 2 47 0 0) s m args below meth c H locs 0 0 (MQ below (PQ (EX D aC ad hz) (Rg ad) none) args s 0 0 (Rg ad)) (F0 m 2 ls [])) {h : PH} {x0 : Nat} {x1 : Int32}  {H : Heap} {locs : List Loc} {ls : Array Slot} (hf : fX5_explain_46 k2 h x0 x1 = some hz) (hE : CE (EX D aC ad h) (Rg ad) s H locs) (hl : lv_has ls 2 [(0, .ref (ad x0)), (1, .int x1)]) : W p l e (RM 2 47 0 0) s m args below meth c H locs 0 0 (MQ below (PQ (EX D aC ad hz) (Rg ad) none) args s 0 0 (Rg ad)) (F0 m 46 ls []) := by
  unfold fX5_explain_46 at hf
  obtain ⟨y14, ey14, hf⟩ := oL_s hf
  refine lv_iinc (v := y14) (lv' := [(1, .int y14), (0, .ref (ad x0))]) b.1 b.2.1 dX5_explain_46 hl (k := 1) rfl (by rw [ey14]; rfl) (by decide) rfl (fun ls hl => ?_)
  refine lv_goto (tgt := 2) b.1 b.2.1 dX5_explain_49 (by decide) ?_
  exact H2 h x0 y14 _ _ _ hf hE (lv_sub hl [1, 0] rfl)
def fX5_explain_2F (k2 : PH → Nat → Int32 → Option (PH)) (h : PH) (x0 : Nat) (x1 : Int32) : Option (PH) :=
  oC (decide (hT h x0 = 6)) (if (hI h 655 x0) ≤ x1 then (fX5_explain_54  FU h x0 0) else (oN (hR h 654 x0) (fun a17 => oC (decide (hT h a17 = 100)) (oC (ix x1 (hN h a17)) (if (hA h a17 (Int32.toNatClampNeg x1)) = 1 then (oN (hR h 656 x0) (fun a21 => oC (decide (hT h a21 = 101)) (oC (ix 3 (hN h a21)) (oC (ix 3 (hN h a21)) (oL (sA h a21 (Int32.toNatClampNeg 3) ((hA h a21 (Int32.toNatClampNeg 3)) + 1)) (fun h25 => oN (hR h25 652 x0) (fun a27 => oC (decide (hT h25 a27 = 101)) (oC (ix x1 (hN h25 a27)) (oN (hR h25 653 x0) (fun a30 => oC (decide (hT h25 a30 = 101)) (oC (ix x1 (hN h25 a30)) (oB (fX5_giveReason h25 x0 (hA h25 a27 (Int32.toNatClampNeg x1)) (hA h25 a30 (Int32.toNatClampNeg x1))) (fun h34 => fX5_explain_46 k2 h34 x0 x1))))))))))))) else (fX5_explain_46 k2 h x0 x1))))))
set_option maxHeartbeats 4000000 in
theorem wfX5_explain_2F {args : Array Value} (b : Bd p s m c cX5_explain 2 RX5 D aC) (hlk : meth.locks = false) (hr : meth.sig.returnType = none) {Z : State → Prop} (zs : Z s) (zk : ZOK Z (Rg ad)) {hz : PH} {k2 : PH → Nat → Int32 → Option (PH)} (H2 : ∀ (h : PH) (x0 : Nat) (x1 : Int32), ∀ (H : Heap) (locs : List Loc) (ls : Array Slot), k2 h x0 x1 = some hz → CE (EX D aC ad h) (Rg ad) s H locs → lv_has ls 2 [(0, .ref (ad x0)), (1, .int x1)] → W p l e (RM 2 47 0 0) s m args below meth c H locs 0 0 (MQ below (PQ (EX D aC ad hz) (Rg ad) none) args s 0 0 (Rg ad)) (F0 m 2 ls [])) {h : PH} {x0 : Nat} {x1 : Int32}  {H : Heap} {locs : List Loc} {ls : Array Slot} (hf : fX5_explain_2F k2 h x0 x1 = some hz) (hE : CE (EX D aC ad h) (Rg ad) s H locs) (hl : lv_has ls 2 [(0, .ref (ad x0)), (1, .int x1)]) : W p l e (RM 2 47 0 0) s m args below meth c H locs 0 0 (MQ below (PQ (EX D aC ad hz) (Rg ad) none) args s 0 0 (Rg ad)) (F0 m 2 ls []) := by
  unfold fX5_explain_2F at hf
  refine lv_iload_n b.1 b.2.1 dX5_explain_2 rfl (lv_at hl 1 rfl) ?_
  refine lv_aload_n b.1 b.2.1 dX5_explain_3 rfl (lv_at hl 0 rfl) ?_
  obtain ⟨t15, hf⟩ := oC_s hf
  have t15 := of_decide_eq_true t15
  refine gX5_90 (x := (some x0)) b hE rfl t15 dX5_explain_4 ?_
  refine lv_icmp_ge (tgt := 52) b.1 b.2.1 dX5_explain_7 (by decide) (fun c16 => ?_) (fun c16 => ?_)
  · have hf := oI_t c16 hf
    refine lv_iconst (v := 0) b.1 b.2.1 dX5_explain_52 (by decide) ?_
    refine lv_istore_n (lv' := [(1, .int 0), (0, .ref (ad x0))]) b.1 b.2.1 dX5_explain_53 rfl hl (by decide) rfl (fun ls hl => ?_)
    exact wfX5_explain_54 b hlk hr zs zk  FU h x0 0 _ _ _ hf hE (lv_sub hl [1, 0] rfl)
  · have hf := oI_f c16 hf
    refine lv_aload_n b.1 b.2.1 dX5_explain_10 rfl (lv_at hl 0 rfl) ?_
    refine gX5_37 (x := (some x0)) b hE rfl t15 dX5_explain_11 ?_
    refine lv_iload_n b.1 b.2.1 dX5_explain_14 rfl (lv_at hl 1 rfl) ?_
    obtain ⟨a17, ea17, hf⟩ := oN_s hf
    obtain ⟨t18, hf⟩ := oC_s hf
    have t18 := of_decide_eq_true t18
    obtain ⟨g19, hf⟩ := oC_s hf
    refine q_bald (x := (hR h 654 x0)) b hE ea17 t18 g19 dX5_explain_15 ?_
    refine lv_iconst (v := 1) b.1 b.2.1 dX5_explain_16 (by decide) ?_
    refine lv_icmp_ne (tgt := 46) b.1 b.2.1 dX5_explain_17 (by decide) (fun c20 => ?_) (fun c20 => ?_)
    · have hf := oI_f c20 hf
      exact wfX5_explain_46 b hlk hr zs zk H2 hf hE (lv_sub hl [0, 1] rfl)
    · have hf := oI_t c20 hf
      refine lv_aload_n b.1 b.2.1 dX5_explain_20 rfl (lv_at hl 0 rfl) ?_
      refine gX5_40 (x := (some x0)) b hE rfl t15 dX5_explain_21 ?_
      refine lv_iconst (v := 3) b.1 b.2.1 dX5_explain_24 (by decide) ?_
      refine lv_dup2_11 b.1 b.2.1 dX5_explain_25 rfl (rf_cat _) ?_
      obtain ⟨a21, ea21, hf⟩ := oN_s hf
      obtain ⟨t22, hf⟩ := oC_s hf
      have t22 := of_decide_eq_true t22
      obtain ⟨g23, hf⟩ := oC_s hf
      refine q_iald (x := (hR h 656 x0)) b hE ea21 t22 g23 dX5_explain_26 ?_
      refine lv_iconst (v := 1) b.1 b.2.1 dX5_explain_27 (by decide) ?_
      refine lv_iadd b.1 b.2.1 dX5_explain_28 ?_
      obtain ⟨g24, hf⟩ := oC_s hf
      obtain ⟨h25, eh25, hf⟩ := oL_s hf
      refine q_iast (x := (hR h 656 x0)) b hE ea21 t22 g24 eh25 dX5_explain_29 (fun H locs hE => ?_)
      refine lv_aload_n b.1 b.2.1 dX5_explain_30 rfl (lv_at hl 0 rfl) ?_
      refine lv_aload_n b.1 b.2.1 dX5_explain_31 rfl (lv_at hl 0 rfl) ?_
      have t26 := tg_sA eh25 t15
      refine gX5_31 (x := (some x0)) b hE rfl t26 dX5_explain_32 ?_
      refine lv_iload_n b.1 b.2.1 dX5_explain_35 rfl (lv_at hl 1 rfl) ?_
      obtain ⟨a27, ea27, hf⟩ := oN_s hf
      obtain ⟨t28, hf⟩ := oC_s hf
      have t28 := of_decide_eq_true t28
      obtain ⟨g29, hf⟩ := oC_s hf
      refine q_iald (x := (hR h25 652 x0)) b hE ea27 t28 g29 dX5_explain_36 ?_
      refine lv_aload_n b.1 b.2.1 dX5_explain_37 rfl (lv_at hl 0 rfl) ?_
      refine gX5_34 (x := (some x0)) b hE rfl t26 dX5_explain_38 ?_
      refine lv_iload_n b.1 b.2.1 dX5_explain_41 rfl (lv_at hl 1 rfl) ?_
      obtain ⟨a30, ea30, hf⟩ := oN_s hf
      obtain ⟨t31, hf⟩ := oC_s hf
      have t31 := of_decide_eq_true t31
      obtain ⟨g32, hf⟩ := oC_s hf
      refine q_iald (x := (hR h25 653 x0)) b hE ea30 t31 g32 dX5_explain_42 ?_
      obtain ⟨h34, hc33, hf⟩ := oB_s hf
      refine k_callV0 (C := RX5) b zs zk hE (CX5_giveReason l D aC ad zk hc33) mc_X5_giveReason (in5 65 rfl rfl) mi_X5_giveReason ms_X5_giveReason ini_RX5 ok_X5_giveReason (x_recv b hE (ci := 5) rfl (by decide) t26) ⟨Nat.le_of_ble_eq_true rfl, Nat.le_of_ble_eq_true rfl⟩ rfl hl.1 rfl (k_room _ (by exact Nat.le_of_ble_eq_true rfl)) ⟨Nat.le_refl _, Nat.le_refl _⟩ dX5_explain_43 (fun H locs hE => ?_)
      exact wfX5_explain_46 b hlk hr zs zk H2 hf hE (lv_sub hl [0, 1] rfl)
def fX5_explain_2  : Nat → PH → Nat → Int32 → Option (PH)
  | 0 => fun _ _ _ => none
  | n + 1 => fX5_explain_2F  (fX5_explain_2  n)
set_option maxHeartbeats 4000000 in
theorem wfX5_explain_2 {args : Array Value} (b : Bd p s m c cX5_explain 2 RX5 D aC) (hlk : meth.locks = false) (hr : meth.sig.returnType = none) {Z : State → Prop} (zs : Z s) (zk : ZOK Z (Rg ad)) {hz : PH} : ∀ n : Nat, ∀ (h : PH) (x0 : Nat) (x1 : Int32), ∀ (H : Heap) (locs : List Loc) (ls : Array Slot), fX5_explain_2  n h x0 x1 = some hz → CE (EX D aC ad h) (Rg ad) s H locs → lv_has ls 2 [(0, .ref (ad x0)), (1, .int x1)] → W p l e (RM 2 47 0 0) s m args below meth c H locs 0 0 (MQ below (PQ (EX D aC ad hz) (Rg ad) none) args s 0 0 (Rg ad)) (F0 m 2 ls []) := by
  intro n
  induction n with
  | zero =>
    intro h x0 x1 H locs ls hf
    have hf : (none : Option (PH)) = some _ := hf
    cases hf
  | succ n ih =>
    intro h x0 x1 H locs ls hf hE hl
    exact wfX5_explain_2F b hlk hr zs zk  ih hf hE hl
def fX5_explain_0  (h : PH) (x0 : Nat) : Option (PH) :=
  fX5_explain_2  FU h x0 0
set_option maxHeartbeats 4000000 in
theorem wfX5_explain_0 {args : Array Value} (b : Bd p s m c cX5_explain 2 RX5 D aC) (hlk : meth.locks = false) (hr : meth.sig.returnType = none) {Z : State → Prop} (zs : Z s) (zk : ZOK Z (Rg ad)) {hz : PH} {h : PH} {x0 : Nat}  {H : Heap} {locs : List Loc} {ls : Array Slot} (hf : fX5_explain_0 h x0 = some hz) (hE : CE (EX D aC ad h) (Rg ad) s H locs) (hl : lv_has ls 2 [(0, .ref (ad x0))]) : W p l e (RM 2 47 0 0) s m args below meth c H locs 0 0 (MQ below (PQ (EX D aC ad hz) (Rg ad) none) args s 0 0 (Rg ad)) (F0 m 0 ls []) := by
  unfold fX5_explain_0 at hf
  refine lv_iconst (v := 0) b.1 b.2.1 dX5_explain_0 (by decide) ?_
  refine lv_istore_n (lv' := [(1, .int 0), (0, .ref (ad x0))]) b.1 b.2.1 dX5_explain_1 rfl hl (by decide) rfl (fun ls hl => ?_)
  exact wfX5_explain_2 b hlk hr zs zk  FU h x0 0 _ _ _ hf hE (lv_sub hl [1, 0] rfl)
def fX5_explain (h : PH) (x0 : Nat) : Option (PH) := fX5_explain_0 h x0
set_option maxHeartbeats 4000000 in
theorem CX5_explain (l : Launch) (D : va_G) (aC : Nat → ClassId) (ad : Nat → Nat) {Z : State → Prop} (zk : ZOK Z (Rg ad)) {h : PH} {x0 : Nat} {hz : PH} (hf : fX5_explain h x0 = some hz) : CM l D aC Z yX5_explain cX5_explain 2 (none) 2 47 0 0 (EX D aC ad h) [.ref (ad x0)] (EX D aC ad hz) none (Rg ad) := by
  refine CM.of rfl ?_
  intro p e s m below meth c b hr hlk hin2 zs hE
  refine k_ent (Nat.le_of_ble_eq_true rfl) (fun ls hl => ?_)
  exact wfX5_explain_0 b hlk hr zs zk hf hE (lv_sub hl [0] rfl)
theorem dX6_beginSum_0 : decode cX6_beginSum 0 = .ok (.aload_n 0, 1) := by decide +kernel
theorem dX6_beginSum_1 : decode cX6_beginSum 1 = .ok (.getfield 26, 3) := by decide +kernel
theorem dX6_beginSum_4 : decode cX6_beginSum 4 = .ok (.lconst 0, 1) := by decide +kernel
theorem dX6_beginSum_5 : decode cX6_beginSum 5 = .ok (.lconst 1, 1) := by decide +kernel
theorem dX6_beginSum_6 : decode cX6_beginSum 6 = .ok (.invokevirtual 114, 3) := by decide +kernel
theorem dX6_beginSum_9 : decode cX6_beginSum 9 = .ok (.aload_n 0, 1) := by decide +kernel
theorem dX6_beginSum_10 : decode cX6_beginSum 10 = .ok (.getfield 29, 3) := by decide +kernel
theorem dX6_beginSum_13 : decode cX6_beginSum 13 = .ok (.lconst 1, 1) := by decide +kernel
theorem dX6_beginSum_14 : decode cX6_beginSum 14 = .ok (.lconst 1, 1) := by decide +kernel
theorem dX6_beginSum_15 : decode cX6_beginSum 15 = .ok (.invokevirtual 114, 3) := by decide +kernel
theorem dX6_beginSum_18 : decode cX6_beginSum 18 = .ok (.aload_n 0, 1) := by decide +kernel
theorem dX6_beginSum_19 : decode cX6_beginSum 19 = .ok (.iconst 0, 1) := by decide +kernel
theorem dX6_beginSum_20 : decode cX6_beginSum 20 = .ok (.putfield 143, 3) := by decide +kernel
theorem dX6_beginSum_23 : decode cX6_beginSum 23 = .ok (.aload_n 0, 1) := by decide +kernel
theorem dX6_beginSum_24 : decode cX6_beginSum 24 = .ok (.iconst 0, 1) := by decide +kernel
theorem dX6_beginSum_25 : decode cX6_beginSum 25 = .ok (.putfield 146, 3) := by decide +kernel
theorem dX6_beginSum_28 : decode cX6_beginSum 28 = .ok (.return_, 1) := by decide +kernel
def fX6_beginSum_0  (h : PH) (x0 : Nat) : Option (PH) :=
  oC (decide (hT h x0 = 7)) (oN (hR h 772 x0) (fun a2 => oC (decide (hT h a2 = 4)) (oB (fX3_become h a2 0 1) (fun h5 => oC (decide (hT h5 x0 = 7)) (oN (hR h5 773 x0) (fun a7 => oC (decide (hT h5 a7 = 4)) (oB (fX3_become h5 a7 1 1) (fun h10 => oC (decide (hT h10 x0 = 7)) (oL (sI h10 776 x0 0) (fun h12 => oL (sI h12 777 x0 0) (fun h14 => some (h14))))))))))))
set_option maxHeartbeats 4000000 in
theorem wfX6_beginSum_0 {args : Array Value} (b : Bd p s m c cX6_beginSum 1 RX6 D aC) (hlk : meth.locks = false) (hr : meth.sig.returnType = none) {Z : State → Prop} (zs : Z s) (zk : ZOK Z (Rg ad)) {hz : PH} {h : PH} {x0 : Nat}  {H : Heap} {locs : List Loc} {ls : Array Slot} (hf : fX6_beginSum_0 h x0 = some hz) (hE : CE (EX D aC ad h) (Rg ad) s H locs) (hl : lv_has ls 1 [(0, .ref (ad x0))]) : W p l e (RM 2 55 0 0) s m args below meth c H locs 0 0 (MQ below (PQ (EX D aC ad hz) (Rg ad) none) args s 0 0 (Rg ad)) (F0 m 0 ls []) := by
  unfold fX6_beginSum_0 at hf
  refine lv_aload_n b.1 b.2.1 dX6_beginSum_0 rfl (lv_at hl 0 rfl) ?_
  obtain ⟨t1, hf⟩ := oC_s hf
  have t1 := of_decide_eq_true t1
  refine gX6_26 (x := (some x0)) b hE rfl t1 dX6_beginSum_1 ?_
  refine lv_lconst (v := 0) b.1 b.2.1 dX6_beginSum_4 rfl ?_
  refine lv_lconst (v := 1) b.1 b.2.1 dX6_beginSum_5 rfl ?_
  obtain ⟨a2, ea2, hf⟩ := oN_s hf
  obtain ⟨t3, hf⟩ := oC_s hf
  have t3 := of_decide_eq_true t3
  obtain ⟨h5, hc4, hf⟩ := oB_s hf
  refine k_stk [.long 1, .long 0] ea2 ?_
  refine k_callV0 (C := RX3) b zs zk hE (CX3_become l D aC ad zk hc4) mc_X3_become (in4 218 rfl rfl) mi_X3_become ms_X3_become ini_RX3 ok_X3_become (x_recv b hE (ci := 3) rfl (by decide) t3) ⟨Nat.le_of_ble_eq_true rfl, Nat.le_of_ble_eq_true rfl⟩ rfl hl.1 rfl (k_room _ (by exact Nat.le_of_ble_eq_true rfl)) ⟨Nat.le_refl _, Nat.le_refl _⟩ dX6_beginSum_6 (fun H locs hE => ?_)
  refine lv_aload_n b.1 b.2.1 dX6_beginSum_9 rfl (lv_at hl 0 rfl) ?_
  obtain ⟨t6, hf⟩ := oC_s hf
  have t6 := of_decide_eq_true t6
  refine gX6_29 (x := (some x0)) b hE rfl t6 dX6_beginSum_10 ?_
  refine lv_lconst (v := 1) b.1 b.2.1 dX6_beginSum_13 rfl ?_
  refine lv_lconst (v := 1) b.1 b.2.1 dX6_beginSum_14 rfl ?_
  obtain ⟨a7, ea7, hf⟩ := oN_s hf
  obtain ⟨t8, hf⟩ := oC_s hf
  have t8 := of_decide_eq_true t8
  obtain ⟨h10, hc9, hf⟩ := oB_s hf
  refine k_stk [.long 1, .long 1] ea7 ?_
  refine k_callV0 (C := RX3) b zs zk hE (CX3_become l D aC ad zk hc9) mc_X3_become (in4 218 rfl rfl) mi_X3_become ms_X3_become ini_RX3 ok_X3_become (x_recv b hE (ci := 3) rfl (by decide) t8) ⟨Nat.le_of_ble_eq_true rfl, Nat.le_of_ble_eq_true rfl⟩ rfl hl.1 rfl (k_room _ (by exact Nat.le_of_ble_eq_true rfl)) ⟨Nat.le_refl _, Nat.le_refl _⟩ dX6_beginSum_15 (fun H locs hE => ?_)
  refine lv_aload_n b.1 b.2.1 dX6_beginSum_18 rfl (lv_at hl 0 rfl) ?_
  refine lv_iconst (v := 0) b.1 b.2.1 dX6_beginSum_19 (by decide) ?_
  obtain ⟨t11, hf⟩ := oC_s hf
  have t11 := of_decide_eq_true t11
  obtain ⟨h12, eh12, hf⟩ := oL_s hf
  refine pX6_143 (x := (some x0)) b hE rfl t11 (by decide) eh12 dX6_beginSum_20 (fun H locs hE => ?_)
  refine lv_aload_n b.1 b.2.1 dX6_beginSum_23 rfl (lv_at hl 0 rfl) ?_
  refine lv_iconst (v := 0) b.1 b.2.1 dX6_beginSum_24 (by decide) ?_
  have t13 := tg_sI eh12 t11
  obtain ⟨h14, eh14, hf⟩ := oL_s hf
  refine pX6_146 (x := (some x0)) b hE rfl t13 (by decide) eh14 dX6_beginSum_25 (fun H locs hE => ?_)
  cases hf
  exact k_vret b hlk hr hE (Nat.le_refl _) (Nat.le_refl _) dX6_beginSum_28
def fX6_beginSum (h : PH) (x0 : Nat) : Option (PH) := fX6_beginSum_0 h x0
set_option maxHeartbeats 4000000 in
theorem CX6_beginSum (l : Launch) (D : va_G) (aC : Nat → ClassId) (ad : Nat → Nat) {Z : State → Prop} (zk : ZOK Z (Rg ad)) {h : PH} {x0 : Nat} {hz : PH} (hf : fX6_beginSum h x0 = some hz) : CM l D aC Z yX6_beginSum cX6_beginSum 1 (none) 2 55 0 0 (EX D aC ad h) [.ref (ad x0)] (EX D aC ad hz) none (Rg ad) := by
  refine CM.of rfl ?_
  intro p e s m below meth c b hr hlk hin2 zs hE
  refine k_ent (Nat.le_of_ble_eq_true rfl) (fun ls hl => ?_)
  exact wfX6_beginSum_0 b hlk hr zs zk hf hE (lv_sub hl [0] rfl)
theorem dX6_numberOf_0 : decode cX6_numberOf 0 = .ok (.aload_n 0, 1) := by decide +kernel
theorem dX6_numberOf_1 : decode cX6_numberOf 1 = .ok (.iload_n 1, 1) := by decide +kernel
theorem dX6_numberOf_2 : decode cX6_numberOf 2 = .ok (.iconst 4, 1) := by decide +kernel
theorem dX6_numberOf_3 : decode cX6_numberOf 3 = .ok (.idiv, 1) := by decide +kernel
theorem dX6_numberOf_4 : decode cX6_numberOf 4 = .ok (.invokevirtual 61, 3) := by decide +kernel
theorem dX6_numberOf_7 : decode cX6_numberOf 7 = .ok (.iconst 4, 1) := by decide +kernel
theorem dX6_numberOf_8 : decode cX6_numberOf 8 = .ok (.imul, 1) := by decide +kernel
theorem dX6_numberOf_9 : decode cX6_numberOf 9 = .ok (.iload_n 1, 1) := by decide +kernel
theorem dX6_numberOf_10 : decode cX6_numberOf 10 = .ok (.iconst 4, 1) := by decide +kernel
theorem dX6_numberOf_11 : decode cX6_numberOf 11 = .ok (.irem, 1) := by decide +kernel
theorem dX6_numberOf_12 : decode cX6_numberOf 12 = .ok (.iadd, 1) := by decide +kernel
theorem dX6_numberOf_13 : decode cX6_numberOf 13 = .ok (.istore_n 2, 1) := by decide +kernel
theorem dX6_numberOf_14 : decode cX6_numberOf 14 = .ok (.iload_n 2, 1) := by decide +kernel
theorem dX6_numberOf_15 : decode cX6_numberOf 15 = .ok (.ifCond .lt 27, 3) := by decide +kernel
theorem dX6_numberOf_18 : decode cX6_numberOf 18 = .ok (.iload_n 2, 1) := by decide +kernel
theorem dX6_numberOf_19 : decode cX6_numberOf 19 = .ok (.aload_n 0, 1) := by decide +kernel
theorem dX6_numberOf_20 : decode cX6_numberOf 20 = .ok (.getfield 38, 3) := by decide +kernel
theorem dX6_numberOf_23 : decode cX6_numberOf 23 = .ok (.getfield 140, 3) := by decide +kernel
theorem dX6_numberOf_26 : decode cX6_numberOf 26 = .ok (.arraylength, 1) := by decide +kernel
theorem dX6_numberOf_27 : decode cX6_numberOf 27 = .ok (.if_icmp .ge 15, 3) := by decide +kernel
theorem dX6_numberOf_30 : decode cX6_numberOf 30 = .ok (.aload_n 0, 1) := by decide +kernel
theorem dX6_numberOf_31 : decode cX6_numberOf 31 = .ok (.getfield 38, 3) := by decide +kernel
theorem dX6_numberOf_34 : decode cX6_numberOf 34 = .ok (.getfield 140, 3) := by decide +kernel
theorem dX6_numberOf_37 : decode cX6_numberOf 37 = .ok (.iload_n 2, 1) := by decide +kernel
theorem dX6_numberOf_38 : decode cX6_numberOf 38 = .ok (.iaload, 1) := by decide +kernel
theorem dX6_numberOf_39 : decode cX6_numberOf 39 = .ok (.goto 4, 3) := by decide +kernel
theorem dX6_numberOf_42 : decode cX6_numberOf 42 = .ok (.iconst 0, 1) := by decide +kernel
theorem dX6_numberOf_43 : decode cX6_numberOf 43 = .ok (.ireturn, 1) := by decide +kernel
def fX6_numberOf_0  (h : PH) (x0 : Nat) (x1 : Int32) : Option (Int32) :=
  oC (decide (hT h x0 = 7)) (oB (fX6_personOf h x0 (x1 / 4)) (fun r3 => oL ((r3 * 4) + (x1 - x1 / 4 * 4)) (fun y4 => if y4 < 0 then (some (0)) else (oN (hR h 768 x0) (fun a6 => oC (decide (hT h a6 = 2)) (oN (hR h 134 a6) (fun a8 => oC (decide (hT h a8 = 101)) (if (nI (hN h a8)) ≤ y4 then (some (0)) else (oC (ix y4 (hN h a8)) (some ((hA h a8 (Int32.toNatClampNeg y4)))))))))))))
set_option maxHeartbeats 4000000 in
theorem wfX6_numberOf_0 {args : Array Value} (b : Bd p s m c cX6_numberOf 3 RX6 D aC) (hlk : meth.locks = false) (hr : meth.sig.returnType = some .int) {Z : State → Prop} (zs : Z s) (zk : ZOK Z (Rg ad)) {rz : Int32} {h : PH} {x0 : Nat} {x1 : Int32}  {H : Heap} {locs : List Loc} {ls : Array Slot} (hf : fX6_numberOf_0 h x0 x1 = some rz) (hE : CE (EX D aC ad h) (Rg ad) s H locs) (hl : lv_has ls 3 [(0, .ref (ad x0)), (1, .int x1)]) : W p l e (RM 1 21 0 0) s m args below meth c H locs 0 0 (MQ below (PQ (EX D aC ad h) (Rg ad) (some (.int rz))) args s 0 0 (Rg ad)) (F0 m 0 ls []) := by
  unfold fX6_numberOf_0 at hf
  refine lv_aload_n b.1 b.2.1 dX6_numberOf_0 rfl (lv_at hl 0 rfl) ?_
  refine lv_iload_n b.1 b.2.1 dX6_numberOf_1 rfl (lv_at hl 1 rfl) ?_
  refine lv_iconst (v := 4) b.1 b.2.1 dX6_numberOf_2 (by decide) ?_
  refine lv_idiv b.1 b.2.1 dX6_numberOf_3 (by decide) ?_
  obtain ⟨t1, hf⟩ := oC_s hf
  have t1 := of_decide_eq_true t1
  obtain ⟨r3, hc2, hf⟩ := oB_s hf
  refine k_callV0 (C := RX6) b zs zk hE (CX6_personOf l D aC ad zk hc2) mc_X6_personOf (in4 204 rfl rfl) mi_X6_personOf ms_X6_personOf ini_RX6 ok_X6_personOf (x_recv b hE (ci := 6) rfl (by decide) t1) ⟨Nat.le_of_ble_eq_true rfl, Nat.le_of_ble_eq_true rfl⟩ rfl hl.1 rfl (k_room _ (by exact Nat.le_of_ble_eq_true rfl)) ⟨Nat.le_refl _, Nat.le_refl _⟩ dX6_numberOf_4 (fun H locs hE => ?_)
  refine lv_iconst (v := 4) b.1 b.2.1 dX6_numberOf_7 (by decide) ?_
  refine lv_imul b.1 b.2.1 dX6_numberOf_8 ?_
  refine lv_iload_n b.1 b.2.1 dX6_numberOf_9 rfl (lv_at hl 1 rfl) ?_
  refine lv_iconst (v := 4) b.1 b.2.1 dX6_numberOf_10 (by decide) ?_
  refine lv_irem b.1 b.2.1 dX6_numberOf_11 (by decide) ?_
  refine lv_iadd b.1 b.2.1 dX6_numberOf_12 ?_
  obtain ⟨y4, ey4, hf⟩ := oL_s hf
  refine k_nmI ey4 ?_
  refine lv_istore_n (lv' := [(2, .int y4), (0, .ref (ad x0)), (1, .int x1)]) b.1 b.2.1 dX6_numberOf_13 rfl hl (by decide) rfl (fun ls hl => ?_)
  have hl := lv_sub (l' := [(2, .int y4), (0, .ref (ad x0))]) hl [0, 1] rfl
  refine lv_iload_n b.1 b.2.1 dX6_numberOf_14 rfl (lv_at hl 0 rfl) ?_
  refine lv_if_lt (tgt := 42) b.1 b.2.1 dX6_numberOf_15 (by decide) (fun c5 => ?_) (fun c5 => ?_)
  · have hf := oI_t c5 hf
    refine lv_iconst (v := 0) b.1 b.2.1 dX6_numberOf_42 (by decide) ?_
    cases hf
    exact k_iret b hlk hr hE (Nat.le_refl _) (Nat.le_refl _) dX6_numberOf_43
  · have hf := oI_f c5 hf
    refine lv_iload_n b.1 b.2.1 dX6_numberOf_18 rfl (lv_at hl 0 rfl) ?_
    refine lv_aload_n b.1 b.2.1 dX6_numberOf_19 rfl (lv_at hl 1 rfl) ?_
    refine gX6_38 (x := (some x0)) b hE rfl t1 dX6_numberOf_20 ?_
    obtain ⟨a6, ea6, hf⟩ := oN_s hf
    obtain ⟨t7, hf⟩ := oC_s hf
    have t7 := of_decide_eq_true t7
    refine gX6_140 (x := (hR h 768 x0)) b hE ea6 t7 dX6_numberOf_23 ?_
    obtain ⟨a8, ea8, hf⟩ := oN_s hf
    obtain ⟨t9, hf⟩ := oC_s hf
    have t9 := of_decide_eq_true t9
    refine q_alen (x := (hR h 134 a6)) (k := 1) b hE ea8 (by decide) t9 dX6_numberOf_26 ?_
    refine lv_icmp_ge (tgt := 42) b.1 b.2.1 dX6_numberOf_27 (by decide) (fun c10 => ?_) (fun c10 => ?_)
    · have hf := oI_t c10 hf
      refine lv_iconst (v := 0) b.1 b.2.1 dX6_numberOf_42 (by decide) ?_
      cases hf
      exact k_iret b hlk hr hE (Nat.le_refl _) (Nat.le_refl _) dX6_numberOf_43
    · have hf := oI_f c10 hf
      refine lv_aload_n b.1 b.2.1 dX6_numberOf_30 rfl (lv_at hl 1 rfl) ?_
      refine gX6_38 (x := (some x0)) b hE rfl t1 dX6_numberOf_31 ?_
      refine gX6_140 (x := (hR h 768 x0)) b hE ea6 t7 dX6_numberOf_34 ?_
      refine lv_iload_n b.1 b.2.1 dX6_numberOf_37 rfl (lv_at hl 0 rfl) ?_
      obtain ⟨g11, hf⟩ := oC_s hf
      refine q_iald (x := (hR h 134 a6)) b hE ea8 t9 g11 dX6_numberOf_38 ?_
      refine lv_goto (tgt := 43) b.1 b.2.1 dX6_numberOf_39 (by decide) ?_
      cases hf
      exact k_iret b hlk hr hE (Nat.le_refl _) (Nat.le_refl _) dX6_numberOf_43
def fX6_numberOf (h : PH) (x0 : Nat) (x1 : Int32) : Option (Int32) := fX6_numberOf_0 h x0 x1
set_option maxHeartbeats 4000000 in
theorem CX6_numberOf (l : Launch) (D : va_G) (aC : Nat → ClassId) (ad : Nat → Nat) {Z : State → Prop} (zk : ZOK Z (Rg ad)) {h : PH} {x0 : Nat} {x1 : Int32} {rz : Int32} (hf : fX6_numberOf h x0 x1 = some rz) : CM l D aC Z yX6_numberOf cX6_numberOf 3 (some .int) 1 21 0 0 (EX D aC ad h) [.ref (ad x0), .int x1] (EX D aC ad h) (some (.int rz)) (Rg ad) := by
  refine CM.of rfl ?_
  intro p e s m below meth c b hr hlk hin2 zs hE
  refine k_ent (Nat.le_of_ble_eq_true rfl) (fun ls hl => ?_)
  exact wfX6_numberOf_0 b hlk hr zs zk hf hE (lv_sub hl [0, 1] rfl)
theorem dX6_combine_0 : decode cX6_combine 0 = .ok (.iload_n 0, 1) := by decide +kernel
theorem dX6_combine_1 : decode cX6_combine 1 = .ok (.bipush 6, 2) := by decide +kernel
theorem dX6_combine_3 : decode cX6_combine 3 = .ok (.if_icmp .ne 22, 3) := by decide +kernel
theorem dX6_combine_6 : decode cX6_combine 6 = .ok (.aload_n 1, 1) := by decide +kernel
theorem dX6_combine_7 : decode cX6_combine 7 = .ok (.aload_n 2, 1) := by decide +kernel
theorem dX6_combine_8 : decode cX6_combine 8 = .ok (.getfield 129, 3) := by decide +kernel
theorem dX6_combine_11 : decode cX6_combine 11 = .ok (.aload_n 2, 1) := by decide +kernel
theorem dX6_combine_12 : decode cX6_combine 12 = .ok (.getfield 133, 3) := by decide +kernel
theorem dX6_combine_15 : decode cX6_combine 15 = .ok (.aload_n 2, 1) := by decide +kernel
theorem dX6_combine_16 : decode cX6_combine 16 = .ok (.getfield 94, 3) := by decide +kernel
theorem dX6_combine_19 : decode cX6_combine 19 = .ok (.invokevirtual 118, 3) := by decide +kernel
theorem dX6_combine_22 : decode cX6_combine 22 = .ok (.goto 18, 3) := by decide +kernel
theorem dX6_combine_25 : decode cX6_combine 25 = .ok (.aload_n 1, 1) := by decide +kernel
theorem dX6_combine_26 : decode cX6_combine 26 = .ok (.aload_n 2, 1) := by decide +kernel
theorem dX6_combine_27 : decode cX6_combine 27 = .ok (.iload_n 0, 1) := by decide +kernel
theorem dX6_combine_28 : decode cX6_combine 28 = .ok (.iconst 4, 1) := by decide +kernel
theorem dX6_combine_29 : decode cX6_combine 29 = .ok (.if_icmp .ne 7, 3) := by decide +kernel
theorem dX6_combine_32 : decode cX6_combine 32 = .ok (.iconst 1, 1) := by decide +kernel
theorem dX6_combine_33 : decode cX6_combine 33 = .ok (.goto 4, 3) := by decide +kernel
theorem dX6_combine_36 : decode cX6_combine 36 = .ok (.iconst (-1), 1) := by decide +kernel
theorem dX6_combine_37 : decode cX6_combine 37 = .ok (.invokevirtual 136, 3) := by decide +kernel
theorem dX6_combine_40 : decode cX6_combine 40 = .ok (.return_, 1) := by decide +kernel
def fX6_combine_37  (h : PH) (s0 : Int32) (s1 : Option Nat) (s2 : Option Nat) : Option (PH) :=
  oN s2 (fun a1 => oC (decide (hT h a1 = 4)) (oB (fX3_add h a1 s1 s0) (fun h4 => some (h4))))
set_option maxHeartbeats 4000000 in
theorem wfX6_combine_37 {args : Array Value} (b : Bd p s m c cX6_combine 3 RX6 D aC) (hlk : meth.locks = false) (hr : meth.sig.returnType = none) {Z : State → Prop} (zs : Z s) (zk : ZOK Z (Rg ad)) {hz : PH} {h : PH} {s0 : Int32} {s1 : Option Nat} {s2 : Option Nat}  {H : Heap} {locs : List Loc} {ls : Array Slot} (hf : fX6_combine_37 h s0 s1 s2 = some hz) (hE : CE (EX D aC ad h) (Rg ad) s H locs) (hl : lv_has ls 3 []) : W p l e (RM 3 80 0 0) s m args below meth c H locs 0 0 (MQ below (PQ (EX D aC ad hz) (Rg ad) none) args s 0 0 (Rg ad)) (F0 m 37 ls [.int s0, va_rf (Option.map ad s1), va_rf (Option.map ad s2)]) := by
  unfold fX6_combine_37 at hf
  obtain ⟨a1, ea1, hf⟩ := oN_s hf
  obtain ⟨t2, hf⟩ := oC_s hf
  have t2 := of_decide_eq_true t2
  obtain ⟨h4, hc3, hf⟩ := oB_s hf
  refine k_stk [.int s0, va_rf (Option.map ad s1)] ea1 ?_
  refine k_callV0 (C := RX3) b zs zk hE (CX3_add l D aC ad zk hc3) mc_X3_add (in4 238 rfl rfl) mi_X3_add ms_X3_add ini_RX3 ok_X3_add (x_recv b hE (ci := 3) rfl (by decide) t2) ⟨Nat.le_of_ble_eq_true rfl, Nat.le_of_ble_eq_true rfl⟩ rfl hl.1 rfl (k_room _ (by exact Nat.le_of_ble_eq_true rfl)) ⟨Nat.le_refl _, Nat.le_refl _⟩ dX6_combine_37 (fun H locs hE => ?_)
  cases hf
  exact k_vret b hlk hr hE (Nat.le_refl _) (Nat.le_refl _) dX6_combine_40
def fX6_combine_0  (h : PH) (x0 : Int32) (x1 : Option Nat) (x2 : Option Nat) : Option (PH) :=
  if x0 = 6 then (oN x2 (fun a7 => oC (decide (hT h a7 = 4)) (oN x1 (fun a9 => oC (decide (hT h a9 = 4)) (oB (fX3_multiply h a9 (hL h 384 a7) (hL h 385 a7) (hI h 386 a7)) (fun h12 => some (h12))))))) else (if x0 = 4 then (fX6_combine_37  h 1 x2 x1) else (fX6_combine_37  h (-1) x2 x1))
set_option maxHeartbeats 4000000 in
theorem wfX6_combine_0 {args : Array Value} (b : Bd p s m c cX6_combine 3 RX6 D aC) (hlk : meth.locks = false) (hr : meth.sig.returnType = none) {Z : State → Prop} (zs : Z s) (zk : ZOK Z (Rg ad)) {hz : PH} {h : PH} {x0 : Int32} {x1 : Option Nat} {x2 : Option Nat}  {H : Heap} {locs : List Loc} {ls : Array Slot} (hf : fX6_combine_0 h x0 x1 x2 = some hz) (hE : CE (EX D aC ad h) (Rg ad) s H locs) (hl : lv_has ls 3 [(0, .int x0), (1, va_rf (Option.map ad x1)), (2, va_rf (Option.map ad x2))]) : W p l e (RM 3 80 0 0) s m args below meth c H locs 0 0 (MQ below (PQ (EX D aC ad hz) (Rg ad) none) args s 0 0 (Rg ad)) (F0 m 0 ls []) := by
  unfold fX6_combine_0 at hf
  refine lv_iload_n b.1 b.2.1 dX6_combine_0 rfl (lv_at hl 0 rfl) ?_
  refine lv_bipush (v := 6) b.1 b.2.1 dX6_combine_1 (by decide) ?_
  refine lv_icmp_ne (tgt := 25) b.1 b.2.1 dX6_combine_3 (by decide) (fun c5 => ?_) (fun c5 => ?_)
  · have hf := oI_f c5 hf
    refine k_aload_n (x := Option.map ad x1) b dX6_combine_25 rfl (lv_at hl 1 rfl) ?_
    refine k_aload_n (x := Option.map ad x2) b dX6_combine_26 rfl (lv_at hl 2 rfl) ?_
    refine lv_iload_n b.1 b.2.1 dX6_combine_27 rfl (lv_at hl 0 rfl) ?_
    refine lv_iconst (v := 4) b.1 b.2.1 dX6_combine_28 (by decide) ?_
    refine lv_icmp_ne (tgt := 36) b.1 b.2.1 dX6_combine_29 (by decide) (fun c6 => ?_) (fun c6 => ?_)
    · have hf := oI_f c6 hf
      refine lv_iconst (v := (-1)) b.1 b.2.1 dX6_combine_36 (by decide) ?_
      exact wfX6_combine_37 b hlk hr zs zk  hf hE (lv_sub hl [] rfl)
    · have hf := oI_t c6 hf
      refine lv_iconst (v := 1) b.1 b.2.1 dX6_combine_32 (by decide) ?_
      refine lv_goto (tgt := 37) b.1 b.2.1 dX6_combine_33 (by decide) ?_
      exact wfX6_combine_37 b hlk hr zs zk  hf hE (lv_sub hl [] rfl)
  · have hf := oI_t c5 hf
    refine k_aload_n (x := Option.map ad x1) b dX6_combine_6 rfl (lv_at hl 1 rfl) ?_
    refine k_aload_n (x := Option.map ad x2) b dX6_combine_7 rfl (lv_at hl 2 rfl) ?_
    obtain ⟨a7, ea7, hf⟩ := oN_s hf
    obtain ⟨t8, hf⟩ := oC_s hf
    have t8 := of_decide_eq_true t8
    refine gX6_129 (x := x2) b hE ea7 t8 dX6_combine_8 ?_
    refine k_aload_n (x := Option.map ad x2) b dX6_combine_11 rfl (lv_at hl 2 rfl) ?_
    refine gX6_133 (x := x2) b hE ea7 t8 dX6_combine_12 ?_
    refine k_aload_n (x := Option.map ad x2) b dX6_combine_15 rfl (lv_at hl 2 rfl) ?_
    refine gX6_94 (x := x2) b hE ea7 t8 dX6_combine_16 ?_
    obtain ⟨a9, ea9, hf⟩ := oN_s hf
    obtain ⟨t10, hf⟩ := oC_s hf
    have t10 := of_decide_eq_true t10
    obtain ⟨h12, hc11, hf⟩ := oB_s hf
    refine k_stk [.int (hI h 386 a7), .long (hL h 385 a7), .long (hL h 384 a7)] ea9 ?_
    refine k_callV0 (C := RX3) b zs zk hE (CX3_multiply l D aC ad zk hc11) mc_X3_multiply (in4 226 rfl rfl) mi_X3_multiply ms_X3_multiply ini_RX3 ok_X3_multiply (x_recv b hE (ci := 3) rfl (by decide) t10) ⟨Nat.le_of_ble_eq_true rfl, Nat.le_of_ble_eq_true rfl⟩ rfl hl.1 rfl (k_room _ (by exact Nat.le_of_ble_eq_true rfl)) ⟨Nat.le_refl _, Nat.le_refl _⟩ dX6_combine_19 (fun H locs hE => ?_)
    refine lv_goto (tgt := 40) b.1 b.2.1 dX6_combine_22 (by decide) ?_
    cases hf
    exact k_vret b hlk hr hE (Nat.le_refl _) (Nat.le_refl _) dX6_combine_40
def fX6_combine (h : PH) (x0 : Int32) (x1 : Option Nat) (x2 : Option Nat) : Option (PH) := fX6_combine_0 h x0 x1 x2
set_option maxHeartbeats 4000000 in
theorem CX6_combine (l : Launch) (D : va_G) (aC : Nat → ClassId) (ad : Nat → Nat) {Z : State → Prop} (zk : ZOK Z (Rg ad)) {h : PH} {x0 : Int32} {x1 : Option Nat} {x2 : Option Nat} {hz : PH} (hf : fX6_combine h x0 x1 x2 = some hz) : CM l D aC Z yX6_combine cX6_combine 3 (none) 3 80 0 0 (EX D aC ad h) [.int x0, va_rf (Option.map ad x1), va_rf (Option.map ad x2)] (EX D aC ad hz) none (Rg ad) := by
  refine CM.of rfl ?_
  intro p e s m below meth c b hr hlk hin2 zs hE
  cases x1 <;> cases x2 <;> (
    refine k_ent (Nat.le_of_ble_eq_true rfl) (fun ls hl => ?_)
    exact wfX6_combine_0 b hlk hr zs zk hf hE (lv_sub hl [0, 1, 2] rfl))
end
