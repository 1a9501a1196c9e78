section
variable {p : Program} {l : Launch} {e : Env} {s : State} {m : MethodId} {below : List Frame} {meth : Method} {c : Code} {D : va_G} {aC : Nat → ClassId} {ad : Nat → Nat}
theorem dX5_isThere_0 : decode cX5_isThere 0 = .ok (.aload_n 0, 1) := by decide +kernel
theorem dX5_isThere_1 : decode cX5_isThere 1 = .ok (.getfield 50, 3) := by decide +kernel
theorem dX5_isThere_4 : decode cX5_isThere 4 = .ok (.iload_n 1, 1) := by decide +kernel
theorem dX5_isThere_5 : decode cX5_isThere 5 = .ok (.invokestatic 200, 3) := by decide +kernel
theorem dX5_isThere_8 : decode cX5_isThere 8 = .ok (.invokevirtual 219, 3) := by decide +kernel
theorem dX5_isThere_11 : decode cX5_isThere 11 = .ok (.istore_n 2, 1) := by decide +kernel
theorem dX5_isThere_12 : decode cX5_isThere 12 = .ok (.iload_n 1, 1) := by decide +kernel
theorem dX5_isThere_13 : decode cX5_isThere 13 = .ok (.invokestatic 200, 3) := by decide +kernel
theorem dX5_isThere_16 : decode cX5_isThere 16 = .ok (.aload_n 0, 1) := by decide +kernel
theorem dX5_isThere_17 : decode cX5_isThere 17 = .ok (.getfield 80, 3) := by decide +kernel
theorem dX5_isThere_20 : decode cX5_isThere 20 = .ok (.if_icmp .ge 46, 3) := by decide +kernel
theorem dX5_isThere_23 : decode cX5_isThere 23 = .ok (.iload_n 1, 1) := by decide +kernel
theorem dX5_isThere_24 : decode cX5_isThere 24 = .ok (.invokestatic 226, 3) := by decide +kernel
theorem dX5_isThere_27 : decode cX5_isThere 27 = .ok (.iload_n 2, 1) := by decide +kernel
theorem dX5_isThere_28 : decode cX5_isThere 28 = .ok (.ifCond .le 10, 3) := by decide +kernel
theorem dX5_isThere_31 : decode cX5_isThere 31 = .ok (.aload_n 0, 1) := by decide +kernel
theorem dX5_isThere_32 : decode cX5_isThere 32 = .ok (.getfield 75, 3) := by decide +kernel
theorem dX5_isThere_35 : decode cX5_isThere 35 = .ok (.goto 4, 3) := by decide +kernel
theorem dX5_isThere_38 : decode cX5_isThere 38 = .ok (.iconst 1, 1) := by decide +kernel
theorem dX5_isThere_39 : decode cX5_isThere 39 = .ok (.if_icmp .ge 27, 3) := by decide +kernel
theorem dX5_isThere_42 : decode cX5_isThere 42 = .ok (.iload_n 1, 1) := by decide +kernel
theorem dX5_isThere_43 : decode cX5_isThere 43 = .ok (.invokestatic 229, 3) := by decide +kernel
theorem dX5_isThere_46 : decode cX5_isThere 46 = .ok (.iload_n 2, 1) := by decide +kernel
theorem dX5_isThere_47 : decode cX5_isThere 47 = .ok (.iconst 1, 1) := by decide +kernel
theorem dX5_isThere_48 : decode cX5_isThere 48 = .ok (.if_icmp .le 10, 3) := by decide +kernel
theorem dX5_isThere_51 : decode cX5_isThere 51 = .ok (.aload_n 0, 1) := by decide +kernel
theorem dX5_isThere_52 : decode cX5_isThere 52 = .ok (.getfield 75, 3) := by decide +kernel
theorem dX5_isThere_55 : decode cX5_isThere 55 = .ok (.goto 4, 3) := by decide +kernel
theorem dX5_isThere_58 : decode cX5_isThere 58 = .ok (.iconst 1, 1) := by decide +kernel
theorem dX5_isThere_59 : decode cX5_isThere 59 = .ok (.if_icmp .ge 7, 3) := by decide +kernel
theorem dX5_isThere_62 : decode cX5_isThere 62 = .ok (.iconst 1, 1) := by decide +kernel
theorem dX5_isThere_63 : decode cX5_isThere 63 = .ok (.goto 4, 3) := by decide +kernel
theorem dX5_isThere_66 : decode cX5_isThere 66 = .ok (.iconst 0, 1) := by decide +kernel
theorem dX5_isThere_67 : decode cX5_isThere 67 = .ok (.ireturn, 1) := by decide +kernel
def fX5_isThere_59  (h : PH) (s0 : Int32) (s1 : Int32) : Option (Int32) :=
  if s0 ≤ s1 then (some (0)) else (some (1))
set_option maxHeartbeats 4000000 in
theorem wfX5_isThere_59 {args : Array Value} (b : Bd p s m c cX5_isThere 3 RX5 D aC) (hlk : meth.locks = false) (hr : meth.sig.returnType = some .boolean) {Z : State → Prop} (zs : Z s) (zk : ZOK Z (Rg ad)) {rz : Int32} {h : PH} {s0 : Int32} {s1 : Int32}  {H : Heap} {locs : List Loc} {ls : Array Slot} (hf : fX5_isThere_59 h s0 s1 = some rz) (hE : CE (EX D aC ad h) (Rg ad) s H locs) (hl : lv_has ls 3 []) : W p l e (RM 1 21 0 0) s m args below meth c H locs 0 0 (MQ below (PQ (EX D aC ad h) (Rg ad) (some (.int rz))) args s 0 0 (Rg ad)) (F0 m 59 ls [.int s0, .int s1]) := by
  unfold fX5_isThere_59 at hf
  refine lv_icmp_ge (tgt := 66) b.1 b.2.1 dX5_isThere_59 (by decide) (fun c1 => ?_) (fun c1 => ?_)
  · have hf := oI_t c1 hf
    refine lv_iconst (v := 0) b.1 b.2.1 dX5_isThere_66 (by decide) ?_
    cases hf
    exact k_zret b hlk hr (by decide) hE (Nat.le_refl _) (Nat.le_refl _) dX5_isThere_67
  · have hf := oI_f c1 hf
    refine lv_iconst (v := 1) b.1 b.2.1 dX5_isThere_62 (by decide) ?_
    refine lv_goto (tgt := 67) b.1 b.2.1 dX5_isThere_63 (by decide) ?_
    cases hf
    exact k_zret b hlk hr (by decide) hE (Nat.le_refl _) (Nat.le_refl _) dX5_isThere_67
def fX5_isThere_39  (h : PH) (x0 : Nat) (x1 : Int32) (x2 : Int32) (s0 : Int32) (s1 : Int32) : Option (Int32) :=
  if s0 ≤ s1 then (some (0)) else (oB (fX5_secondOf x1) (fun r4 => if x2 ≤ 1 then (fX5_isThere_59  h 1 r4) else (oC (decide (hT h x0 = 6)) (fX5_isThere_59  h (hI h 642 x0) r4))))
set_option maxHeartbeats 4000000 in
theorem wfX5_isThere_39 {args : Array Value} (b : Bd p s m c cX5_isThere 3 RX5 D aC) (hlk : meth.locks = false) (hr : meth.sig.returnType = some .boolean) {Z : State → Prop} (zs : Z s) (zk : ZOK Z (Rg ad)) {rz : Int32} {h : PH} {x0 : Nat} {x1 : Int32} {x2 : Int32} {s0 : Int32} {s1 : Int32}  {H : Heap} {locs : List Loc} {ls : Array Slot} (hf : fX5_isThere_39 h x0 x1 x2 s0 s1 = some rz) (hE : CE (EX D aC ad h) (Rg ad) s H locs) (hl : lv_has ls 3 [(0, .ref (ad x0)), (1, .int x1), (2, .int x2)]) : W p l e (RM 1 21 0 0) s m args below meth c H locs 0 0 (MQ below (PQ (EX D aC ad h) (Rg ad) (some (.int rz))) args s 0 0 (Rg ad)) (F0 m 39 ls [.int s0, .int s1]) := by
  unfold fX5_isThere_39 at hf
  refine lv_icmp_ge (tgt := 66) b.1 b.2.1 dX5_isThere_39 (by decide) (fun c2 => ?_) (fun c2 => ?_)
  · have hf := oI_t c2 hf
    refine lv_iconst (v := 0) b.1 b.2.1 dX5_isThere_66 (by decide) ?_
    cases hf
    exact k_zret b hlk hr (by decide) hE (Nat.le_refl _) (Nat.le_refl _) dX5_isThere_67
  · have hf := oI_f c2 hf
    refine lv_iload_n b.1 b.2.1 dX5_isThere_42 rfl (lv_at hl 1 rfl) ?_
    obtain ⟨r4, hc3, hf⟩ := oB_s hf
    refine k_callS0 b zs zk hE (CX5_secondOf l D aC zk hc3) mc_X5_secondOf (in4 155 rfl rfl) mt_X5_secondOf ini_RX5 ok_X5_secondOf ⟨Nat.le_of_ble_eq_true rfl, Nat.le_of_ble_eq_true rfl⟩ rfl hl.1 rfl (k_room _ (by exact Nat.le_of_ble_eq_true rfl)) ⟨Nat.le_refl _, Nat.le_refl _⟩ dX5_isThere_43 (fun H locs hE => ?_)
    refine lv_iload_n b.1 b.2.1 dX5_isThere_46 rfl (lv_at hl 2 rfl) ?_
    refine lv_iconst (v := 1) b.1 b.2.1 dX5_isThere_47 (by decide) ?_
    refine lv_icmp_le (tgt := 58) b.1 b.2.1 dX5_isThere_48 (by decide) (fun c5 => ?_) (fun c5 => ?_)
    · have hf := oI_t c5 hf
      refine lv_iconst (v := 1) b.1 b.2.1 dX5_isThere_58 (by decide) ?_
      exact wfX5_isThere_59 b hlk hr zs zk  hf hE (lv_sub hl [] rfl)
    · have hf := oI_f c5 hf
      refine lv_aload_n b.1 b.2.1 dX5_isThere_51 rfl (lv_at hl 0 rfl) ?_
      obtain ⟨t6, hf⟩ := oC_s hf
      have t6 := of_decide_eq_true t6
      refine gX5_75 (x := (some x0)) b hE rfl t6 dX5_isThere_52 ?_
      refine lv_goto (tgt := 59) b.1 b.2.1 dX5_isThere_55 (by decide) ?_
      exact wfX5_isThere_59 b hlk hr zs zk  hf hE (lv_sub hl [] rfl)
def fX5_isThere_0  (h : PH) (x0 : Nat) (x1 : Int32) : Option (Int32) :=
  oC (decide (hT h x0 = 6)) (oB (fX5_wordOf x1) (fun r9 => oN (hR h 640 x0) (fun a10 => oC (decide (hT h a10 = 2)) (oB (fX1_placesOf h a10 r9) (fun r13 => oB (fX5_wordOf x1) (fun r15 => if (hI h 643 x0) ≤ r15 then (some (0)) else (oB (fX5_firstOf x1) (fun r18 => if r13 ≤ 0 then (fX5_isThere_39  h x0 x1 r13 1 r18) else (fX5_isThere_39  h x0 x1 r13 (hI h 642 x0) r18)))))))))
set_option maxHeartbeats 4000000 in
theorem wfX5_isThere_0 {args : Array Value} (b : Bd p s m c cX5_isThere 3 RX5 D aC) (hlk : meth.locks = false) (hr : meth.sig.returnType = some .boolean) {Z : State → Prop} (zs : Z s) (zk : ZOK Z (Rg ad)) {rz : Int32} {h : PH} {x0 : Nat} {x1 : Int32}  {H : Heap} {locs : List Loc} {ls : Array Slot} (hf : fX5_isThere_0 h x0 x1 = some rz) (hE : CE (EX D aC ad h) (Rg ad) s H locs) (hl : lv_has ls 3 [(0, .ref (ad x0)), (1, .int x1)]) : W p l e (RM 1 21 0 0) s m args below meth c H locs 0 0 (MQ below (PQ (EX D aC ad h) (Rg ad) (some (.int rz))) args s 0 0 (Rg ad)) (F0 m 0 ls []) := by
  unfold fX5_isThere_0 at hf
  refine lv_aload_n b.1 b.2.1 dX5_isThere_0 rfl (lv_at hl 0 rfl) ?_
  obtain ⟨t7, hf⟩ := oC_s hf
  have t7 := of_decide_eq_true t7
  refine gX5_50 (x := (some x0)) b hE rfl t7 dX5_isThere_1 ?_
  refine lv_iload_n b.1 b.2.1 dX5_isThere_4 rfl (lv_at hl 1 rfl) ?_
  obtain ⟨r9, hc8, hf⟩ := oB_s hf
  refine k_callS0 b zs zk hE (CX5_wordOf l D aC zk hc8) mc_X5_wordOf (in4 148 rfl rfl) mt_X5_wordOf ini_RX5 ok_X5_wordOf ⟨Nat.le_of_ble_eq_true rfl, Nat.le_of_ble_eq_true rfl⟩ rfl hl.1 rfl (k_room _ (by exact Nat.le_of_ble_eq_true rfl)) ⟨Nat.le_refl _, Nat.le_refl _⟩ dX5_isThere_5 (fun H locs hE => ?_)
  obtain ⟨a10, ea10, hf⟩ := oN_s hf
  obtain ⟨t11, hf⟩ := oC_s hf
  have t11 := of_decide_eq_true t11
  obtain ⟨r13, hc12, hf⟩ := oB_s hf
  refine k_stk [.int r9] ea10 ?_
  refine k_callV0 (C := RX1) b zs zk hE (CX1_placesOf l D aC ad zk hc12) mc_X1_placesOf (in4 151 rfl rfl) mi_X1_placesOf ms_X1_placesOf ini_RX1 ok_X1_placesOf (x_recv b hE (ci := 1) rfl (by decide) t11) ⟨Nat.le_of_ble_eq_true rfl, Nat.le_of_ble_eq_true rfl⟩ rfl hl.1 rfl (k_room _ (by exact Nat.le_of_ble_eq_true rfl)) ⟨Nat.le_refl _, Nat.le_refl _⟩ dX5_isThere_8 (fun H locs hE => ?_)
  refine lv_istore_n (lv' := [(2, .int r13), (0, .ref (ad x0)), (1, .int x1)]) b.1 b.2.1 dX5_isThere_11 rfl hl (by decide) rfl (fun ls hl => ?_)
  refine lv_iload_n b.1 b.2.1 dX5_isThere_12 rfl (lv_at hl 2 rfl) ?_
  obtain ⟨r15, hc14, hf⟩ := oB_s hf
  refine k_callS0 b zs zk hE (CX5_wordOf l D aC zk hc14) mc_X5_wordOf (in4 148 rfl rfl) mt_X5_wordOf ini_RX5 ok_X5_wordOf ⟨Nat.le_of_ble_eq_true rfl, Nat.le_of_ble_eq_true rfl⟩ rfl hl.1 rfl (k_room _ (by exact Nat.le_of_ble_eq_true rfl)) ⟨Nat.le_refl _, Nat.le_refl _⟩ dX5_isThere_13 (fun H locs hE => ?_)
  refine lv_aload_n b.1 b.2.1 dX5_isThere_16 rfl (lv_at hl 1 rfl) ?_
  refine gX5_80 (x := (some x0)) b hE rfl t7 dX5_isThere_17 ?_
  refine lv_icmp_ge (tgt := 66) b.1 b.2.1 dX5_isThere_20 (by decide) (fun c16 => ?_) (fun c16 => ?_)
  · have hf := oI_t c16 hf
    refine lv_iconst (v := 0) b.1 b.2.1 dX5_isThere_66 (by decide) ?_
    cases hf
    exact k_zret b hlk hr (by decide) hE (Nat.le_refl _) (Nat.le_refl _) dX5_isThere_67
  · have hf := oI_f c16 hf
    refine lv_iload_n b.1 b.2.1 dX5_isThere_23 rfl (lv_at hl 2 rfl) ?_
    obtain ⟨r18, hc17, hf⟩ := oB_s hf
    refine k_callS0 b zs zk hE (CX5_firstOf l D aC zk hc17) mc_X5_firstOf (in4 152 rfl rfl) mt_X5_firstOf ini_RX5 ok_X5_firstOf ⟨Nat.le_of_ble_eq_true rfl, Nat.le_of_ble_eq_true rfl⟩ rfl hl.1 rfl (k_room _ (by exact Nat.le_of_ble_eq_true rfl)) ⟨Nat.le_refl _, Nat.le_refl _⟩ dX5_isThere_24 (fun H locs hE => ?_)
    refine lv_iload_n b.1 b.2.1 dX5_isThere_27 rfl (lv_at hl 0 rfl) ?_
    refine lv_if_le (tgt := 38) b.1 b.2.1 dX5_isThere_28 (by decide) (fun c19 => ?_) (fun c19 => ?_)
    · have hf := oI_t c19 hf
      refine lv_iconst (v := 1) b.1 b.2.1 dX5_isThere_38 (by decide) ?_
      exact wfX5_isThere_39 b hlk hr zs zk  hf hE (lv_sub hl [1, 2, 0] rfl)
    · have hf := oI_f c19 hf
      refine lv_aload_n b.1 b.2.1 dX5_isThere_31 rfl (lv_at hl 1 rfl) ?_
      refine gX5_75 (x := (some x0)) b hE rfl t7 dX5_isThere_32 ?_
      refine lv_goto (tgt := 39) b.1 b.2.1 dX5_isThere_35 (by decide) ?_
      exact wfX5_isThere_39 b hlk hr zs zk  hf hE (lv_sub hl [1, 2, 0] rfl)
def fX5_isThere (h : PH) (x0 : Nat) (x1 : Int32) : Option (Int32) := fX5_isThere_0 h x0 x1
set_option maxHeartbeats 4000000 in
theorem CX5_isThere (l : Launch) (D : va_G) (aC : Nat → ClassId) (ad : Nat → Nat) {Z : State → Prop} (zk : ZOK Z (Rg ad)) {h : PH} {x0 : Nat} {x1 : Int32} {rz : Int32} (hf : fX5_isThere h x0 x1 = some rz) : CM l D aC Z yX5_isThere cX5_isThere 3 (some .boolean) 1 21 0 0 (EX D aC ad h) [.ref (ad x0), .int x1] (EX D aC ad h) (some (.int rz)) (Rg ad) := by
  refine CM.of rfl ?_
  intro p e s m below meth c b hr hlk hin2 zs hE
  refine k_ent (Nat.le_of_ble_eq_true rfl) (fun ls hl => ?_)
  exact wfX5_isThere_0 b hlk hr zs zk hf hE (lv_sub hl [0, 1] rfl)
theorem dX5_begin_0 : decode cX5_begin 0 = .ok (.aload_n 0, 1) := by decide +kernel
theorem dX5_begin_1 : decode cX5_begin 1 = .ok (.aload_n 0, 1) := by decide +kernel
theorem dX5_begin_2 : decode cX5_begin 2 = .ok (.getfield 50, 3) := by decide +kernel
theorem dX5_begin_5 : decode cX5_begin 5 = .ok (.getfield 63, 3) := by decide +kernel
theorem dX5_begin_8 : decode cX5_begin 8 = .ok (.getfield 69, 3) := by decide +kernel
theorem dX5_begin_11 : decode cX5_begin 11 = .ok (.putfield 75, 3) := by decide +kernel
theorem dX5_begin_14 : decode cX5_begin 14 = .ok (.aload_n 0, 1) := by decide +kernel
theorem dX5_begin_15 : decode cX5_begin 15 = .ok (.aload_n 0, 1) := by decide +kernel
theorem dX5_begin_16 : decode cX5_begin 16 = .ok (.getfield 50, 3) := by decide +kernel
theorem dX5_begin_19 : decode cX5_begin 19 = .ok (.getfield 77, 3) := by decide +kernel
theorem dX5_begin_22 : decode cX5_begin 22 = .ok (.getfield 69, 3) := by decide +kernel
theorem dX5_begin_25 : decode cX5_begin 25 = .ok (.putfield 80, 3) := by decide +kernel
theorem dX5_begin_28 : decode cX5_begin 28 = .ok (.aload_n 0, 1) := by decide +kernel
theorem dX5_begin_29 : decode cX5_begin 29 = .ok (.aload_n 0, 1) := by decide +kernel
theorem dX5_begin_30 : decode cX5_begin 30 = .ok (.getfield 50, 3) := by decide +kernel
theorem dX5_begin_33 : decode cX5_begin 33 = .ok (.getfield 82, 3) := by decide +kernel
theorem dX5_begin_36 : decode cX5_begin 36 = .ok (.getfield 69, 3) := by decide +kernel
theorem dX5_begin_39 : decode cX5_begin 39 = .ok (.putfield 85, 3) := by decide +kernel
theorem dX5_begin_42 : decode cX5_begin 42 = .ok (.aload_n 0, 1) := by decide +kernel
theorem dX5_begin_43 : decode cX5_begin 43 = .ok (.iconst 0, 1) := by decide +kernel
theorem dX5_begin_44 : decode cX5_begin 44 = .ok (.putfield 87, 3) := by decide +kernel
theorem dX5_begin_47 : decode cX5_begin 47 = .ok (.aload_n 0, 1) := by decide +kernel
theorem dX5_begin_48 : decode cX5_begin 48 = .ok (.iconst 0, 1) := by decide +kernel
theorem dX5_begin_49 : decode cX5_begin 49 = .ok (.putfield 90, 3) := by decide +kernel
theorem dX5_begin_52 : decode cX5_begin 52 = .ok (.aload_n 0, 1) := by decide +kernel
theorem dX5_begin_53 : decode cX5_begin 53 = .ok (.getfield 9, 3) := by decide +kernel
theorem dX5_begin_56 : decode cX5_begin 56 = .ok (.iconst 0, 1) := by decide +kernel
theorem dX5_begin_57 : decode cX5_begin 57 = .ok (.invokestatic 91, 3) := by decide +kernel
theorem dX5_begin_60 : decode cX5_begin 60 = .ok (.aload_n 0, 1) := by decide +kernel
theorem dX5_begin_61 : decode cX5_begin 61 = .ok (.getfield 19, 3) := by decide +kernel
theorem dX5_begin_64 : decode cX5_begin 64 = .ok (.iconst (-1), 1) := by decide +kernel
theorem dX5_begin_65 : decode cX5_begin 65 = .ok (.invokestatic 91, 3) := by decide +kernel
theorem dX5_begin_68 : decode cX5_begin 68 = .ok (.aload_n 0, 1) := by decide +kernel
theorem dX5_begin_69 : decode cX5_begin 69 = .ok (.getfield 40, 3) := by decide +kernel
theorem dX5_begin_72 : decode cX5_begin 72 = .ok (.iconst 0, 1) := by decide +kernel
theorem dX5_begin_73 : decode cX5_begin 73 = .ok (.invokestatic 91, 3) := by decide +kernel
theorem dX5_begin_76 : decode cX5_begin 76 = .ok (.iconst 0, 1) := by decide +kernel
theorem dX5_begin_77 : decode cX5_begin 77 = .ok (.istore_n 1, 1) := by decide +kernel
theorem dX5_begin_78 : decode cX5_begin 78 = .ok (.iload_n 1, 1) := by decide +kernel
theorem dX5_begin_79 : decode cX5_begin 79 = .ok (.sipush 600, 3) := by decide +kernel
theorem dX5_begin_82 : decode cX5_begin 82 = .ok (.if_icmp .ge 29, 3) := by decide +kernel
theorem dX5_begin_85 : decode cX5_begin 85 = .ok (.aload_n 0, 1) := by decide +kernel
theorem dX5_begin_86 : decode cX5_begin 86 = .ok (.getfield 15, 3) := by decide +kernel
theorem dX5_begin_89 : decode cX5_begin 89 = .ok (.iload_n 1, 1) := by decide +kernel
theorem dX5_begin_90 : decode cX5_begin 90 = .ok (.aload_n 0, 1) := by decide +kernel
theorem dX5_begin_91 : decode cX5_begin 91 = .ok (.iload_n 1, 1) := by decide +kernel
theorem dX5_begin_92 : decode cX5_begin 92 = .ok (.invokevirtual 97, 3) := by decide +kernel
theorem dX5_begin_95 : decode cX5_begin 95 = .ok (.ifCond .eq 7, 3) := by decide +kernel
theorem dX5_begin_98 : decode cX5_begin 98 = .ok (.iconst 2, 1) := by decide +kernel
theorem dX5_begin_99 : decode cX5_begin 99 = .ok (.goto 4, 3) := by decide +kernel
theorem dX5_begin_102 : decode cX5_begin 102 = .ok (.iconst (-1), 1) := by decide +kernel
theorem dX5_begin_103 : decode cX5_begin 103 = .ok (.i2b, 1) := by decide +kernel
theorem dX5_begin_104 : decode cX5_begin 104 = .ok (.bastore, 1) := by decide +kernel
theorem dX5_begin_105 : decode cX5_begin 105 = .ok (.iinc 1 1, 3) := by decide +kernel
theorem dX5_begin_108 : decode cX5_begin 108 = .ok (.goto (-30), 3) := by decide +kernel
theorem dX5_begin_111 : decode cX5_begin 111 = .ok (.return_, 1) := by decide +kernel
def fX5_begin_103 (k78 : PH → Nat → Int32 → Option (PH)) (h : PH) (x0 : Nat) (x1 : Int32) (s0 : Int32) (s1 : Int32) (s2 : Option Nat) : Option (PH) :=
  oN s2 (fun a1 => oC (decide (hT h a1 = 100)) (oC (ix s1 (hN h a1)) (oL (sA h a1 (Int32.toNatClampNeg s1) (Int8.toInt32 (Int32.toInt8 (Int8.toInt32 (Int32.toInt8 s0))))) (fun h4 => oL (x1 + 1) (fun y5 => k78 h4 x0 y5)))))
set_option maxHeartbeats 4000000 in
theorem wfX5_begin_103 {args : Array Value} (b : Bd p s m c cX5_begin 2 RX5 D aC) (hlk : meth.locks = false) (hr : meth.sig.returnType = none) {Z : State → Prop} (zs : Z s) (zk : ZOK Z (Rg ad)) {hz : PH} {k78 : PH → Nat → Int32 → Option (PH)} (H78 : ∀ (h : PH) (x0 : Nat) (x1 : Int32), ∀ (H : Heap) (locs : List Loc) (ls : Array Slot), k78 h x0 x1 = some hz → CE (EX D aC ad h) (Rg ad) s H locs → lv_has ls 2 [(0, .ref (ad x0)), (1, .int x1)] → W p l e (RM 2 43 0 0) s m args below meth c H locs 0 0 (MQ below (PQ (EX D aC ad hz) (Rg ad) none) args s 0 0 (Rg ad)) (F0 m 78 ls [])) {h : PH} {x0 : Nat} {x1 : Int32} {s0 : Int32} {s1 : Int32} {s2 : Option Nat}  {H : Heap} {locs : List Loc} {ls : Array Slot} (hf : fX5_begin_103 k78 h x0 x1 s0 s1 s2 = some hz) (hE : CE (EX D aC ad h) (Rg ad) s H locs) (hl : lv_has ls 2 [(0, .ref (ad x0)), (1, .int x1)]) : W p l e (RM 2 43 0 0) s m args below meth c H locs 0 0 (MQ below (PQ (EX D aC ad hz) (Rg ad) none) args s 0 0 (Rg ad)) (F0 m 103 ls [.int s0, .int s1, va_rf (Option.map ad s2)]) := by
  unfold fX5_begin_103 at hf
  refine lv_i2b b.1 b.2.1 dX5_begin_103 rfl ?_
  obtain ⟨a1, ea1, hf⟩ := oN_s hf
  obtain ⟨t2, hf⟩ := oC_s hf
  have t2 := of_decide_eq_true t2
  obtain ⟨g3, hf⟩ := oC_s hf
  obtain ⟨h4, eh4, hf⟩ := oL_s hf
  refine q_bast (x := s2) b hE ea1 t2 g3 eh4 dX5_begin_104 (fun H locs hE => ?_)
  obtain ⟨y5, ey5, hf⟩ := oL_s hf
  refine lv_iinc (v := y5) (lv' := [(1, .int y5), (0, .ref (ad x0))]) b.1 b.2.1 dX5_begin_105 hl (k := 1) rfl (by rw [ey5]; rfl) (by decide) rfl (fun ls hl => ?_)
  refine lv_goto (tgt := 78) b.1 b.2.1 dX5_begin_108 (by decide) ?_
  exact H78 h4 x0 y5 _ _ _ hf hE (lv_sub hl [1, 0] rfl)
def fX5_begin_78F (k78 : PH → Nat → Int32 → Option (PH)) (h : PH) (x0 : Nat) (x1 : Int32) : Option (PH) :=
  if 600 ≤ x1 then (some (h)) else (oC (decide (hT h x0 = 6)) (oB (fX5_isThere h x0 x1) (fun r9 => if r9 = 0 then (fX5_begin_103 k78 h x0 x1 (-1) x1 (hR h 646 x0)) else (fX5_begin_103 k78 h x0 x1 2 x1 (hR h 646 x0)))))
set_option maxHeartbeats 4000000 in
theorem wfX5_begin_78F {args : Array Value} (b : Bd p s m c cX5_begin 2 RX5 D aC) (hlk : meth.locks = false) (hr : meth.sig.returnType = none) {Z : State → Prop} (zs : Z s) (zk : ZOK Z (Rg ad)) {hz : PH} {k78 : PH → Nat → Int32 → Option (PH)} (H78 : ∀ (h : PH) (x0 : Nat) (x1 : Int32), ∀ (H : Heap) (locs : List Loc) (ls : Array Slot), k78 h x0 x1 = some hz → CE (EX D aC ad h) (Rg ad) s H locs → lv_has ls 2 [(0, .ref (ad x0)), (1, .int x1)] → W p l e (RM 2 43 0 0) s m args below meth c H locs 0 0 (MQ below (PQ (EX D aC ad hz) (Rg ad) none) args s 0 0 (Rg ad)) (F0 m 78 ls [])) {h : PH} {x0 : Nat} {x1 : Int32}  {H : Heap} {locs : List Loc} {ls : Array Slot} (hf : fX5_begin_78F k78 h x0 x1 = some hz) (hE : CE (EX D aC ad h) (Rg ad) s H locs) (hl : lv_has ls 2 [(0, .ref (ad x0)), (1, .int x1)]) : W p l e (RM 2 43 0 0) s m args below meth c H locs 0 0 (MQ below (PQ (EX D aC ad hz) (Rg ad) none) args s 0 0 (Rg ad)) (F0 m 78 ls []) := by
  unfold fX5_begin_78F at hf
  refine lv_iload_n b.1 b.2.1 dX5_begin_78 rfl (lv_at hl 1 rfl) ?_
  refine lv_sipush (v := 600) b.1 b.2.1 dX5_begin_79 (by decide) ?_
  refine lv_icmp_ge (tgt := 111) b.1 b.2.1 dX5_begin_82 (by decide) (fun c6 => ?_) (fun c6 => ?_)
  · have hf := oI_t c6 hf
    cases hf
    exact k_vret b hlk hr hE (Nat.le_refl _) (Nat.le_refl _) dX5_begin_111
  · have hf := oI_f c6 hf
    refine lv_aload_n b.1 b.2.1 dX5_begin_85 rfl (lv_at hl 0 rfl) ?_
    obtain ⟨t7, hf⟩ := oC_s hf
    have t7 := of_decide_eq_true t7
    refine gX5_15 (x := (some x0)) b hE rfl t7 dX5_begin_86 ?_
    refine lv_iload_n b.1 b.2.1 dX5_begin_89 rfl (lv_at hl 1 rfl) ?_
    refine lv_aload_n b.1 b.2.1 dX5_begin_90 rfl (lv_at hl 0 rfl) ?_
    refine lv_iload_n b.1 b.2.1 dX5_begin_91 rfl (lv_at hl 1 rfl) ?_
    obtain ⟨r9, hc8, hf⟩ := oB_s hf
    refine k_callV0 (C := RX5) b zs zk hE (CX5_isThere l D aC ad zk hc8) mc_X5_isThere (in4 144 rfl rfl) mi_X5_isThere ms_X5_isThere ini_RX5 ok_X5_isThere (x_recv b hE (ci := 5) rfl (by decide) t7) ⟨Nat.le_of_ble_eq_true rfl, Nat.le_of_ble_eq_true rfl⟩ rfl hl.1 rfl (k_room _ (by exact Nat.le_of_ble_eq_true rfl)) ⟨Nat.le_refl _, Nat.le_refl _⟩ dX5_begin_92 (fun H locs hE => ?_)
    refine lv_if_eq (tgt := 102) b.1 b.2.1 dX5_begin_95 (by decide) (fun c10 => ?_) (fun c10 => ?_)
    · have hf := oI_t c10 hf
      refine lv_iconst (v := (-1)) b.1 b.2.1 dX5_begin_102 (by decide) ?_
      exact wfX5_begin_103 b hlk hr zs zk H78 hf hE (lv_sub hl [0, 1] rfl)
    · have hf := oI_f c10 hf
      refine lv_iconst (v := 2) b.1 b.2.1 dX5_begin_98 (by decide) ?_
      refine lv_goto (tgt := 103) b.1 b.2.1 dX5_begin_99 (by decide) ?_
      exact wfX5_begin_103 b hlk hr zs zk H78 hf hE (lv_sub hl [0, 1] rfl)
def fX5_begin_78  : Nat → PH → Nat → Int32 → Option (PH)
  | 0 => fun _ _ _ => none
  | n + 1 => fX5_begin_78F  (fX5_begin_78  n)
set_option maxHeartbeats 4000000 in
theorem wfX5_begin_78 {args : Array Value} (b : Bd p s m c cX5_begin 2 RX5 D aC) (hlk : meth.locks = false) (hr : meth.sig.returnType = none) {Z : State → Prop} (zs : Z s) (zk : ZOK Z (Rg ad)) {hz : PH} : ∀ n : Nat, ∀ (h : PH) (x0 : Nat) (x1 : Int32), ∀ (H : Heap) (locs : List Loc) (ls : Array Slot), fX5_begin_78  n h x0 x1 = some hz → CE (EX D aC ad h) (Rg ad) s H locs → lv_has ls 2 [(0, .ref (ad x0)), (1, .int x1)] → W p l e (RM 2 43 0 0) s m args below meth c H locs 0 0 (MQ below (PQ (EX D aC ad hz) (Rg ad) none) args s 0 0 (Rg ad)) (F0 m 78 ls []) := by
  intro n
  induction n with
  | zero =>
    intro h x0 x1 H locs ls hf
    have hf : (none : Option (PH)) = some _ := hf
    cases hf
  | succ n ih =>
    intro h x0 x1 H locs ls hf hE hl
    exact wfX5_begin_78F b hlk hr zs zk  ih hf hE hl
def fX5_begin_0  (h : PH) (x0 : Nat) : Option (PH) :=
  oC (decide (hT h x0 = 6)) (oN (hR h 640 x0) (fun a12 => oC (decide (hT h a12 = 2)) (oN (hR h 128 a12) (fun a14 => oC (decide (hT h a14 = 8)) (oL (sI h 642 x0 (hI h 897 a14)) (fun h16 => oN (hR h16 640 x0) (fun a18 => oC (decide (hT h16 a18 = 2)) (oN (hR h16 129 a18) (fun a20 => oC (decide (hT h16 a20 = 8)) (oL (sI h16 643 x0 (hI h16 897 a20)) (fun h22 => oN (hR h22 640 x0) (fun a24 => oC (decide (hT h22 a24 = 2)) (oN (hR h22 130 a24) (fun a26 => oC (decide (hT h22 a26 = 8)) (oL (sI h22 644 x0 (hI h22 897 a26)) (fun h28 => oL (sI h28 651 x0 0) (fun h30 => oL (sI h30 655 x0 0) (fun h32 => oB (fJ7_fill_53178 h32 (hR h32 645 x0) 0) (fun h35 => oC (decide (hT h35 x0 = 6)) (oB (fJ7_fill_53178 h35 (hR h35 647 x0) (-1)) (fun h38 => oC (decide (hT h38 x0 = 6)) (oB (fJ7_fill_53178 h38 (hR h38 656 x0) 0) (fun h41 => fX5_begin_78  FU h41 x0 0)))))))))))))))))))))))
set_option maxHeartbeats 4000000 in
theorem wfX5_begin_0 {args : Array Value} (b : Bd p s m c cX5_begin 2 RX5 D aC) (hlk : meth.locks = false) (hr : meth.sig.returnType = none) {Z : State → Prop} (zs : Z s) (zk : ZOK Z (Rg ad)) {hz : PH} {h : PH} {x0 : Nat}  {H : Heap} {locs : List Loc} {ls : Array Slot} (hf : fX5_begin_0 h x0 = some hz) (hE : CE (EX D aC ad h) (Rg ad) s H locs) (hl : lv_has ls 2 [(0, .ref (ad x0))]) : W p l e (RM 2 43 0 0) s m args below meth c H locs 0 0 (MQ below (PQ (EX D aC ad hz) (Rg ad) none) args s 0 0 (Rg ad)) (F0 m 0 ls []) := by
  unfold fX5_begin_0 at hf
  refine lv_aload_n b.1 b.2.1 dX5_begin_0 rfl (lv_at hl 0 rfl) ?_
  refine lv_aload_n b.1 b.2.1 dX5_begin_1 rfl (lv_at hl 0 rfl) ?_
  obtain ⟨t11, hf⟩ := oC_s hf
  have t11 := of_decide_eq_true t11
  refine gX5_50 (x := (some x0)) b hE rfl t11 dX5_begin_2 ?_
  obtain ⟨a12, ea12, hf⟩ := oN_s hf
  obtain ⟨t13, hf⟩ := oC_s hf
  have t13 := of_decide_eq_true t13
  refine gX5_63 (x := (hR h 640 x0)) b hE ea12 t13 dX5_begin_5 ?_
  obtain ⟨a14, ea14, hf⟩ := oN_s hf
  obtain ⟨t15, hf⟩ := oC_s hf
  have t15 := of_decide_eq_true t15
  refine gX5_69 (x := (hR h 128 a12)) b hE ea14 t15 dX5_begin_8 ?_
  obtain ⟨h16, eh16, hf⟩ := oL_s hf
  refine pX5_75 (x := (some x0)) b hE rfl t11 eh16 dX5_begin_11 (fun H locs hE => ?_)
  refine lv_aload_n b.1 b.2.1 dX5_begin_14 rfl (lv_at hl 0 rfl) ?_
  refine lv_aload_n b.1 b.2.1 dX5_begin_15 rfl (lv_at hl 0 rfl) ?_
  have t17 := tg_sI eh16 t11
  refine gX5_50 (x := (some x0)) b hE rfl t17 dX5_begin_16 ?_
  obtain ⟨a18, ea18, hf⟩ := oN_s hf
  obtain ⟨t19, hf⟩ := oC_s hf
  have t19 := of_decide_eq_true t19
  refine gX5_77 (x := (hR h16 640 x0)) b hE ea18 t19 dX5_begin_19 ?_
  obtain ⟨a20, ea20, hf⟩ := oN_s hf
  obtain ⟨t21, hf⟩ := oC_s hf
  have t21 := of_decide_eq_true t21
  refine gX5_69 (x := (hR h16 129 a18)) b hE ea20 t21 dX5_begin_22 ?_
  obtain ⟨h22, eh22, hf⟩ := oL_s hf
  refine pX5_80 (x := (some x0)) b hE rfl t17 eh22 dX5_begin_25 (fun H locs hE => ?_)
  refine lv_aload_n b.1 b.2.1 dX5_begin_28 rfl (lv_at hl 0 rfl) ?_
  refine lv_aload_n b.1 b.2.1 dX5_begin_29 rfl (lv_at hl 0 rfl) ?_
  have t23 := tg_sI eh22 t17
  refine gX5_50 (x := (some x0)) b hE rfl t23 dX5_begin_30 ?_
  obtain ⟨a24, ea24, hf⟩ := oN_s hf
  obtain ⟨t25, hf⟩ := oC_s hf
  have t25 := of_decide_eq_true t25
  refine gX5_82 (x := (hR h22 640 x0)) b hE ea24 t25 dX5_begin_33 ?_
  obtain ⟨a26, ea26, hf⟩ := oN_s hf
  obtain ⟨t27, hf⟩ := oC_s hf
  have t27 := of_decide_eq_true t27
  refine gX5_69 (x := (hR h22 130 a24)) b hE ea26 t27 dX5_begin_36 ?_
  obtain ⟨h28, eh28, hf⟩ := oL_s hf
  refine pX5_85 (x := (some x0)) b hE rfl t23 eh28 dX5_begin_39 (fun H locs hE => ?_)
  refine lv_aload_n b.1 b.2.1 dX5_begin_42 rfl (lv_at hl 0 rfl) ?_
  refine lv_iconst (v := 0) b.1 b.2.1 dX5_begin_43 (by decide) ?_
  have t29 := tg_sI eh28 t23
  obtain ⟨h30, eh30, hf⟩ := oL_s hf
  refine pX5_87 (x := (some x0)) b hE rfl t29 eh30 dX5_begin_44 (fun H locs hE => ?_)
  refine lv_aload_n b.1 b.2.1 dX5_begin_47 rfl (lv_at hl 0 rfl) ?_
  refine lv_iconst (v := 0) b.1 b.2.1 dX5_begin_48 (by decide) ?_
  have t31 := tg_sI eh30 t29
  obtain ⟨h32, eh32, hf⟩ := oL_s hf
  refine pX5_90 (x := (some x0)) b hE rfl t31 eh32 dX5_begin_49 (fun H locs hE => ?_)
  refine lv_aload_n b.1 b.2.1 dX5_begin_52 rfl (lv_at hl 0 rfl) ?_
  have t33 := tg_sI eh32 t31
  refine gX5_9 (x := (some x0)) b hE rfl t33 dX5_begin_53 ?_
  refine lv_iconst (v := 0) b.1 b.2.1 dX5_begin_56 (by decide) ?_
  obtain ⟨h35, hc34, hf⟩ := oB_s hf
  refine k_callS0 b zs zk hE (CJ7_fill_53178 l D aC ad zk hc34) mc_J7_fill_53178 (in4 141 rfl rfl) mt_J7_fill_53178 ini_RJ7 ok_J7_fill_53178 ⟨Nat.le_of_ble_eq_true rfl, Nat.le_of_ble_eq_true rfl⟩ rfl hl.1 rfl (k_room _ (by exact Nat.le_of_ble_eq_true rfl)) ⟨Nat.le_refl _, Nat.le_refl _⟩ dX5_begin_57 (fun H locs hE => ?_)
  refine lv_aload_n b.1 b.2.1 dX5_begin_60 rfl (lv_at hl 0 rfl) ?_
  obtain ⟨t36, hf⟩ := oC_s hf
  have t36 := of_decide_eq_true t36
  refine gX5_19 (x := (some x0)) b hE rfl t36 dX5_begin_61 ?_
  refine lv_iconst (v := (-1)) b.1 b.2.1 dX5_begin_64 (by decide) ?_
  obtain ⟨h38, hc37, hf⟩ := oB_s hf
  refine k_callS0 b zs zk hE (CJ7_fill_53178 l D aC ad zk hc37) mc_J7_fill_53178 (in4 141 rfl rfl) mt_J7_fill_53178 ini_RJ7 ok_J7_fill_53178 ⟨Nat.le_of_ble_eq_true rfl, Nat.le_of_ble_eq_true rfl⟩ rfl hl.1 rfl (k_room _ (by exact Nat.le_of_ble_eq_true rfl)) ⟨Nat.le_refl _, Nat.le_refl _⟩ dX5_begin_65 (fun H locs hE => ?_)
  refine lv_aload_n b.1 b.2.1 dX5_begin_68 rfl (lv_at hl 0 rfl) ?_
  obtain ⟨t39, hf⟩ := oC_s hf
  have t39 := of_decide_eq_true t39
  refine gX5_40 (x := (some x0)) b hE rfl t39 dX5_begin_69 ?_
  refine lv_iconst (v := 0) b.1 b.2.1 dX5_begin_72 (by decide) ?_
  obtain ⟨h41, hc40, hf⟩ := oB_s hf
  refine k_callS0 b zs zk hE (CJ7_fill_53178 l D aC ad zk hc40) mc_J7_fill_53178 (in4 141 rfl rfl) mt_J7_fill_53178 ini_RJ7 ok_J7_fill_53178 ⟨Nat.le_of_ble_eq_true rfl, Nat.le_of_ble_eq_true rfl⟩ rfl hl.1 rfl (k_room _ (by exact Nat.le_of_ble_eq_true rfl)) ⟨Nat.le_refl _, Nat.le_refl _⟩ dX5_begin_73 (fun H locs hE => ?_)
  refine lv_iconst (v := 0) b.1 b.2.1 dX5_begin_76 (by decide) ?_
  refine lv_istore_n (lv' := [(1, .int 0), (0, .ref (ad x0))]) b.1 b.2.1 dX5_begin_77 rfl hl (by decide) rfl (fun ls hl => ?_)
  exact wfX5_begin_78 b hlk hr zs zk  FU h41 x0 0 _ _ _ hf hE (lv_sub hl [1, 0] rfl)
def fX5_begin (h : PH) (x0 : Nat) : Option (PH) := fX5_begin_0 h x0
set_option maxHeartbeats 4000000 in
theorem CX5_begin (l : Launch) (D : va_G) (aC : Nat → ClassId) (ad : Nat → Nat) {Z : State → Prop} (zk : ZOK Z (Rg ad)) {h : PH} {x0 : Nat} {hz : PH} (hf : fX5_begin h x0 = some hz) : CM l D aC Z yX5_begin cX5_begin 2 (none) 2 43 0 0 (EX D aC ad h) [.ref (ad x0)] (EX D aC ad hz) none (Rg ad) := by
  refine CM.of rfl ?_
  intro p e s m below meth c b hr hlk hin2 zs hE
  refine k_ent (Nat.le_of_ble_eq_true rfl) (fun ls hl => ?_)
  exact wfX5_begin_0 b hlk hr zs zk hf hE (lv_sub hl [0] rfl)
theorem dX9_counts_0 : decode cX9_counts 0 = .ok (.aload_n 0, 1) := by decide +kernel
theorem dX9_counts_1 : decode cX9_counts 1 = .ok (.getfield 22, 3) := by decide +kernel
theorem dX9_counts_4 : decode cX9_counts 4 = .ok (.iload_n 1, 1) := by decide +kernel
theorem dX9_counts_5 : decode cX9_counts 5 = .ok (.if_icmp .gt 23, 3) := by decide +kernel
theorem dX9_counts_8 : decode cX9_counts 8 = .ok (.aload_n 0, 1) := by decide +kernel
theorem dX9_counts_9 : decode cX9_counts 9 = .ok (.getfield 13, 3) := by decide +kernel
theorem dX9_counts_12 : decode cX9_counts 12 = .ok (.iload_n 2, 1) := by decide +kernel
theorem dX9_counts_13 : decode cX9_counts 13 = .ok (.if_icmp .gt 15, 3) := by decide +kernel
theorem dX9_counts_16 : decode cX9_counts 16 = .ok (.iload_n 2, 1) := by decide +kernel
theorem dX9_counts_17 : decode cX9_counts 17 = .ok (.aload_n 0, 1) := by decide +kernel
theorem dX9_counts_18 : decode cX9_counts 18 = .ok (.getfield 16, 3) := by decide +kernel
theorem dX9_counts_21 : decode cX9_counts 21 = .ok (.if_icmp .ge 7, 3) := by decide +kernel
theorem dX9_counts_24 : decode cX9_counts 24 = .ok (.iconst 1, 1) := by decide +kernel
theorem dX9_counts_25 : decode cX9_counts 25 = .ok (.goto 4, 3) := by decide +kernel
theorem dX9_counts_28 : decode cX9_counts 28 = .ok (.iconst 0, 1) := by decide +kernel
theorem dX9_counts_29 : decode cX9_counts 29 = .ok (.ireturn, 1) := by decide +kernel
def fX9_counts_0  (h : PH) (x0 : Nat) (x1 : Int32) (x2 : Int32) : Option (Int32) :=
  oC (decide (hT h x0 = 10)) (if x1 < (hI h 1156 x0) then (some (0)) else (if x2 < (hI h 1153 x0) then (some (0)) else (if (hI h 1154 x0) ≤ x2 then (some (0)) else (some (1)))))
set_option maxHeartbeats 4000000 in
theorem wfX9_counts_0 {args : Array Value} (b : Bd p s m c cX9_counts 3 RX9 D aC) (hlk : meth.locks = false) (hr : meth.sig.returnType = some .boolean) {Z : State → Prop} (zs : Z s) (zk : ZOK Z (Rg ad)) {rz : Int32} {h : PH} {x0 : Nat} {x1 : Int32} {x2 : Int32}  {H : Heap} {locs : List Loc} {ls : Array Slot} (hf : fX9_counts_0 h x0 x1 x2 = some rz) (hE : CE (EX D aC ad h) (Rg ad) s H locs) (hl : lv_has ls 3 [(0, .ref (ad x0)), (1, .int x1), (2, .int x2)]) : W p l e (RM 0 0 0 0) s m args below meth c H locs 0 0 (MQ below (PQ (EX D aC ad h) (Rg ad) (some (.int rz))) args s 0 0 (Rg ad)) (F0 m 0 ls []) := by
  unfold fX9_counts_0 at hf
  refine lv_aload_n b.1 b.2.1 dX9_counts_0 rfl (lv_at hl 0 rfl) ?_
  obtain ⟨t1, hf⟩ := oC_s hf
  have t1 := of_decide_eq_true t1
  refine gX9_22 (x := (some x0)) b hE rfl t1 dX9_counts_1 ?_
  refine lv_iload_n b.1 b.2.1 dX9_counts_4 rfl (lv_at hl 1 rfl) ?_
  refine lv_icmp_gt (tgt := 28) b.1 b.2.1 dX9_counts_5 (by decide) (fun c2 => ?_) (fun c2 => ?_)
  · have hf := oI_t c2 hf
    refine lv_iconst (v := 0) b.1 b.2.1 dX9_counts_28 (by decide) ?_
    cases hf
    exact k_zret b hlk hr (by decide) hE (Nat.le_refl _) (Nat.le_refl _) dX9_counts_29
  · have hf := oI_f c2 hf
    refine lv_aload_n b.1 b.2.1 dX9_counts_8 rfl (lv_at hl 0 rfl) ?_
    refine gX9_13 (x := (some x0)) b hE rfl t1 dX9_counts_9 ?_
    refine lv_iload_n b.1 b.2.1 dX9_counts_12 rfl (lv_at hl 2 rfl) ?_
    refine lv_icmp_gt (tgt := 28) b.1 b.2.1 dX9_counts_13 (by decide) (fun c3 => ?_) (fun c3 => ?_)
    · have hf := oI_t c3 hf
      refine lv_iconst (v := 0) b.1 b.2.1 dX9_counts_28 (by decide) ?_
      cases hf
      exact k_zret b hlk hr (by decide) hE (Nat.le_refl _) (Nat.le_refl _) dX9_counts_29
    · have hf := oI_f c3 hf
      refine lv_iload_n b.1 b.2.1 dX9_counts_16 rfl (lv_at hl 2 rfl) ?_
      refine lv_aload_n b.1 b.2.1 dX9_counts_17 rfl (lv_at hl 0 rfl) ?_
      refine gX9_16 (x := (some x0)) b hE rfl t1 dX9_counts_18 ?_
      refine lv_icmp_ge (tgt := 28) b.1 b.2.1 dX9_counts_21 (by decide) (fun c4 => ?_) (fun c4 => ?_)
      · have hf := oI_t c4 hf
        refine lv_iconst (v := 0) b.1 b.2.1 dX9_counts_28 (by decide) ?_
        cases hf
        exact k_zret b hlk hr (by decide) hE (Nat.le_refl _) (Nat.le_refl _) dX9_counts_29
      · have hf := oI_f c4 hf
        refine lv_iconst (v := 1) b.1 b.2.1 dX9_counts_24 (by decide) ?_
        refine lv_goto (tgt := 29) b.1 b.2.1 dX9_counts_25 (by decide) ?_
        cases hf
        exact k_zret b hlk hr (by decide) hE (Nat.le_refl _) (Nat.le_refl _) dX9_counts_29
def fX9_counts (h : PH) (x0 : Nat) (x1 : Int32) (x2 : Int32) : Option (Int32) := fX9_counts_0 h x0 x1 x2
set_option maxHeartbeats 4000000 in
theorem CX9_counts (l : Launch) (D : va_G) (aC : Nat → ClassId) (ad : Nat → Nat) {Z : State → Prop} (zk : ZOK Z (Rg ad)) {h : PH} {x0 : Nat} {x1 : Int32} {x2 : Int32} {rz : Int32} (hf : fX9_counts h x0 x1 x2 = some rz) : CM l D aC Z yX9_counts cX9_counts 3 (some .boolean) 0 0 0 0 (EX D aC ad h) [.ref (ad x0), .int x1, .int x2] (EX D aC ad h) (some (.int rz)) (Rg ad) := by
  refine CM.of rfl ?_
  intro p e s m below meth c b hr hlk hin2 zs hE
  refine k_ent (Nat.le_of_ble_eq_true rfl) (fun ls hl => ?_)
  exact wfX9_counts_0 b hlk hr zs zk hf hE (lv_sub hl [0, 1, 2] rfl)
theorem dX5_hear_0 : decode cX5_hear 0 = .ok (.aload_n 1, 1) := by decide +kernel
theorem dX5_hear_1 : decode cX5_hear 1 = .ok (.ifnull 28, 3) := by decide +kernel
theorem dX5_hear_4 : decode cX5_hear 4 = .ok (.aload_n 1, 1) := by decide +kernel
theorem dX5_hear_5 : decode cX5_hear 5 = .ok (.iload_n 2, 1) := by decide +kernel
theorem dX5_hear_6 : decode cX5_hear 6 = .ok (.iload_n 3, 1) := by decide +kernel
theorem dX5_hear_7 : decode cX5_hear 7 = .ok (.invokevirtual 101, 3) := by decide +kernel
theorem dX5_hear_10 : decode cX5_hear 10 = .ok (.ifCond .eq 19, 3) := by decide +kernel
theorem dX5_hear_13 : decode cX5_hear 13 = .ok (.aload_n 0, 1) := by decide +kernel
theorem dX5_hear_14 : decode cX5_hear 14 = .ok (.getfield 9, 3) := by decide +kernel
theorem dX5_hear_17 : decode cX5_hear 17 = .ok (.aload_n 1, 1) := by decide +kernel
theorem dX5_hear_18 : decode cX5_hear 18 = .ok (.getfield 107, 3) := by decide +kernel
theorem dX5_hear_21 : decode cX5_hear 21 = .ok (.dup2, 1) := by decide +kernel
theorem dX5_hear_22 : decode cX5_hear 22 = .ok (.iaload, 1) := by decide +kernel
theorem dX5_hear_23 : decode cX5_hear 23 = .ok (.aload_n 1, 1) := by decide +kernel
theorem dX5_hear_24 : decode cX5_hear 24 = .ok (.getfield 110, 3) := by decide +kernel
theorem dX5_hear_27 : decode cX5_hear 27 = .ok (.iadd, 1) := by decide +kernel
theorem dX5_hear_28 : decode cX5_hear 28 = .ok (.iastore, 1) := by decide +kernel
theorem dX5_hear_29 : decode cX5_hear 29 = .ok (.return_, 1) := by decide +kernel
def fX5_hear_0  (h : PH) (x0 : Nat) (x1 : Option Nat) (x2 : Int32) (x3 : Int32) : Option (PH) :=
  if x1 = none then (some (h)) else (oN x1 (fun a2 => oC (decide (hT h a2 = 10)) (oB (fX9_counts h a2 x2 x3) (fun r5 => if r5 = 0 then (some (h)) else (oC (decide (hT h x0 = 6)) (oN (hR h 645 x0) (fun a8 => oC (decide (hT h a8 = 101)) (oC (ix (hI h 1152 a2) (hN h a8)) (oC (ix (hI h 1152 a2) (hN h a8)) (oL (sA h a8 (Int32.toNatClampNeg (hI h 1152 a2)) ((hA h a8 (Int32.toNatClampNeg (hI h 1152 a2))) + (hI h 1155 a2))) (fun h12 => some (h12))))))))))))
set_option maxHeartbeats 4000000 in
theorem wfX5_hear_0 {args : Array Value} (b : Bd p s m c cX5_hear 4 RX5 D aC) (hlk : meth.locks = false) (hr : meth.sig.returnType = none) {Z : State → Prop} (zs : Z s) (zk : ZOK Z (Rg ad)) {hz : PH} {h : PH} {x0 : Nat} {x1 : Option Nat} {x2 : Int32} {x3 : Int32}  {H : Heap} {locs : List Loc} {ls : Array Slot} (hf : fX5_hear_0 h x0 x1 x2 x3 = some hz) (hE : CE (EX D aC ad h) (Rg ad) s H locs) (hl : lv_has ls 4 [(0, .ref (ad x0)), (1, va_rf (Option.map ad x1)), (2, .int x2), (3, .int x3)]) : W p l e (RM 1 22 0 0) s m args below meth c H locs 0 0 (MQ below (PQ (EX D aC ad hz) (Rg ad) none) args s 0 0 (Rg ad)) (F0 m 0 ls []) := by
  unfold fX5_hear_0 at hf
  refine k_aload_n (x := Option.map ad x1) b dX5_hear_0 rfl (lv_at hl 1 rfl) ?_
  refine k_ifnull (x := Option.map ad x1) b dX5_hear_1 (tgt := 29) (by decide) (fun c1 => ?_) (fun c1 => ?_)
  · have hf := oI_t (Option.map_eq_none_iff.mp c1) hf
    cases hf
    exact k_vret b hlk hr hE (Nat.le_refl _) (Nat.le_refl _) dX5_hear_29
  · have hf := oI_f (fun z => c1 (Option.map_eq_none_iff.mpr z)) hf
    refine k_aload_n (x := Option.map ad x1) b dX5_hear_4 rfl (lv_at hl 1 rfl) ?_
    refine lv_iload_n b.1 b.2.1 dX5_hear_5 rfl (lv_at hl 2 rfl) ?_
    refine lv_iload_n b.1 b.2.1 dX5_hear_6 rfl (lv_at hl 3 rfl) ?_
    obtain ⟨a2, ea2, hf⟩ := oN_s hf
    obtain ⟨t3, hf⟩ := oC_s hf
    have t3 := of_decide_eq_true t3
    obtain ⟨r5, hc4, hf⟩ := oB_s hf
    refine k_stk [.int x3, .int x2] ea2 ?_
    refine k_callV0 (C := RX9) b zs zk hE (CX9_counts l D aC ad zk hc4) mc_X9_counts (in4 162 rfl rfl) mi_X9_counts ms_X9_counts ini_RX9 ok_X9_counts (x_recv b hE (ci := 9) rfl (by decide) t3) ⟨Nat.le_of_ble_eq_true rfl, Nat.le_of_ble_eq_true rfl⟩ rfl hl.1 rfl (k_room _ (by exact Nat.le_of_ble_eq_true rfl)) ⟨Nat.le_refl _, Nat.le_refl _⟩ dX5_hear_7 (fun H locs hE => ?_)
    refine lv_if_eq (tgt := 29) b.1 b.2.1 dX5_hear_10 (by decide) (fun c6 => ?_) (fun c6 => ?_)
    · have hf := oI_t c6 hf
      cases hf
      exact k_vret b hlk hr hE (Nat.le_refl _) (Nat.le_refl _) dX5_hear_29
    · have hf := oI_f c6 hf
      refine lv_aload_n b.1 b.2.1 dX5_hear_13 rfl (lv_at hl 0 rfl) ?_
      obtain ⟨t7, hf⟩ := oC_s hf
      have t7 := of_decide_eq_true t7
      refine gX5_9 (x := (some x0)) b hE rfl t7 dX5_hear_14 ?_
      refine k_aload_n (x := Option.map ad x1) b dX5_hear_17 rfl (lv_at hl 1 rfl) ?_
      refine gX5_107 (x := x1) b hE ea2 t3 dX5_hear_18 ?_
      refine lv_dup2_11 b.1 b.2.1 dX5_hear_21 rfl (rf_cat _) ?_
      obtain ⟨a8, ea8, hf⟩ := oN_s hf
      obtain ⟨t9, hf⟩ := oC_s hf
      have t9 := of_decide_eq_true t9
      obtain ⟨g10, hf⟩ := oC_s hf
      refine q_iald (x := (hR h 645 x0)) b hE ea8 t9 g10 dX5_hear_22 ?_
      refine k_aload_n (x := Option.map ad x1) b dX5_hear_23 rfl (lv_at hl 1 rfl) ?_
      refine gX5_110 (x := x1) b hE ea2 t3 dX5_hear_24 ?_
      refine lv_iadd b.1 b.2.1 dX5_hear_27 ?_
      obtain ⟨g11, hf⟩ := oC_s hf
      obtain ⟨h12, eh12, hf⟩ := oL_s hf
      refine q_iast (x := (hR h 645 x0)) b hE ea8 t9 g11 eh12 dX5_hear_28 (fun H locs hE => ?_)
      cases hf
      exact k_vret b hlk hr hE (Nat.le_refl _) (Nat.le_refl _) dX5_hear_29
def fX5_hear (h : PH) (x0 : Nat) (x1 : Option Nat) (x2 : Int32) (x3 : Int32) : Option (PH) := fX5_hear_0 h x0 x1 x2 x3
set_option maxHeartbeats 4000000 in
theorem CX5_hear (l : Launch) (D : va_G) (aC : Nat → ClassId) (ad : Nat → Nat) {Z : State → Prop} (zk : ZOK Z (Rg ad)) {h : PH} {x0 : Nat} {x1 : Option Nat} {x2 : Int32} {x3 : Int32} {hz : PH} (hf : fX5_hear h x0 x1 x2 x3 = some hz) : CM l D aC Z yX5_hear cX5_hear 4 (none) 1 22 0 0 (EX D aC ad h) [.ref (ad x0), va_rf (Option.map ad x1), .int x2, .int x3] (EX D aC ad hz) none (Rg ad) := by
  refine CM.of rfl ?_
  intro p e s m below meth c b hr hlk hin2 zs hE
  cases x1 <;> (
    refine k_ent (Nat.le_of_ble_eq_true rfl) (fun ls hl => ?_)
    exact wfX5_hear_0 b hlk hr zs zk hf hE (lv_sub hl [0, 1, 2, 3] rfl))
theorem dX5_findFacts_0 : decode cX5_findFacts 0 = .ok (.iconst 0, 1) := by decide +kernel
theorem dX5_findFacts_1 : decode cX5_findFacts 1 = .ok (.istore_n 1, 1) := by decide +kernel
theorem dX5_findFacts_2 : decode cX5_findFacts 2 = .ok (.iload_n 1, 1) := by decide +kernel
theorem dX5_findFacts_3 : decode cX5_findFacts 3 = .ok (.sipush 600, 3) := by decide +kernel
theorem dX5_findFacts_6 : decode cX5_findFacts 6 = .ok (.if_icmp .ge 70, 3) := by decide +kernel
theorem dX5_findFacts_9 : decode cX5_findFacts 9 = .ok (.aload_n 0, 1) := by decide +kernel
theorem dX5_findFacts_10 : decode cX5_findFacts 10 = .ok (.getfield 9, 3) := by decide +kernel
theorem dX5_findFacts_13 : decode cX5_findFacts 13 = .ok (.iload_n 1, 1) := by decide +kernel
theorem dX5_findFacts_14 : decode cX5_findFacts 14 = .ok (.iaload, 1) := by decide +kernel
theorem dX5_findFacts_15 : decode cX5_findFacts 15 = .ok (.iconst 3, 1) := by decide +kernel
theorem dX5_findFacts_16 : decode cX5_findFacts 16 = .ok (.if_icmp .lt 54, 3) := by decide +kernel
theorem dX5_findFacts_19 : decode cX5_findFacts 19 = .ok (.aload_n 0, 1) := by decide +kernel
theorem dX5_findFacts_20 : decode cX5_findFacts 20 = .ok (.getfield 9, 3) := by decide +kernel
theorem dX5_findFacts_23 : decode cX5_findFacts 23 = .ok (.iload_n 1, 1) := by decide +kernel
theorem dX5_findFacts_24 : decode cX5_findFacts 24 = .ok (.iaload, 1) := by decide +kernel
theorem dX5_findFacts_25 : decode cX5_findFacts 25 = .ok (.aload_n 0, 1) := by decide +kernel
theorem dX5_findFacts_26 : decode cX5_findFacts 26 = .ok (.getfield 9, 3) := by decide +kernel
theorem dX5_findFacts_29 : decode cX5_findFacts 29 = .ok (.iload_n 1, 1) := by decide +kernel
theorem dX5_findFacts_30 : decode cX5_findFacts 30 = .ok (.iconst 1, 1) := by decide +kernel
theorem dX5_findFacts_31 : decode cX5_findFacts 31 = .ok (.ixor, 1) := by decide +kernel
theorem dX5_findFacts_32 : decode cX5_findFacts 32 = .ok (.iaload, 1) := by decide +kernel
theorem dX5_findFacts_33 : decode cX5_findFacts 33 = .ok (.if_icmp .le 37, 3) := by decide +kernel
theorem dX5_findFacts_36 : decode cX5_findFacts 36 = .ok (.aload_n 0, 1) := by decide +kernel
theorem dX5_findFacts_37 : decode cX5_findFacts 37 = .ok (.getfield 15, 3) := by decide +kernel
theorem dX5_findFacts_40 : decode cX5_findFacts 40 = .ok (.iload_n 1, 1) := by decide +kernel
theorem dX5_findFacts_41 : decode cX5_findFacts 41 = .ok (.iconst 1, 1) := by decide +kernel
theorem dX5_findFacts_42 : decode cX5_findFacts 42 = .ok (.bastore, 1) := by decide +kernel
theorem dX5_findFacts_43 : decode cX5_findFacts 43 = .ok (.aload_n 0, 1) := by decide +kernel
theorem dX5_findFacts_44 : decode cX5_findFacts 44 = .ok (.getfield 15, 3) := by decide +kernel
theorem dX5_findFacts_47 : decode cX5_findFacts 47 = .ok (.iload_n 1, 1) := by decide +kernel
theorem dX5_findFacts_48 : decode cX5_findFacts 48 = .ok (.iconst 1, 1) := by decide +kernel
theorem dX5_findFacts_49 : decode cX5_findFacts 49 = .ok (.ixor, 1) := by decide +kernel
theorem dX5_findFacts_50 : decode cX5_findFacts 50 = .ok (.iconst 0, 1) := by decide +kernel
theorem dX5_findFacts_51 : decode cX5_findFacts 51 = .ok (.bastore, 1) := by decide +kernel
theorem dX5_findFacts_52 : decode cX5_findFacts 52 = .ok (.aload_n 0, 1) := by decide +kernel
theorem dX5_findFacts_53 : decode cX5_findFacts 53 = .ok (.getfield 19, 3) := by decide +kernel
theorem dX5_findFacts_56 : decode cX5_findFacts 56 = .ok (.iload_n 1, 1) := by decide +kernel
theorem dX5_findFacts_57 : decode cX5_findFacts 57 = .ok (.bipush (-2), 2) := by decide +kernel
theorem dX5_findFacts_59 : decode cX5_findFacts 59 = .ok (.iastore, 1) := by decide +kernel
theorem dX5_findFacts_60 : decode cX5_findFacts 60 = .ok (.aload_n 0, 1) := by decide +kernel
theorem dX5_findFacts_61 : decode cX5_findFacts 61 = .ok (.getfield 19, 3) := by decide +kernel
theorem dX5_findFacts_64 : decode cX5_findFacts 64 = .ok (.iload_n 1, 1) := by decide +kernel
theorem dX5_findFacts_65 : decode cX5_findFacts 65 = .ok (.iconst 1, 1) := by decide +kernel
theorem dX5_findFacts_66 : decode cX5_findFacts 66 = .ok (.ixor, 1) := by decide +kernel
theorem dX5_findFacts_67 : decode cX5_findFacts 67 = .ok (.bipush (-2), 2) := by decide +kernel
theorem dX5_findFacts_69 : decode cX5_findFacts 69 = .ok (.iastore, 1) := by decide +kernel
theorem dX5_findFacts_70 : decode cX5_findFacts 70 = .ok (.iinc 1 1, 3) := by decide +kernel
theorem dX5_findFacts_73 : decode cX5_findFacts 73 = .ok (.goto (-71), 3) := by decide +kernel
theorem dX5_findFacts_76 : decode cX5_findFacts 76 = .ok (.return_, 1) := by decide +kernel
def fX5_findFacts_70 (k2 : PH → Nat → Int32 → Option (PH)) (h : PH) (x0 : Nat) (x1 : Int32) : Option (PH) :=
  oL (x1 + 1) (fun y1 => k2 h x0 y1)
set_option maxHeartbeats 4000000 in
theorem wfX5_findFacts_70 {args : Array Value} (b : Bd p s m c cX5_findFacts 2 RX5 D aC) (hlk : meth.locks = false) (hr : meth.sig.returnType = none) {Z : State → Prop} (zs : Z s) (zk : ZOK Z (Rg ad)) {hz : PH} {k2 : PH → Nat → Int32 → Option (PH)} (H2 : ∀ (h : PH) (x0 : Nat) (x1 : Int32), ∀ (H : Heap) (locs : List Loc) (ls : Array Slot), k2 h x0 x1 = some hz → CE (EX D aC ad h) (Rg ad) s H locs → lv_has ls 2 [(0, .ref (ad x0)), (1, .int x1)] → W p l e (RM 0 0 0 0) s m args below meth c H locs 0 0 (MQ below (PQ (EX D aC ad hz) (Rg ad) none) args s 0 0 (Rg ad)) (F0 m 2 ls [])) {h : PH} {x0 : Nat} {x1 : Int32}  {H : Heap} {locs : List Loc} {ls : Array Slot} (hf : fX5_findFacts_70 k2 h x0 x1 = some hz) (hE : CE (EX D aC ad h) (Rg ad) s H locs) (hl : lv_has ls 2 [(0, .ref (ad x0)), (1, .int x1)]) : W p l e (RM 0 0 0 0) s m args below meth c H locs 0 0 (MQ below (PQ (EX D aC ad hz) (Rg ad) none) args s 0 0 (Rg ad)) (F0 m 70 ls []) := by
  unfold fX5_findFacts_70 at hf
  obtain ⟨y1, ey1, hf⟩ := oL_s hf
  refine lv_iinc (v := y1) (lv' := [(1, .int y1), (0, .ref (ad x0))]) b.1 b.2.1 dX5_findFacts_70 hl (k := 1) rfl (by rw [ey1]; rfl) (by decide) rfl (fun ls hl => ?_)
  refine lv_goto (tgt := 2) b.1 b.2.1 dX5_findFacts_73 (by decide) ?_
  exact H2 h x0 y1 _ _ _ hf hE (lv_sub hl [1, 0] rfl)
def fX5_findFacts_2F (k2 : PH → Nat → Int32 → Option (PH)) (h : PH) (x0 : Nat) (x1 : Int32) : Option (PH) :=
  if 600 ≤ x1 then (some (h)) else (oC (decide (hT h x0 = 6)) (oN (hR h 645 x0) (fun a4 => oC (decide (hT h a4 = 101)) (oC (ix x1 (hN h a4)) (if (hA h a4 (Int32.toNatClampNeg x1)) < 3 then (fX5_findFacts_70 k2 h x0 x1) else (oC (ix x1 (hN h a4)) (oC (ix (x1 ^^^ 1) (hN h a4)) (if (hA h a4 (Int32.toNatClampNeg x1)) ≤ (hA h a4 (Int32.toNatClampNeg (x1 ^^^ 1))) then (fX5_findFacts_70 k2 h x0 x1) else (oN (hR h 646 x0) (fun a11 => oC (decide (hT h a11 = 100)) (oC (ix x1 (hN h a11)) (oL (sA h a11 (Int32.toNatClampNeg x1) (Int8.toInt32 (Int32.toInt8 1))) (fun h14 => oN (hR h14 646 x0) (fun a16 => oC (decide (hT h14 a16 = 100)) (oC (ix (x1 ^^^ 1) (hN h14 a16)) (oL (sA h14 a16 (Int32.toNatClampNeg (x1 ^^^ 1)) (Int8.toInt32 (Int32.toInt8 0))) (fun h19 => oN (hR h19 647 x0) (fun a21 => oC (decide (hT h19 a21 = 101)) (oC (ix x1 (hN h19 a21)) (oL (sA h19 a21 (Int32.toNatClampNeg x1) (-2)) (fun h24 => oN (hR h24 647 x0) (fun a26 => oC (decide (hT h24 a26 = 101)) (oC (ix (x1 ^^^ 1) (hN h24 a26)) (oL (sA h24 a26 (Int32.toNatClampNeg (x1 ^^^ 1)) (-2)) (fun h29 => fX5_findFacts_70 k2 h29 x0 x1)))))))))))))))))))))))))
set_option maxHeartbeats 4000000 in
theorem wfX5_findFacts_2F {args : Array Value} (b : Bd p s m c cX5_findFacts 2 RX5 D aC) (hlk : meth.locks = false) (hr : meth.sig.returnType = none) {Z : State → Prop} (zs : Z s) (zk : ZOK Z (Rg ad)) {hz : PH} {k2 : PH → Nat → Int32 → Option (PH)} (H2 : ∀ (h : PH) (x0 : Nat) (x1 : Int32), ∀ (H : Heap) (locs : List Loc) (ls : Array Slot), k2 h x0 x1 = some hz → CE (EX D aC ad h) (Rg ad) s H locs → lv_has ls 2 [(0, .ref (ad x0)), (1, .int x1)] → W p l e (RM 0 0 0 0) s m args below meth c H locs 0 0 (MQ below (PQ (EX D aC ad hz) (Rg ad) none) args s 0 0 (Rg ad)) (F0 m 2 ls [])) {h : PH} {x0 : Nat} {x1 : Int32}  {H : Heap} {locs : List Loc} {ls : Array Slot} (hf : fX5_findFacts_2F k2 h x0 x1 = some hz) (hE : CE (EX D aC ad h) (Rg ad) s H locs) (hl : lv_has ls 2 [(0, .ref (ad x0)), (1, .int x1)]) : W p l e (RM 0 0 0 0) s m args below meth c H locs 0 0 (MQ below (PQ (EX D aC ad hz) (Rg ad) none) args s 0 0 (Rg ad)) (F0 m 2 ls []) := by
  unfold fX5_findFacts_2F at hf
  refine lv_iload_n b.1 b.2.1 dX5_findFacts_2 rfl (lv_at hl 1 rfl) ?_
  refine lv_sipush (v := 600) b.1 b.2.1 dX5_findFacts_3 (by decide) ?_
  refine lv_icmp_ge (tgt := 76) b.1 b.2.1 dX5_findFacts_6 (by decide) (fun c2 => ?_) (fun c2 => ?_)
  · have hf := oI_t c2 hf
    cases hf
    exact k_vret b hlk hr hE (Nat.le_refl _) (Nat.le_refl _) dX5_findFacts_76
  · have hf := oI_f c2 hf
    refine lv_aload_n b.1 b.2.1 dX5_findFacts_9 rfl (lv_at hl 0 rfl) ?_
    obtain ⟨t3, hf⟩ := oC_s hf
    have t3 := of_decide_eq_true t3
    refine gX5_9 (x := (some x0)) b hE rfl t3 dX5_findFacts_10 ?_
    refine lv_iload_n b.1 b.2.1 dX5_findFacts_13 rfl (lv_at hl 1 rfl) ?_
    obtain ⟨a4, ea4, hf⟩ := oN_s hf
    obtain ⟨t5, hf⟩ := oC_s hf
    have t5 := of_decide_eq_true t5
    obtain ⟨g6, hf⟩ := oC_s hf
    refine q_iald (x := (hR h 645 x0)) b hE ea4 t5 g6 dX5_findFacts_14 ?_
    refine lv_iconst (v := 3) b.1 b.2.1 dX5_findFacts_15 (by decide) ?_
    refine lv_icmp_lt (tgt := 70) b.1 b.2.1 dX5_findFacts_16 (by decide) (fun c7 => ?_) (fun c7 => ?_)
    · have hf := oI_t c7 hf
      exact wfX5_findFacts_70 b hlk hr zs zk H2 hf hE (lv_sub hl [0, 1] rfl)
    · have hf := oI_f c7 hf
      refine lv_aload_n b.1 b.2.1 dX5_findFacts_19 rfl (lv_at hl 0 rfl) ?_
      refine gX5_9 (x := (some x0)) b hE rfl t3 dX5_findFacts_20 ?_
      refine lv_iload_n b.1 b.2.1 dX5_findFacts_23 rfl (lv_at hl 1 rfl) ?_
      obtain ⟨g8, hf⟩ := oC_s hf
      refine q_iald (x := (hR h 645 x0)) b hE ea4 t5 g8 dX5_findFacts_24 ?_
      refine lv_aload_n b.1 b.2.1 dX5_findFacts_25 rfl (lv_at hl 0 rfl) ?_
      refine gX5_9 (x := (some x0)) b hE rfl t3 dX5_findFacts_26 ?_
      refine lv_iload_n b.1 b.2.1 dX5_findFacts_29 rfl (lv_at hl 1 rfl) ?_
      refine lv_iconst (v := 1) b.1 b.2.1 dX5_findFacts_30 (by decide) ?_
      refine lv_ixor b.1 b.2.1 dX5_findFacts_31 ?_
      obtain ⟨g9, hf⟩ := oC_s hf
      refine q_iald (x := (hR h 645 x0)) b hE ea4 t5 g9 dX5_findFacts_32 ?_
      refine lv_icmp_le (tgt := 70) b.1 b.2.1 dX5_findFacts_33 (by decide) (fun c10 => ?_) (fun c10 => ?_)
      · have hf := oI_t c10 hf
        exact wfX5_findFacts_70 b hlk hr zs zk H2 hf hE (lv_sub hl [0, 1] rfl)
      · have hf := oI_f c10 hf
        refine lv_aload_n b.1 b.2.1 dX5_findFacts_36 rfl (lv_at hl 0 rfl) ?_
        refine gX5_15 (x := (some x0)) b hE rfl t3 dX5_findFacts_37 ?_
        refine lv_iload_n b.1 b.2.1 dX5_findFacts_40 rfl (lv_at hl 1 rfl) ?_
        refine lv_iconst (v := 1) b.1 b.2.1 dX5_findFacts_41 (by decide) ?_
        obtain ⟨a11, ea11, hf⟩ := oN_s hf
        obtain ⟨t12, hf⟩ := oC_s hf
        have t12 := of_decide_eq_true t12
        obtain ⟨g13, hf⟩ := oC_s hf
        obtain ⟨h14, eh14, hf⟩ := oL_s hf
        refine q_bast (x := (hR h 646 x0)) b hE ea11 t12 g13 eh14 dX5_findFacts_42 (fun H locs hE => ?_)
        refine lv_aload_n b.1 b.2.1 dX5_findFacts_43 rfl (lv_at hl 0 rfl) ?_
        have t15 := tg_sA eh14 t3
        refine gX5_15 (x := (some x0)) b hE rfl t15 dX5_findFacts_44 ?_
        refine lv_iload_n b.1 b.2.1 dX5_findFacts_47 rfl (lv_at hl 1 rfl) ?_
        refine lv_iconst (v := 1) b.1 b.2.1 dX5_findFacts_48 (by decide) ?_
        refine lv_ixor b.1 b.2.1 dX5_findFacts_49 ?_
        refine lv_iconst (v := 0) b.1 b.2.1 dX5_findFacts_50 (by decide) ?_
        obtain ⟨a16, ea16, hf⟩ := oN_s hf
        obtain ⟨t17, hf⟩ := oC_s hf
        have t17 := of_decide_eq_true t17
        obtain ⟨g18, hf⟩ := oC_s hf
        obtain ⟨h19, eh19, hf⟩ := oL_s hf
        refine q_bast (x := (hR h14 646 x0)) b hE ea16 t17 g18 eh19 dX5_findFacts_51 (fun H locs hE => ?_)
        refine lv_aload_n b.1 b.2.1 dX5_findFacts_52 rfl (lv_at hl 0 rfl) ?_
        have t20 := tg_sA eh19 t15
        refine gX5_19 (x := (some x0)) b hE rfl t20 dX5_findFacts_53 ?_
        refine lv_iload_n b.1 b.2.1 dX5_findFacts_56 rfl (lv_at hl 1 rfl) ?_
        refine lv_bipush (v := (-2)) b.1 b.2.1 dX5_findFacts_57 (by decide) ?_
        obtain ⟨a21, ea21, hf⟩ := oN_s hf
        obtain ⟨t22, hf⟩ := oC_s hf
        have t22 := of_decide_eq_true t22
        obtain ⟨g23, hf⟩ := oC_s hf
        obtain ⟨h24, eh24, hf⟩ := oL_s hf
        refine q_iast (x := (hR h19 647 x0)) b hE ea21 t22 g23 eh24 dX5_findFacts_59 (fun H locs hE => ?_)
        refine lv_aload_n b.1 b.2.1 dX5_findFacts_60 rfl (lv_at hl 0 rfl) ?_
        have t25 := tg_sA eh24 t20
        refine gX5_19 (x := (some x0)) b hE rfl t25 dX5_findFacts_61 ?_
        refine lv_iload_n b.1 b.2.1 dX5_findFacts_64 rfl (lv_at hl 1 rfl) ?_
        refine lv_iconst (v := 1) b.1 b.2.1 dX5_findFacts_65 (by decide) ?_
        refine lv_ixor b.1 b.2.1 dX5_findFacts_66 ?_
        refine lv_bipush (v := (-2)) b.1 b.2.1 dX5_findFacts_67 (by decide) ?_
        obtain ⟨a26, ea26, hf⟩ := oN_s hf
        obtain ⟨t27, hf⟩ := oC_s hf
        have t27 := of_decide_eq_true t27
        obtain ⟨g28, hf⟩ := oC_s hf
        obtain ⟨h29, eh29, hf⟩ := oL_s hf
        refine q_iast (x := (hR h24 647 x0)) b hE ea26 t27 g28 eh29 dX5_findFacts_69 (fun H locs hE => ?_)
        exact wfX5_findFacts_70 b hlk hr zs zk H2 hf hE (lv_sub hl [0, 1] rfl)
def fX5_findFacts_2  : Nat → PH → Nat → Int32 → Option (PH)
  | 0 => fun _ _ _ => none
  | n + 1 => fX5_findFacts_2F  (fX5_findFacts_2  n)
set_option maxHeartbeats 4000000 in
theorem wfX5_findFacts_2 {args : Array Value} (b : Bd p s m c cX5_findFacts 2 RX5 D aC) (hlk : meth.locks = false) (hr : meth.sig.returnType = none) {Z : State → Prop} (zs : Z s) (zk : ZOK Z (Rg ad)) {hz : PH} : ∀ n : Nat, ∀ (h : PH) (x0 : Nat) (x1 : Int32), ∀ (H : Heap) (locs : List Loc) (ls : Array Slot), fX5_findFacts_2  n h x0 x1 = some hz → CE (EX D aC ad h) (Rg ad) s H locs → lv_has ls 2 [(0, .ref (ad x0)), (1, .int x1)] → W p l e (RM 0 0 0 0) s m args below meth c H locs 0 0 (MQ below (PQ (EX D aC ad hz) (Rg ad) none) args s 0 0 (Rg ad)) (F0 m 2 ls []) := by
  intro n
  induction n with
  | zero =>
    intro h x0 x1 H locs ls hf
    have hf : (none : Option (PH)) = some _ := hf
    cases hf
  | succ n ih =>
    intro h x0 x1 H locs ls hf hE hl
    exact wfX5_findFacts_2F b hlk hr zs zk  ih hf hE hl
def fX5_findFacts_0  (h : PH) (x0 : Nat) : Option (PH) :=
  fX5_findFacts_2  FU h x0 0
set_option maxHeartbeats 4000000 in
theorem wfX5_findFacts_0 {args : Array Value} (b : Bd p s m c cX5_findFacts 2 RX5 D aC) (hlk : meth.locks = false) (hr : meth.sig.returnType = none) {Z : State → Prop} (zs : Z s) (zk : ZOK Z (Rg ad)) {hz : PH} {h : PH} {x0 : Nat}  {H : Heap} {locs : List Loc} {ls : Array Slot} (hf : fX5_findFacts_0 h x0 = some hz) (hE : CE (EX D aC ad h) (Rg ad) s H locs) (hl : lv_has ls 2 [(0, .ref (ad x0))]) : W p l e (RM 0 0 0 0) s m args below meth c H locs 0 0 (MQ below (PQ (EX D aC ad hz) (Rg ad) none) args s 0 0 (Rg ad)) (F0 m 0 ls []) := by
  unfold fX5_findFacts_0 at hf
  refine lv_iconst (v := 0) b.1 b.2.1 dX5_findFacts_0 (by decide) ?_
  refine lv_istore_n (lv' := [(1, .int 0), (0, .ref (ad x0))]) b.1 b.2.1 dX5_findFacts_1 rfl hl (by decide) rfl (fun ls hl => ?_)
  exact wfX5_findFacts_2 b hlk hr zs zk  FU h x0 0 _ _ _ hf hE (lv_sub hl [1, 0] rfl)
def fX5_findFacts (h : PH) (x0 : Nat) : Option (PH) := fX5_findFacts_0 h x0
set_option maxHeartbeats 4000000 in
theorem CX5_findFacts (l : Launch) (D : va_G) (aC : Nat → ClassId) (ad : Nat → Nat) {Z : State → Prop} (zk : ZOK Z (Rg ad)) {h : PH} {x0 : Nat} {hz : PH} (hf : fX5_findFacts h x0 = some hz) : CM l D aC Z yX5_findFacts cX5_findFacts 2 (none) 0 0 0 0 (EX D aC ad h) [.ref (ad x0)] (EX D aC ad hz) none (Rg ad) := by
  refine CM.of rfl ?_
  intro p e s m below meth c b hr hlk hin2 zs hE
  refine k_ent (Nat.le_of_ble_eq_true rfl) (fun ls hl => ?_)
  exact wfX5_findFacts_0 b hlk hr zs zk hf hE (lv_sub hl [0] rfl)
theorem dX5_bettersOf_0 : decode cX5_bettersOf 0 = .ok (.iconst 0, 1) := by decide +kernel
theorem dX5_bettersOf_1 : decode cX5_bettersOf 1 = .ok (.istore_n 2, 1) := by decide +kernel
theorem dX5_bettersOf_2 : decode cX5_bettersOf 2 = .ok (.iconst 0, 1) := by decide +kernel
theorem dX5_bettersOf_3 : decode cX5_bettersOf 3 = .ok (.istore_n 3, 1) := by decide +kernel
theorem dX5_bettersOf_4 : decode cX5_bettersOf 4 = .ok (.iload_n 3, 1) := by decide +kernel
theorem dX5_bettersOf_5 : decode cX5_bettersOf 5 = .ok (.aload_n 0, 1) := by decide +kernel
theorem dX5_bettersOf_6 : decode cX5_bettersOf 6 = .ok (.getfield 50, 3) := by decide +kernel
theorem dX5_bettersOf_9 : decode cX5_bettersOf 9 = .ok (.getfield 236, 3) := by decide +kernel
theorem dX5_bettersOf_12 : decode cX5_bettersOf 12 = .ok (.getfield 69, 3) := by decide +kernel
theorem dX5_bettersOf_15 : decode cX5_bettersOf 15 = .ok (.if_icmp .ge 31, 3) := by decide +kernel
theorem dX5_bettersOf_18 : decode cX5_bettersOf 18 = .ok (.iload_n 2, 1) := by decide +kernel
theorem dX5_bettersOf_19 : decode cX5_bettersOf 19 = .ok (.aload_n 0, 1) := by decide +kernel
theorem dX5_bettersOf_20 : decode cX5_bettersOf 20 = .ok (.getfield 50, 3) := by decide +kernel
theorem dX5_bettersOf_23 : decode cX5_bettersOf 23 = .ok (.iload_n 3, 1) := by decide +kernel
theorem dX5_bettersOf_24 : decode cX5_bettersOf 24 = .ok (.iload_n 1, 1) := by decide +kernel
theorem dX5_bettersOf_25 : decode cX5_bettersOf 25 = .ok (.invokevirtual 245, 3) := by decide +kernel
theorem dX5_bettersOf_28 : decode cX5_bettersOf 28 = .ok (.ifCond .eq 9, 3) := by decide +kernel
theorem dX5_bettersOf_31 : decode cX5_bettersOf 31 = .ok (.iconst 1, 1) := by decide +kernel
theorem dX5_bettersOf_32 : decode cX5_bettersOf 32 = .ok (.iload_n 3, 1) := by decide +kernel
theorem dX5_bettersOf_33 : decode cX5_bettersOf 33 = .ok (.ishl, 1) := by decide +kernel
theorem dX5_bettersOf_34 : decode cX5_bettersOf 34 = .ok (.goto 4, 3) := by decide +kernel
theorem dX5_bettersOf_37 : decode cX5_bettersOf 37 = .ok (.iconst 0, 1) := by decide +kernel
theorem dX5_bettersOf_38 : decode cX5_bettersOf 38 = .ok (.ior, 1) := by decide +kernel
theorem dX5_bettersOf_39 : decode cX5_bettersOf 39 = .ok (.istore_n 2, 1) := by decide +kernel
theorem dX5_bettersOf_40 : decode cX5_bettersOf 40 = .ok (.iinc 3 1, 3) := by decide +kernel
theorem dX5_bettersOf_43 : decode cX5_bettersOf 43 = .ok (.goto (-39), 3) := by decide +kernel
theorem dX5_bettersOf_46 : decode cX5_bettersOf 46 = .ok (.iload_n 2, 1) := by decide +kernel
theorem dX5_bettersOf_47 : decode cX5_bettersOf 47 = .ok (.ireturn, 1) := by decide +kernel
def fX5_bettersOf_38 (k4 : PH → Nat → Int32 → Int32 → Int32 → Option (Int32)) (h : PH) (x0 : Nat) (x1 : Int32) (x3 : Int32) (s0 : Int32) (s1 : Int32) : Option (Int32) :=
  oL (s1 ||| s0) (fun y1 => oL (x3 + 1) (fun y2 => k4 h x0 x1 y1 y2))
set_option maxHeartbeats 4000000 in
theorem wfX5_bettersOf_38 {args : Array Value} (b : Bd p s m c cX5_bettersOf 4 RX5 D aC) (hlk : meth.locks = false) (hr : meth.sig.returnType = some .int) {Z : State → Prop} (zs : Z s) (zk : ZOK Z (Rg ad)) {rz : Int32} {k4 : PH → Nat → Int32 → Int32 → Int32 → Option (Int32)} (H4 : ∀ (h : PH) (x0 : Nat) (x1 : Int32) (x2 : Int32) (x3 : Int32), ∀ (H : Heap) (locs : List Loc) (ls : Array Slot), k4 h x0 x1 x2 x3 = some rz → CE (EX D aC ad h) (Rg ad) s H locs → lv_has ls 4 [(0, .ref (ad x0)), (1, .int x1), (2, .int x2), (3, .int x3)] → W p l e (RM 2 50 0 0) s m args below meth c H locs 0 0 (MQ below (PQ (EX D aC ad h) (Rg ad) (some (.int rz))) args s 0 0 (Rg ad)) (F0 m 4 ls [])) {h : PH} {x0 : Nat} {x1 : Int32} {x3 : Int32} {s0 : Int32} {s1 : Int32}  {H : Heap} {locs : List Loc} {ls : Array Slot} (hf : fX5_bettersOf_38 k4 h x0 x1 x3 s0 s1 = some rz) (hE : CE (EX D aC ad h) (Rg ad) s H locs) (hl : lv_has ls 4 [(0, .ref (ad x0)), (1, .int x1), (3, .int x3)]) : W p l e (RM 2 50 0 0) s m args below meth c H locs 0 0 (MQ below (PQ (EX D aC ad h) (Rg ad) (some (.int rz))) args s 0 0 (Rg ad)) (F0 m 38 ls [.int s0, .int s1]) := by
  unfold fX5_bettersOf_38 at hf
  refine lv_ior b.1 b.2.1 dX5_bettersOf_38 ?_
  obtain ⟨y1, ey1, hf⟩ := oL_s hf
  refine k_nmI ey1 ?_
  refine lv_istore_n (lv' := [(2, .int y1), (0, .ref (ad x0)), (1, .int x1), (3, .int x3)]) b.1 b.2.1 dX5_bettersOf_39 rfl hl (by decide) rfl (fun ls hl => ?_)
  obtain ⟨y2, ey2, hf⟩ := oL_s hf
  refine lv_iinc (v := y2) (lv' := [(3, .int y2), (2, .int y1), (0, .ref (ad x0)), (1, .int x1)]) b.1 b.2.1 dX5_bettersOf_40 hl (k := 3) rfl (by rw [ey2]; rfl) (by decide) rfl (fun ls hl => ?_)
  refine lv_goto (tgt := 4) b.1 b.2.1 dX5_bettersOf_43 (by decide) ?_
  exact H4 h x0 x1 y1 y2 _ _ _ hf hE (lv_sub hl [2, 3, 1, 0] rfl)
def fX5_bettersOf_4F (k4 : PH → Nat → Int32 → Int32 → Int32 → Option (Int32)) (h : PH) (x0 : Nat) (x1 : Int32) (x2 : Int32) (x3 : Int32) : Option (Int32) :=
  oC (decide (hT h x0 = 6)) (oN (hR h 640 x0) (fun a4 => oC (decide (hT h a4 = 2)) (oN (hR h 132 a4) (fun a6 => oC (decide (hT h a6 = 8)) (if (hI h 897 a6) ≤ x3 then (some (x2)) else (oB (fX1_isAbove h a4 x3 x1) (fun r10 => if r10 = 0 then (fX5_bettersOf_38 k4 h x0 x1 x3 0 x2) else (fX5_bettersOf_38 k4 h x0 x1 x3 (1 <<< (x3 &&& 31)) x2))))))))
set_option maxHeartbeats 4000000 in
theorem wfX5_bettersOf_4F {args : Array Value} (b : Bd p s m c cX5_bettersOf 4 RX5 D aC) (hlk : meth.locks = false) (hr : meth.sig.returnType = some .int) {Z : State → Prop} (zs : Z s) (zk : ZOK Z (Rg ad)) {rz : Int32} {k4 : PH → Nat → Int32 → Int32 → Int32 → Option (Int32)} (H4 : ∀ (h : PH) (x0 : Nat) (x1 : Int32) (x2 : Int32) (x3 : Int32), ∀ (H : Heap) (locs : List Loc) (ls : Array Slot), k4 h x0 x1 x2 x3 = some rz → CE (EX D aC ad h) (Rg ad) s H locs → lv_has ls 4 [(0, .ref (ad x0)), (1, .int x1), (2, .int x2), (3, .int x3)] → W p l e (RM 2 50 0 0) s m args below meth c H locs 0 0 (MQ below (PQ (EX D aC ad h) (Rg ad) (some (.int rz))) args s 0 0 (Rg ad)) (F0 m 4 ls [])) {h : PH} {x0 : Nat} {x1 : Int32} {x2 : Int32} {x3 : Int32}  {H : Heap} {locs : List Loc} {ls : Array Slot} (hf : fX5_bettersOf_4F k4 h x0 x1 x2 x3 = some rz) (hE : CE (EX D aC ad h) (Rg ad) s H locs) (hl : lv_has ls 4 [(0, .ref (ad x0)), (1, .int x1), (2, .int x2), (3, .int x3)]) : W p l e (RM 2 50 0 0) s m args below meth c H locs 0 0 (MQ below (PQ (EX D aC ad h) (Rg ad) (some (.int rz))) args s 0 0 (Rg ad)) (F0 m 4 ls []) := by
  unfold fX5_bettersOf_4F at hf
  refine lv_iload_n b.1 b.2.1 dX5_bettersOf_4 rfl (lv_at hl 3 rfl) ?_
  refine lv_aload_n b.1 b.2.1 dX5_bettersOf_5 rfl (lv_at hl 0 rfl) ?_
  obtain ⟨t3, hf⟩ := oC_s hf
  have t3 := of_decide_eq_true t3
  refine gX5_50 (x := (some x0)) b hE rfl t3 dX5_bettersOf_6 ?_
  obtain ⟨a4, ea4, hf⟩ := oN_s hf
  obtain ⟨t5, hf⟩ := oC_s hf
  have t5 := of_decide_eq_true t5
  refine gX5_236 (x := (hR h 640 x0)) b hE ea4 t5 dX5_bettersOf_9 ?_
  obtain ⟨a6, ea6, hf⟩ := oN_s hf
  obtain ⟨t7, hf⟩ := oC_s hf
  have t7 := of_decide_eq_true t7
  refine gX5_69 (x := (hR h 132 a4)) b hE ea6 t7 dX5_bettersOf_12 ?_
  refine lv_icmp_ge (tgt := 46) b.1 b.2.1 dX5_bettersOf_15 (by decide) (fun c8 => ?_) (fun c8 => ?_)
  · have hf := oI_t c8 hf
    refine lv_iload_n b.1 b.2.1 dX5_bettersOf_46 rfl (lv_at hl 2 rfl) ?_
    cases hf
    exact k_iret b hlk hr hE (Nat.le_refl _) (Nat.le_refl _) dX5_bettersOf_47
  · have hf := oI_f c8 hf
    refine lv_iload_n b.1 b.2.1 dX5_bettersOf_18 rfl (lv_at hl 2 rfl) ?_
    refine lv_aload_n b.1 b.2.1 dX5_bettersOf_19 rfl (lv_at hl 0 rfl) ?_
    refine gX5_50 (x := (some x0)) b hE rfl t3 dX5_bettersOf_20 ?_
    refine lv_iload_n b.1 b.2.1 dX5_bettersOf_23 rfl (lv_at hl 3 rfl) ?_
    refine lv_iload_n b.1 b.2.1 dX5_bettersOf_24 rfl (lv_at hl 1 rfl) ?_
    obtain ⟨r10, hc9, hf⟩ := oB_s hf
    refine k_stk [.int x1, .int x3] ea4 ?_
    refine k_callV0 (C := RX1) b zs zk hE (CX1_isAbove l D aC ad zk hc9) mc_X1_isAbove (in4 187 rfl rfl) mi_X1_isAbove ms_X1_isAbove ini_RX1 ok_X1_isAbove (x_recv b hE (ci := 1) rfl (by decide) t5) ⟨Nat.le_of_ble_eq_true rfl, Nat.le_of_ble_eq_true rfl⟩ rfl hl.1 rfl (k_room _ (by exact Nat.le_of_ble_eq_true rfl)) ⟨Nat.le_refl _, Nat.le_refl _⟩ dX5_bettersOf_25 (fun H locs hE => ?_)
    refine lv_if_eq (tgt := 37) b.1 b.2.1 dX5_bettersOf_28 (by decide) (fun c11 => ?_) (fun c11 => ?_)
    · have hf := oI_t c11 hf
      refine lv_iconst (v := 0) b.1 b.2.1 dX5_bettersOf_37 (by decide) ?_
      exact wfX5_bettersOf_38 b hlk hr zs zk H4 hf hE (lv_sub hl [0, 1, 3] rfl)
    · have hf := oI_f c11 hf
      refine lv_iconst (v := 1) b.1 b.2.1 dX5_bettersOf_31 (by decide) ?_
      refine lv_iload_n b.1 b.2.1 dX5_bettersOf_32 rfl (lv_at hl 3 rfl) ?_
      refine lv_ishl b.1 b.2.1 dX5_bettersOf_33 ?_
      refine lv_goto (tgt := 38) b.1 b.2.1 dX5_bettersOf_34 (by decide) ?_
      exact wfX5_bettersOf_38 b hlk hr zs zk H4 hf hE (lv_sub hl [0, 1, 3] rfl)
def fX5_bettersOf_4  : Nat → PH → Nat → Int32 → Int32 → Int32 → Option (Int32)
  | 0 => fun _ _ _ _ _ => none
  | n + 1 => fX5_bettersOf_4F  (fX5_bettersOf_4  n)
set_option maxHeartbeats 4000000 in
theorem wfX5_bettersOf_4 {args : Array Value} (b : Bd p s m c cX5_bettersOf 4 RX5 D aC) (hlk : meth.locks = false) (hr : meth.sig.returnType = some .int) {Z : State → Prop} (zs : Z s) (zk : ZOK Z (Rg ad)) {rz : Int32} : ∀ n : Nat, ∀ (h : PH) (x0 : Nat) (x1 : Int32) (x2 : Int32) (x3 : Int32), ∀ (H : Heap) (locs : List Loc) (ls : Array Slot), fX5_bettersOf_4  n h x0 x1 x2 x3 = some rz → CE (EX D aC ad h) (Rg ad) s H locs → lv_has ls 4 [(0, .ref (ad x0)), (1, .int x1), (2, .int x2), (3, .int x3)] → W p l e (RM 2 50 0 0) s m args below meth c H locs 0 0 (MQ below (PQ (EX D aC ad h) (Rg ad) (some (.int rz))) args s 0 0 (Rg ad)) (F0 m 4 ls []) := by
  intro n
  induction n with
  | zero =>
    intro h x0 x1 x2 x3 H locs ls hf
    have hf : (none : Option (Int32)) = some _ := hf
    cases hf
  | succ n ih =>
    intro h x0 x1 x2 x3 H locs ls hf hE hl
    exact wfX5_bettersOf_4F b hlk hr zs zk  ih hf hE hl
def fX5_bettersOf_0  (h : PH) (x0 : Nat) (x1 : Int32) : Option (Int32) :=
  fX5_bettersOf_4  FU h x0 x1 0 0
set_option maxHeartbeats 4000000 in
theorem wfX5_bettersOf_0 {args : Array Value} (b : Bd p s m c cX5_bettersOf 4 RX5 D aC) (hlk : meth.locks = false) (hr : meth.sig.returnType = some .int) {Z : State → Prop} (zs : Z s) (zk : ZOK Z (Rg ad)) {rz : Int32} {h : PH} {x0 : Nat} {x1 : Int32}  {H : Heap} {locs : List Loc} {ls : Array Slot} (hf : fX5_bettersOf_0 h x0 x1 = some rz) (hE : CE (EX D aC ad h) (Rg ad) s H locs) (hl : lv_has ls 4 [(0, .ref (ad x0)), (1, .int x1)]) : W p l e (RM 2 50 0 0) s m args below meth c H locs 0 0 (MQ below (PQ (EX D aC ad h) (Rg ad) (some (.int rz))) args s 0 0 (Rg ad)) (F0 m 0 ls []) := by
  unfold fX5_bettersOf_0 at hf
  refine lv_iconst (v := 0) b.1 b.2.1 dX5_bettersOf_0 (by decide) ?_
  refine lv_istore_n (lv' := [(2, .int 0), (0, .ref (ad x0)), (1, .int x1)]) b.1 b.2.1 dX5_bettersOf_1 rfl hl (by decide) rfl (fun ls hl => ?_)
  refine lv_iconst (v := 0) b.1 b.2.1 dX5_bettersOf_2 (by decide) ?_
  refine lv_istore_n (lv' := [(3, .int 0), (2, .int 0), (0, .ref (ad x0)), (1, .int x1)]) b.1 b.2.1 dX5_bettersOf_3 rfl hl (by decide) rfl (fun ls hl => ?_)
  exact wfX5_bettersOf_4 b hlk hr zs zk  FU h x0 x1 0 0 _ _ _ hf hE (lv_sub hl [2, 3, 1, 0] rfl)
def fX5_bettersOf (h : PH) (x0 : Nat) (x1 : Int32) : Option (Int32) := fX5_bettersOf_0 h x0 x1
set_option maxHeartbeats 4000000 in
theorem CX5_bettersOf (l : Launch) (D : va_G) (aC : Nat → ClassId) (ad : Nat → Nat) {Z : State → Prop} (zk : ZOK Z (Rg ad)) {h : PH} {x0 : Nat} {x1 : Int32} {rz : Int32} (hf : fX5_bettersOf h x0 x1 = some rz) : CM l D aC Z yX5_bettersOf cX5_bettersOf 4 (some .int) 2 50 0 0 (EX D aC ad h) [.ref (ad x0), .int x1] (EX D aC ad h) (some (.int rz)) (Rg ad) := by
  refine CM.of rfl ?_
  intro p e s m below meth c b hr hlk hin2 zs hE
  refine k_ent (Nat.le_of_ble_eq_true rfl) (fun ls hl => ?_)
  exact wfX5_bettersOf_0 b hlk hr zs zk hf hE (lv_sub hl [0, 1] rfl)
theorem dX6_bind_0 : decode cX6_bind 0 = .ok (.iload_n 1, 1) := by decide +kernel
theorem dX6_bind_1 : decode cX6_bind 1 = .ok (.istore 4, 2) := by decide +kernel
theorem dX6_bind_3 : decode cX6_bind 3 = .ok (.iload_n 2, 1) := by decide +kernel
theorem dX6_bind_4 : decode cX6_bind 4 = .ok (.iconst 3, 1) := by decide +kernel
theorem dX6_bind_5 : decode cX6_bind 5 = .ok (.invokestatic 42, 3) := by decide +kernel
theorem dX6_bind_8 : decode cX6_bind 8 = .ok (.iconst 1, 1) := by decide +kernel
theorem dX6_bind_9 : decode cX6_bind 9 = .ok (.isub, 1) := by decide +kernel
theorem dX6_bind_10 : decode cX6_bind 10 = .ok (.istore 5, 2) := by decide +kernel
theorem dX6_bind_12 : decode cX6_bind 12 = .ok (.iload 5, 2) := by decide +kernel
theorem dX6_bind_14 : decode cX6_bind 14 = .ok (.ifCond .lt 44, 3) := by decide +kernel
theorem dX6_bind_17 : decode cX6_bind 17 = .ok (.aload_n 0, 1) := by decide +kernel
theorem dX6_bind_18 : decode cX6_bind 18 = .ok (.getfield 9, 3) := by decide +kernel
theorem dX6_bind_21 : decode cX6_bind 21 = .ok (.iconst 5, 1) := by decide +kernel
theorem dX6_bind_22 : decode cX6_bind 22 = .ok (.iload 5, 2) := by decide +kernel
theorem dX6_bind_24 : decode cX6_bind 24 = .ok (.iadd, 1) := by decide +kernel
theorem dX6_bind_25 : decode cX6_bind 25 = .ok (.iload_n 3, 1) := by decide +kernel
theorem dX6_bind_26 : decode cX6_bind 26 = .ok (.ifCond .le 10, 3) := by decide +kernel
theorem dX6_bind_29 : decode cX6_bind 29 = .ok (.iload 4, 2) := by decide +kernel
theorem dX6_bind_31 : decode cX6_bind 31 = .ok (.iload_n 3, 1) := by decide +kernel
theorem dX6_bind_32 : decode cX6_bind 32 = .ok (.irem, 1) := by decide +kernel
theorem dX6_bind_33 : decode cX6_bind 33 = .ok (.goto 4, 3) := by decide +kernel
theorem dX6_bind_36 : decode cX6_bind 36 = .ok (.iconst 0, 1) := by decide +kernel
theorem dX6_bind_37 : decode cX6_bind 37 = .ok (.iastore, 1) := by decide +kernel
theorem dX6_bind_38 : decode cX6_bind 38 = .ok (.iload_n 3, 1) := by decide +kernel
theorem dX6_bind_39 : decode cX6_bind 39 = .ok (.ifCond .le 10, 3) := by decide +kernel
theorem dX6_bind_42 : decode cX6_bind 42 = .ok (.iload 4, 2) := by decide +kernel
theorem dX6_bind_44 : decode cX6_bind 44 = .ok (.iload_n 3, 1) := by decide +kernel
theorem dX6_bind_45 : decode cX6_bind 45 = .ok (.idiv, 1) := by decide +kernel
theorem dX6_bind_46 : decode cX6_bind 46 = .ok (.goto 4, 3) := by decide +kernel
theorem dX6_bind_49 : decode cX6_bind 49 = .ok (.iconst 0, 1) := by decide +kernel
theorem dX6_bind_50 : decode cX6_bind 50 = .ok (.istore 4, 2) := by decide +kernel
theorem dX6_bind_52 : decode cX6_bind 52 = .ok (.iinc 5 (-1), 3) := by decide +kernel
theorem dX6_bind_55 : decode cX6_bind 55 = .ok (.goto (-43), 3) := by decide +kernel
theorem dX6_bind_58 : decode cX6_bind 58 = .ok (.return_, 1) := by decide +kernel
def fX6_bind_50 (k12 : PH → Nat → Int32 → Int32 → Int32 → Option (PH)) (h : PH) (x0 : Nat) (x3 : Int32) (x5 : Int32) (s0 : Int32) : Option (PH) :=
  oL (x5 + (-1)) (fun y1 => k12 h x0 x3 s0 y1)
set_option maxHeartbeats 4000000 in
theorem wfX6_bind_50 {args : Array Value} (b : Bd p s m c cX6_bind 6 RX6 D aC) (hlk : meth.locks = false) (hr : meth.sig.returnType = none) {Z : State → Prop} (zs : Z s) (zk : ZOK Z (Rg ad)) {hz : PH} {k12 : PH → Nat → Int32 → Int32 → Int32 → Option (PH)} (H12 : ∀ (h : PH) (x0 : Nat) (x3 : Int32) (x4 : Int32) (x5 : Int32), ∀ (H : Heap) (locs : List Loc) (ls : Array Slot), k12 h x0 x3 x4 x5 = some hz → CE (EX D aC ad h) (Rg ad) s H locs → lv_has ls 6 [(0, .ref (ad x0)), (3, .int x3), (4, .int x4), (5, .int x5)] → W p l e (RM 1 24 0 0) s m args below meth c H locs 0 0 (MQ below (PQ (EX D aC ad hz) (Rg ad) none) args s 0 0 (Rg ad)) (F0 m 12 ls [])) {h : PH} {x0 : Nat} {x3 : Int32} {x5 : Int32} {s0 : Int32}  {H : Heap} {locs : List Loc} {ls : Array Slot} (hf : fX6_bind_50 k12 h x0 x3 x5 s0 = some hz) (hE : CE (EX D aC ad h) (Rg ad) s H locs) (hl : lv_has ls 6 [(0, .ref (ad x0)), (3, .int x3), (5, .int x5)]) : W p l e (RM 1 24 0 0) s m args below meth c H locs 0 0 (MQ below (PQ (EX D aC ad hz) (Rg ad) none) args s 0 0 (Rg ad)) (F0 m 50 ls [.int s0]) := by
  unfold fX6_bind_50 at hf
  refine lv_istore (lv' := [(4, .int s0), (0, .ref (ad x0)), (3, .int x3), (5, .int x5)]) b.1 b.2.1 dX6_bind_50 hl (by decide) rfl (fun ls hl => ?_)
  obtain ⟨y1, ey1, hf⟩ := oL_s hf
  refine lv_iinc (v := y1) (lv' := [(5, .int y1), (4, .int s0), (0, .ref (ad x0)), (3, .int x3)]) b.1 b.2.1 dX6_bind_52 hl (k := 3) rfl (by rw [ey1]; rfl) (by decide) rfl (fun ls hl => ?_)
  refine lv_goto (tgt := 12) b.1 b.2.1 dX6_bind_55 (by decide) ?_
  exact H12 h x0 x3 s0 y1 _ _ _ hf hE (lv_sub hl [2, 3, 1, 0] rfl)
def fX6_bind_37 (k12 : PH → Nat → Int32 → Int32 → Int32 → Option (PH)) (h : PH) (x0 : Nat) (x3 : Int32) (x4 : Int32) (x5 : Int32) (s0 : Int32) (s1 : Int32) (s2 : Option Nat) : Option (PH) :=
  oN s2 (fun a2 => oC (decide (hT h a2 = 101)) (oC (ix s1 (hN h a2)) (oL (sA h a2 (Int32.toNatClampNeg s1) s0) (fun h5 => if x3 ≤ 0 then (fX6_bind_50 k12 h5 x0 x3 x5 0) else (oC (decide (¬ x3 = 0)) (fX6_bind_50 k12 h5 x0 x3 x5 (x4 / x3)))))))
set_option maxHeartbeats 4000000 in
theorem wfX6_bind_37 {args : Array Value} (b : Bd p s m c cX6_bind 6 RX6 D aC) (hlk : meth.locks = false) (hr : meth.sig.returnType = none) {Z : State → Prop} (zs : Z s) (zk : ZOK Z (Rg ad)) {hz : PH} {k12 : PH → Nat → Int32 → Int32 → Int32 → Option (PH)} (H12 : ∀ (h : PH) (x0 : Nat) (x3 : Int32) (x4 : Int32) (x5 : Int32), ∀ (H : Heap) (locs : List Loc) (ls : Array Slot), k12 h x0 x3 x4 x5 = some hz → CE (EX D aC ad h) (Rg ad) s H locs → lv_has ls 6 [(0, .ref (ad x0)), (3, .int x3), (4, .int x4), (5, .int x5)] → W p l e (RM 1 24 0 0) s m args below meth c H locs 0 0 (MQ below (PQ (EX D aC ad hz) (Rg ad) none) args s 0 0 (Rg ad)) (F0 m 12 ls [])) {h : PH} {x0 : Nat} {x3 : Int32} {x4 : Int32} {x5 : Int32} {s0 : Int32} {s1 : Int32} {s2 : Option Nat}  {H : Heap} {locs : List Loc} {ls : Array Slot} (hf : fX6_bind_37 k12 h x0 x3 x4 x5 s0 s1 s2 = some hz) (hE : CE (EX D aC ad h) (Rg ad) s H locs) (hl : lv_has ls 6 [(0, .ref (ad x0)), (3, .int x3), (4, .int x4), (5, .int x5)]) : W p l e (RM 1 24 0 0) s m args below meth c H locs 0 0 (MQ below (PQ (EX D aC ad hz) (Rg ad) none) args s 0 0 (Rg ad)) (F0 m 37 ls [.int s0, .int s1, va_rf (Option.map ad s2)]) := by
  unfold fX6_bind_37 at hf
  obtain ⟨a2, ea2, hf⟩ := oN_s hf
  obtain ⟨t3, hf⟩ := oC_s hf
  have t3 := of_decide_eq_true t3
  obtain ⟨g4, hf⟩ := oC_s hf
  obtain ⟨h5, eh5, hf⟩ := oL_s hf
  refine q_iast (x := s2) b hE ea2 t3 g4 eh5 dX6_bind_37 (fun H locs hE => ?_)
  refine lv_iload_n b.1 b.2.1 dX6_bind_38 rfl (lv_at hl 1 rfl) ?_
  refine lv_if_le (tgt := 49) b.1 b.2.1 dX6_bind_39 (by decide) (fun c6 => ?_) (fun c6 => ?_)
  · have hf := oI_t c6 hf
    refine lv_iconst (v := 0) b.1 b.2.1 dX6_bind_49 (by decide) ?_
    exact wfX6_bind_50 b hlk hr zs zk H12 hf hE (lv_sub hl [0, 1, 3] rfl)
  · have hf := oI_f c6 hf
    refine lv_iload b.1 b.2.1 dX6_bind_42 (lv_at hl 2 rfl) ?_
    refine lv_iload_n b.1 b.2.1 dX6_bind_44 rfl (lv_at hl 1 rfl) ?_
    obtain ⟨g7, hf⟩ := oC_s hf
    refine lv_idiv b.1 b.2.1 dX6_bind_45 (of_decide_eq_true g7) ?_
    refine lv_goto (tgt := 50) b.1 b.2.1 dX6_bind_46 (by decide) ?_
    exact wfX6_bind_50 b hlk hr zs zk H12 hf hE (lv_sub hl [0, 1, 3] rfl)
def fX6_bind_12F (k12 : PH → Nat → Int32 → Int32 → Int32 → Option (PH)) (h : PH) (x0 : Nat) (x3 : Int32) (x4 : Int32) (x5 : Int32) : Option (PH) :=
  if x5 < 0 then (some (h)) else (oC (decide (hT h x0 = 7)) (if x3 ≤ 0 then (fX6_bind_37 k12 h x0 x3 x4 x5 0 (5 + x5) (hR h 769 x0)) else (oC (decide (¬ x3 = 0)) (fX6_bind_37 k12 h x0 x3 x4 x5 (x4 - x4 / x3 * x3) (5 + x5) (hR h 769 x0)))))
set_option maxHeartbeats 4000000 in
theorem wfX6_bind_12F {args : Array Value} (b : Bd p s m c cX6_bind 6 RX6 D aC) (hlk : meth.locks = false) (hr : meth.sig.returnType = none) {Z : State → Prop} (zs : Z s) (zk : ZOK Z (Rg ad)) {hz : PH} {k12 : PH → Nat → Int32 → Int32 → Int32 → Option (PH)} (H12 : ∀ (h : PH) (x0 : Nat) (x3 : Int32) (x4 : Int32) (x5 : Int32), ∀ (H : Heap) (locs : List Loc) (ls : Array Slot), k12 h x0 x3 x4 x5 = some hz → CE (EX D aC ad h) (Rg ad) s H locs → lv_has ls 6 [(0, .ref (ad x0)), (3, .int x3), (4, .int x4), (5, .int x5)] → W p l e (RM 1 24 0 0) s m args below meth c H locs 0 0 (MQ below (PQ (EX D aC ad hz) (Rg ad) none) args s 0 0 (Rg ad)) (F0 m 12 ls [])) {h : PH} {x0 : Nat} {x3 : Int32} {x4 : Int32} {x5 : Int32}  {H : Heap} {locs : List Loc} {ls : Array Slot} (hf : fX6_bind_12F k12 h x0 x3 x4 x5 = some hz) (hE : CE (EX D aC ad h) (Rg ad) s H locs) (hl : lv_has ls 6 [(0, .ref (ad x0)), (3, .int x3), (4, .int x4), (5, .int x5)]) : W p l e (RM 1 24 0 0) s m args below meth c H locs 0 0 (MQ below (PQ (EX D aC ad hz) (Rg ad) none) args s 0 0 (Rg ad)) (F0 m 12 ls []) := by
  unfold fX6_bind_12F at hf
  refine lv_iload b.1 b.2.1 dX6_bind_12 (lv_at hl 3 rfl) ?_
  refine lv_if_lt (tgt := 58) b.1 b.2.1 dX6_bind_14 (by decide) (fun c8 => ?_) (fun c8 => ?_)
  · have hf := oI_t c8 hf
    cases hf
    exact k_vret b hlk hr hE (Nat.le_refl _) (Nat.le_refl _) dX6_bind_58
  · have hf := oI_f c8 hf
    refine lv_aload_n b.1 b.2.1 dX6_bind_17 rfl (lv_at hl 0 rfl) ?_
    obtain ⟨t9, hf⟩ := oC_s hf
    have t9 := of_decide_eq_true t9
    refine gX6_9 (x := (some x0)) b hE rfl t9 dX6_bind_18 ?_
    refine lv_iconst (v := 5) b.1 b.2.1 dX6_bind_21 (by decide) ?_
    refine lv_iload b.1 b.2.1 dX6_bind_22 (lv_at hl 3 rfl) ?_
    refine lv_iadd b.1 b.2.1 dX6_bind_24 ?_
    refine lv_iload_n b.1 b.2.1 dX6_bind_25 rfl (lv_at hl 1 rfl) ?_
    refine lv_if_le (tgt := 36) b.1 b.2.1 dX6_bind_26 (by decide) (fun c10 => ?_) (fun c10 => ?_)
    · have hf := oI_t c10 hf
      refine lv_iconst (v := 0) b.1 b.2.1 dX6_bind_36 (by decide) ?_
      exact wfX6_bind_37 b hlk hr zs zk H12 hf hE (lv_sub hl [0, 1, 2, 3] rfl)
    · have hf := oI_f c10 hf
      refine lv_iload b.1 b.2.1 dX6_bind_29 (lv_at hl 2 rfl) ?_
      refine lv_iload_n b.1 b.2.1 dX6_bind_31 rfl (lv_at hl 1 rfl) ?_
      obtain ⟨g11, hf⟩ := oC_s hf
      refine lv_irem b.1 b.2.1 dX6_bind_32 (of_decide_eq_true g11) ?_
      refine lv_goto (tgt := 37) b.1 b.2.1 dX6_bind_33 (by decide) ?_
      exact wfX6_bind_37 b hlk hr zs zk H12 hf hE (lv_sub hl [0, 1, 2, 3] rfl)
def fX6_bind_12  : Nat → PH → Nat → Int32 → Int32 → Int32 → Option (PH)
  | 0 => fun _ _ _ _ _ => none
  | n + 1 => fX6_bind_12F  (fX6_bind_12  n)
set_option maxHeartbeats 4000000 in
theorem wfX6_bind_12 {args : Array Value} (b : Bd p s m c cX6_bind 6 RX6 D aC) (hlk : meth.locks = false) (hr : meth.sig.returnType = none) {Z : State → Prop} (zs : Z s) (zk : ZOK Z (Rg ad)) {hz : PH} : ∀ n : Nat, ∀ (h : PH) (x0 : Nat) (x3 : Int32) (x4 : Int32) (x5 : Int32), ∀ (H : Heap) (locs : List Loc) (ls : Array Slot), fX6_bind_12  n h x0 x3 x4 x5 = some hz → CE (EX D aC ad h) (Rg ad) s H locs → lv_has ls 6 [(0, .ref (ad x0)), (3, .int x3), (4, .int x4), (5, .int x5)] → W p l e (RM 1 24 0 0) s m args below meth c H locs 0 0 (MQ below (PQ (EX D aC ad hz) (Rg ad) none) args s 0 0 (Rg ad)) (F0 m 12 ls []) := by
  intro n
  induction n with
  | zero =>
    intro h x0 x3 x4 x5 H locs ls hf
    have hf : (none : Option (PH)) = some _ := hf
    cases hf
  | succ n ih =>
    intro h x0 x3 x4 x5 H locs ls hf hE hl
    exact wfX6_bind_12F b hlk hr zs zk  ih hf hE hl
def fX6_bind_0  (h : PH) (x0 : Nat) (x1 : Int32) (x2 : Int32) (x3 : Int32) : Option (PH) :=
  oL ((if 3 < x2 then 3 else x2) - 1) (fun y12 => fX6_bind_12  FU h x0 x3 x1 y12)
set_option maxHeartbeats 4000000 in
theorem wfX6_bind_0 {args : Array Value} (b : Bd p s m c cX6_bind 6 RX6 D aC) (hlk : meth.locks = false) (hr : meth.sig.returnType = none) {Z : State → Prop} (zs : Z s) (zk : ZOK Z (Rg ad)) {hz : PH} {h : PH} {x0 : Nat} {x1 : Int32} {x2 : Int32} {x3 : Int32}  {H : Heap} {locs : List Loc} {ls : Array Slot} (hf : fX6_bind_0 h x0 x1 x2 x3 = some hz) (hE : CE (EX D aC ad h) (Rg ad) s H locs) (hl : lv_has ls 6 [(0, .ref (ad x0)), (1, .int x1), (2, .int x2), (3, .int x3)]) : W p l e (RM 1 24 0 0) s m args below meth c H locs 0 0 (MQ below (PQ (EX D aC ad hz) (Rg ad) none) args s 0 0 (Rg ad)) (F0 m 0 ls []) := by
  unfold fX6_bind_0 at hf
  refine lv_iload_n b.1 b.2.1 dX6_bind_0 rfl (lv_at hl 1 rfl) ?_
  refine lv_istore (lv' := [(4, .int x1), (0, .ref (ad x0)), (1, .int x1), (2, .int x2), (3, .int x3)]) b.1 b.2.1 dX6_bind_1 hl (by decide) rfl (fun ls hl => ?_)
  have hl := lv_sub (l' := [(4, .int x1), (0, .ref (ad x0)), (2, .int x2), (3, .int x3)]) hl [0, 1, 3, 4] rfl
  refine lv_iload_n b.1 b.2.1 dX6_bind_3 rfl (lv_at hl 2 rfl) ?_
  refine lv_iconst (v := 3) b.1 b.2.1 dX6_bind_4 (by decide) ?_
  refine k_min b (in4 195 rfl rfl) mthmin_s mth_i mthmin_c hl.1 ⟨Nat.le_of_ble_eq_true rfl, Nat.le_of_ble_eq_true rfl⟩ (Nat.le_of_ble_eq_true rfl) ⟨Nat.le_refl _, Nat.le_refl _⟩ dX6_bind_5 ?_
  refine lv_iconst (v := 1) b.1 b.2.1 dX6_bind_8 (by decide) ?_
  refine lv_isub b.1 b.2.1 dX6_bind_9 ?_
  obtain ⟨y12, ey12, hf⟩ := oL_s hf
  refine k_nmI ey12 ?_
  refine lv_istore (lv' := [(5, .int y12), (4, .int x1), (0, .ref (ad x0)), (2, .int x2), (3, .int x3)]) b.1 b.2.1 dX6_bind_10 hl (by decide) rfl (fun ls hl => ?_)
  have hl := lv_sub (l' := [(5, .int y12), (4, .int x1), (0, .ref (ad x0)), (3, .int x3)]) hl [0, 1, 2, 4] rfl
  exact wfX6_bind_12 b hlk hr zs zk  FU h x0 x3 x1 y12 _ _ _ hf hE (lv_sub hl [2, 3, 1, 0] rfl)
def fX6_bind (h : PH) (x0 : Nat) (x1 : Int32) (x2 : Int32) (x3 : Int32) : Option (PH) := fX6_bind_0 h x0 x1 x2 x3
set_option maxHeartbeats 4000000 in
theorem CX6_bind (l : Launch) (D : va_G) (aC : Nat → ClassId) (ad : Nat → Nat) {Z : State → Prop} (zk : ZOK Z (Rg ad)) {h : PH} {x0 : Nat} {x1 : Int32} {x2 : Int32} {x3 : Int32} {hz : PH} (hf : fX6_bind h x0 x1 x2 x3 = some hz) : CM l D aC Z yX6_bind cX6_bind 6 (none) 1 24 0 0 (EX D aC ad h) [.ref (ad x0), .int x1, .int x2, .int x3] (EX D aC ad hz) none (Rg ad) := by
  refine CM.of rfl ?_
  intro p e s m below meth c b hr hlk hin2 zs hE
  refine k_ent (Nat.le_of_ble_eq_true rfl) (fun ls hl => ?_)
  exact wfX6_bind_0 b hlk hr zs zk hf hE (lv_sub hl [0, 1, 2, 3] rfl)
theorem dX6_personOf_0 : decode cX6_personOf 0 = .ok (.iload_n 1, 1) := by decide +kernel
theorem dX6_personOf_1 : decode cX6_personOf 1 = .ok (.ifCond .lt 21, 3) := by decide +kernel
theorem dX6_personOf_4 : decode cX6_personOf 4 = .ok (.iload_n 1, 1) := by decide +kernel
theorem dX6_personOf_5 : decode cX6_personOf 5 = .ok (.aload_n 0, 1) := by decide +kernel
theorem dX6_personOf_6 : decode cX6_personOf 6 = .ok (.getfield 9, 3) := by decide +kernel
theorem dX6_personOf_9 : decode cX6_personOf 9 = .ok (.arraylength, 1) := by decide +kernel
theorem dX6_personOf_10 : decode cX6_personOf 10 = .ok (.if_icmp .ge 12, 3) := by decide +kernel
theorem dX6_personOf_13 : decode cX6_personOf 13 = .ok (.aload_n 0, 1) := by decide +kernel
theorem dX6_personOf_14 : decode cX6_personOf 14 = .ok (.getfield 9, 3) := by decide +kernel
theorem dX6_personOf_17 : decode cX6_personOf 17 = .ok (.iload_n 1, 1) := by decide +kernel
theorem dX6_personOf_18 : decode cX6_personOf 18 = .ok (.iaload, 1) := by decide +kernel
theorem dX6_personOf_19 : decode cX6_personOf 19 = .ok (.goto 4, 3) := by decide +kernel
theorem dX6_personOf_22 : decode cX6_personOf 22 = .ok (.iconst 0, 1) := by decide +kernel
theorem dX6_personOf_23 : decode cX6_personOf 23 = .ok (.ireturn, 1) := by decide +kernel
def fX6_personOf_0  (h : PH) (x0 : Nat) (x1 : Int32) : Option (Int32) :=
  if x1 < 0 then (some (0)) else (oC (decide (hT h x0 = 7)) (oN (hR h 769 x0) (fun a3 => oC (decide (hT h a3 = 101)) (if (nI (hN h a3)) ≤ x1 then (some (0)) else (oC (ix x1 (hN h a3)) (some ((hA h a3 (Int32.toNatClampNeg x1)))))))))
set_option maxHeartbeats 4000000 in
theorem wfX6_personOf_0 {args : Array Value} (b : Bd p s m c cX6_personOf 2 RX6 D aC) (hlk : meth.locks = false) (hr : meth.sig.returnType = some .int) {Z : State → Prop} (zs : Z s) (zk : ZOK Z (Rg ad)) {rz : Int32} {h : PH} {x0 : Nat} {x1 : Int32}  {H : Heap} {locs : List Loc} {ls : Array Slot} (hf : fX6_personOf_0 h x0 x1 = some rz) (hE : CE (EX D aC ad h) (Rg ad) s H locs) (hl : lv_has ls 2 [(0, .ref (ad x0)), (1, .int x1)]) : W p l e (RM 0 0 0 0) s m args below meth c H locs 0 0 (MQ below (PQ (EX D aC ad h) (Rg ad) (some (.int rz))) args s 0 0 (Rg ad)) (F0 m 0 ls []) := by
  unfold fX6_personOf_0 at hf
  refine lv_iload_n b.1 b.2.1 dX6_personOf_0 rfl (lv_at hl 1 rfl) ?_
  refine lv_if_lt (tgt := 22) b.1 b.2.1 dX6_personOf_1 (by decide) (fun c1 => ?_) (fun c1 => ?_)
  · have hf := oI_t c1 hf
    refine lv_iconst (v := 0) b.1 b.2.1 dX6_personOf_22 (by decide) ?_
    cases hf
    exact k_iret b hlk hr hE (Nat.le_refl _) (Nat.le_refl _) dX6_personOf_23
  · have hf := oI_f c1 hf
    refine lv_iload_n b.1 b.2.1 dX6_personOf_4 rfl (lv_at hl 1 rfl) ?_
    refine lv_aload_n b.1 b.2.1 dX6_personOf_5 rfl (lv_at hl 0 rfl) ?_
    obtain ⟨t2, hf⟩ := oC_s hf
    have t2 := of_decide_eq_true t2
    refine gX6_9 (x := (some x0)) b hE rfl t2 dX6_personOf_6 ?_
    obtain ⟨a3, ea3, hf⟩ := oN_s hf
    obtain ⟨t4, hf⟩ := oC_s hf
    have t4 := of_decide_eq_true t4
    refine q_alen (x := (hR h 769 x0)) (k := 1) b hE ea3 (by decide) t4 dX6_personOf_9 ?_
    refine lv_icmp_ge (tgt := 22) b.1 b.2.1 dX6_personOf_10 (by decide) (fun c5 => ?_) (fun c5 => ?_)
    · have hf := oI_t c5 hf
      refine lv_iconst (v := 0) b.1 b.2.1 dX6_personOf_22 (by decide) ?_
      cases hf
      exact k_iret b hlk hr hE (Nat.le_refl _) (Nat.le_refl _) dX6_personOf_23
    · have hf := oI_f c5 hf
      refine lv_aload_n b.1 b.2.1 dX6_personOf_13 rfl (lv_at hl 0 rfl) ?_
      refine gX6_9 (x := (some x0)) b hE rfl t2 dX6_personOf_14 ?_
      refine lv_iload_n b.1 b.2.1 dX6_personOf_17 rfl (lv_at hl 1 rfl) ?_
      obtain ⟨g6, hf⟩ := oC_s hf
      refine q_iald (x := (hR h 769 x0)) b hE ea3 t4 g6 dX6_personOf_18 ?_
      refine lv_goto (tgt := 23) b.1 b.2.1 dX6_personOf_19 (by decide) ?_
      cases hf
      exact k_iret b hlk hr hE (Nat.le_refl _) (Nat.le_refl _) dX6_personOf_23
def fX6_personOf (h : PH) (x0 : Nat) (x1 : Int32) : Option (Int32) := fX6_personOf_0 h x0 x1
set_option maxHeartbeats 4000000 in
theorem CX6_personOf (l : Launch) (D : va_G) (aC : Nat → ClassId) (ad : Nat → Nat) {Z : State → Prop} (zk : ZOK Z (Rg ad)) {h : PH} {x0 : Nat} {x1 : Int32} {rz : Int32} (hf : fX6_personOf h x0 x1 = some rz) : CM l D aC Z yX6_personOf cX6_personOf 2 (some .int) 0 0 0 0 (EX D aC ad h) [.ref (ad x0), .int x1] (EX D aC ad h) (some (.int rz)) (Rg ad) := by
  refine CM.of rfl ?_
  intro p e s m below meth c b hr hlk hin2 zs hE
  refine k_ent (Nat.le_of_ble_eq_true rfl) (fun ls hl => ?_)
  exact wfX6_personOf_0 b hlk hr zs zk hf hE (lv_sub hl [0, 1] rfl)
theorem dX6_numberOf_0 : decode cX6_numberOf 0 = .ok (.aload_n 0, 1) := by decide +kernel
theorem dX6_numberOf_1 : decode cX6_numberOf 1 = .ok (.iload_n 1, 1) := by decide +kernel
theorem dX6_numberOf_2 : decode cX6_numberOf 2 = .ok (.iconst 4, 1) := by decide +kernel
theorem dX6_numberOf_3 : decode cX6_numberOf 3 = .ok (.idiv, 1) := by decide +kernel
theorem dX6_numberOf_4 : decode cX6_numberOf 4 = .ok (.invokevirtual 61, 3) := by decide +kernel
theorem dX6_numberOf_7 : decode cX6_numberOf 7 = .ok (.iconst 4, 1) := by decide +kernel
theorem dX6_numberOf_8 : decode cX6_numberOf 8 = .ok (.imul, 1) := by decide +kernel
theorem dX6_numberOf_9 : decode cX6_numberOf 9 = .ok (.iload_n 1, 1) := by decide +kernel
theorem dX6_numberOf_10 : decode cX6_numberOf 10 = .ok (.iconst 4, 1) := by decide +kernel
theorem dX6_numberOf_11 : decode cX6_numberOf 11 = .ok (.irem, 1) := by decide +kernel
theorem dX6_numberOf_12 : decode cX6_numberOf 12 = .ok (.iadd, 1) := by decide +kernel
theorem dX6_numberOf_13 : decode cX6_numberOf 13 = .ok (.istore_n 2, 1) := by decide +kernel
theorem dX6_numberOf_14 : decode cX6_numberOf 14 = .ok (.iload_n 2, 1) := by decide +kernel
theorem dX6_numberOf_15 : decode cX6_numberOf 15 = .ok (.ifCond .lt 27, 3) := by decide +kernel
theorem dX6_numberOf_18 : decode cX6_numberOf 18 = .ok (.iload_n 2, 1) := by decide +kernel
theorem dX6_numberOf_19 : decode cX6_numberOf 19 = .ok (.aload_n 0, 1) := by decide +kernel
theorem dX6_numberOf_20 : decode cX6_numberOf 20 = .ok (.getfield 38, 3) := by decide +kernel
theorem dX6_numberOf_23 : decode cX6_numberOf 23 = .ok (.getfield 140, 3) := by decide +kernel
theorem dX6_numberOf_26 : decode cX6_numberOf 26 = .ok (.arraylength, 1) := by decide +kernel
theorem dX6_numberOf_27 : decode cX6_numberOf 27 = .ok (.if_icmp .ge 15, 3) := by decide +kernel
theorem dX6_numberOf_30 : decode cX6_numberOf 30 = .ok (.aload_n 0, 1) := by decide +kernel
theorem dX6_numberOf_31 : decode cX6_numberOf 31 = .ok (.getfield 38, 3) := by decide +kernel
theorem dX6_numberOf_34 : decode cX6_numberOf 34 = .ok (.getfield 140, 3) := by decide +kernel
theorem dX6_numberOf_37 : decode cX6_numberOf 37 = .ok (.iload_n 2, 1) := by decide +kernel
theorem dX6_numberOf_38 : decode cX6_numberOf 38 = .ok (.iaload, 1) := by decide +kernel
theorem dX6_numberOf_39 : decode cX6_numberOf 39 = .ok (.goto 4, 3) := by decide +kernel
theorem dX6_numberOf_42 : decode cX6_numberOf 42 = .ok (.iconst 0, 1) := by decide +kernel
theorem dX6_numberOf_43 : decode cX6_numberOf 43 = .ok (.ireturn, 1) := by decide +kernel
def fX6_numberOf_0  (h : PH) (x0 : Nat) (x1 : Int32) : Option (Int32) :=
  oC (decide (hT h x0 = 7)) (oB (fX6_personOf h x0 (x1 / 4)) (fun r3 => oL ((r3 * 4) + (x1 - x1 / 4 * 4)) (fun y4 => if y4 < 0 then (some (0)) else (oN (hR h 768 x0) (fun a6 => oC (decide (hT h a6 = 2)) (oN (hR h 134 a6) (fun a8 => oC (decide (hT h a8 = 101)) (if (nI (hN h a8)) ≤ y4 then (some (0)) else (oC (ix y4 (hN h a8)) (some ((hA h a8 (Int32.toNatClampNeg y4)))))))))))))
set_option maxHeartbeats 4000000 in
theorem wfX6_numberOf_0 {args : Array Value} (b : Bd p s m c cX6_numberOf 3 RX6 D aC) (hlk : meth.locks = false) (hr : meth.sig.returnType = some .int) {Z : State → Prop} (zs : Z s) (zk : ZOK Z (Rg ad)) {rz : Int32} {h : PH} {x0 : Nat} {x1 : Int32}  {H : Heap} {locs : List Loc} {ls : Array Slot} (hf : fX6_numberOf_0 h x0 x1 = some rz) (hE : CE (EX D aC ad h) (Rg ad) s H locs) (hl : lv_has ls 3 [(0, .ref (ad x0)), (1, .int x1)]) : W p l e (RM 1 21 0 0) s m args below meth c H locs 0 0 (MQ below (PQ (EX D aC ad h) (Rg ad) (some (.int rz))) args s 0 0 (Rg ad)) (F0 m 0 ls []) := by
  unfold fX6_numberOf_0 at hf
  refine lv_aload_n b.1 b.2.1 dX6_numberOf_0 rfl (lv_at hl 0 rfl) ?_
  refine lv_iload_n b.1 b.2.1 dX6_numberOf_1 rfl (lv_at hl 1 rfl) ?_
  refine lv_iconst (v := 4) b.1 b.2.1 dX6_numberOf_2 (by decide) ?_
  refine lv_idiv b.1 b.2.1 dX6_numberOf_3 (by decide) ?_
  obtain ⟨t1, hf⟩ := oC_s hf
  have t1 := of_decide_eq_true t1
  obtain ⟨r3, hc2, hf⟩ := oB_s hf
  refine k_callV0 (C := RX6) b zs zk hE (CX6_personOf l D aC ad zk hc2) mc_X6_personOf (in4 204 rfl rfl) mi_X6_personOf ms_X6_personOf ini_RX6 ok_X6_personOf (x_recv b hE (ci := 6) rfl (by decide) t1) ⟨Nat.le_of_ble_eq_true rfl, Nat.le_of_ble_eq_true rfl⟩ rfl hl.1 rfl (k_room _ (by exact Nat.le_of_ble_eq_true rfl)) ⟨Nat.le_refl _, Nat.le_refl _⟩ dX6_numberOf_4 (fun H locs hE => ?_)
  refine lv_iconst (v := 4) b.1 b.2.1 dX6_numberOf_7 (by decide) ?_
  refine lv_imul b.1 b.2.1 dX6_numberOf_8 ?_
  refine lv_iload_n b.1 b.2.1 dX6_numberOf_9 rfl (lv_at hl 1 rfl) ?_
  refine lv_iconst (v := 4) b.1 b.2.1 dX6_numberOf_10 (by decide) ?_
  refine lv_irem b.1 b.2.1 dX6_numberOf_11 (by decide) ?_
  refine lv_iadd b.1 b.2.1 dX6_numberOf_12 ?_
  obtain ⟨y4, ey4, hf⟩ := oL_s hf
  refine k_nmI ey4 ?_
  refine lv_istore_n (lv' := [(2, .int y4), (0, .ref (ad x0)), (1, .int x1)]) b.1 b.2.1 dX6_numberOf_13 rfl hl (by decide) rfl (fun ls hl => ?_)
  have hl := lv_sub (l' := [(2, .int y4), (0, .ref (ad x0))]) hl [0, 1] rfl
  refine lv_iload_n b.1 b.2.1 dX6_numberOf_14 rfl (lv_at hl 0 rfl) ?_
  refine lv_if_lt (tgt := 42) b.1 b.2.1 dX6_numberOf_15 (by decide) (fun c5 => ?_) (fun c5 => ?_)
  · have hf := oI_t c5 hf
    refine lv_iconst (v := 0) b.1 b.2.1 dX6_numberOf_42 (by decide) ?_
    cases hf
    exact k_iret b hlk hr hE (Nat.le_refl _) (Nat.le_refl _) dX6_numberOf_43
  · have hf := oI_f c5 hf
    refine lv_iload_n b.1 b.2.1 dX6_numberOf_18 rfl (lv_at hl 0 rfl) ?_
    refine lv_aload_n b.1 b.2.1 dX6_numberOf_19 rfl (lv_at hl 1 rfl) ?_
    refine gX6_38 (x := (some x0)) b hE rfl t1 dX6_numberOf_20 ?_
    obtain ⟨a6, ea6, hf⟩ := oN_s hf
    obtain ⟨t7, hf⟩ := oC_s hf
    have t7 := of_decide_eq_true t7
    refine gX6_140 (x := (hR h 768 x0)) b hE ea6 t7 dX6_numberOf_23 ?_
    obtain ⟨a8, ea8, hf⟩ := oN_s hf
    obtain ⟨t9, hf⟩ := oC_s hf
    have t9 := of_decide_eq_true t9
    refine q_alen (x := (hR h 134 a6)) (k := 1) b hE ea8 (by decide) t9 dX6_numberOf_26 ?_
    refine lv_icmp_ge (tgt := 42) b.1 b.2.1 dX6_numberOf_27 (by decide) (fun c10 => ?_) (fun c10 => ?_)
    · have hf := oI_t c10 hf
      refine lv_iconst (v := 0) b.1 b.2.1 dX6_numberOf_42 (by decide) ?_
      cases hf
      exact k_iret b hlk hr hE (Nat.le_refl _) (Nat.le_refl _) dX6_numberOf_43
    · have hf := oI_f c10 hf
      refine lv_aload_n b.1 b.2.1 dX6_numberOf_30 rfl (lv_at hl 1 rfl) ?_
      refine gX6_38 (x := (some x0)) b hE rfl t1 dX6_numberOf_31 ?_
      refine gX6_140 (x := (hR h 768 x0)) b hE ea6 t7 dX6_numberOf_34 ?_
      refine lv_iload_n b.1 b.2.1 dX6_numberOf_37 rfl (lv_at hl 0 rfl) ?_
      obtain ⟨g11, hf⟩ := oC_s hf
      refine q_iald (x := (hR h 134 a6)) b hE ea8 t9 g11 dX6_numberOf_38 ?_
      refine lv_goto (tgt := 43) b.1 b.2.1 dX6_numberOf_39 (by decide) ?_
      cases hf
      exact k_iret b hlk hr hE (Nat.le_refl _) (Nat.le_refl _) dX6_numberOf_43
def fX6_numberOf (h : PH) (x0 : Nat) (x1 : Int32) : Option (Int32) := fX6_numberOf_0 h x0 x1
set_option maxHeartbeats 4000000 in
theorem CX6_numberOf (l : Launch) (D : va_G) (aC : Nat → ClassId) (ad : Nat → Nat) {Z : State → Prop} (zk : ZOK Z (Rg ad)) {h : PH} {x0 : Nat} {x1 : Int32} {rz : Int32} (hf : fX6_numberOf h x0 x1 = some rz) : CM l D aC Z yX6_numberOf cX6_numberOf 3 (some .int) 1 21 0 0 (EX D aC ad h) [.ref (ad x0), .int x1] (EX D aC ad h) (some (.int rz)) (Rg ad) := by
  refine CM.of rfl ?_
  intro p e s m below meth c b hr hlk hin2 zs hE
  refine k_ent (Nat.le_of_ble_eq_true rfl) (fun ls hl => ?_)
  exact wfX6_numberOf_0 b hlk hr zs zk hf hE (lv_sub hl [0, 1] rfl)
end
