section
variable {p : Program} {l : Launch} {e : Env} {s : State} {m : MethodId} {below : List Frame} {meth : Method} {c : Code} {D : va_G} {aC : Nat → ClassId} {ad : Nat → Nat}
theorem dX11_read_0 : decode cX11_read 0 = .ok (.aload_n 0, 1) := by decide +kernel
theorem dX11_read_1 : decode cX11_read 1 = .ok (.getfield 31, 3) := by decide +kernel
theorem dX11_read_4 : decode cX11_read 4 = .ok (.aload_n 0, 1) := by decide +kernel
theorem dX11_read_5 : decode cX11_read 5 = .ok (.getfield 12, 3) := by decide +kernel
theorem dX11_read_8 : decode cX11_read 8 = .ok (.aload_n 0, 1) := by decide +kernel
theorem dX11_read_9 : decode cX11_read 9 = .ok (.getfield 52, 3) := by decide +kernel
theorem dX11_read_12 : decode cX11_read 12 = .ok (.invokevirtual 55, 3) := by decide +kernel
theorem dX11_read_15 : decode cX11_read 15 = .ok (.iconst 0, 1) := by decide +kernel
theorem dX11_read_16 : decode cX11_read 16 = .ok (.istore_n 1, 1) := by decide +kernel
theorem dX11_read_17 : decode cX11_read 17 = .ok (.iload_n 1, 1) := by decide +kernel
theorem dX11_read_18 : decode cX11_read 18 = .ok (.sipush 1200, 3) := by decide +kernel
theorem dX11_read_21 : decode cX11_read 21 = .ok (.if_icmp .gt 46, 3) := by decide +kernel
theorem dX11_read_24 : decode cX11_read 24 = .ok (.aload_n 0, 1) := by decide +kernel
theorem dX11_read_25 : decode cX11_read 25 = .ok (.getfield 31, 3) := by decide +kernel
theorem dX11_read_28 : decode cX11_read 28 = .ok (.invokevirtual 59, 3) := by decide +kernel
theorem dX11_read_31 : decode cX11_read 31 = .ok (.ifCond .eq 36, 3) := by decide +kernel
theorem dX11_read_34 : decode cX11_read 34 = .ok (.aload_n 0, 1) := by decide +kernel
theorem dX11_read_35 : decode cX11_read 35 = .ok (.getfield 31, 3) := by decide +kernel
theorem dX11_read_38 : decode cX11_read 38 = .ok (.invokevirtual 63, 3) := by decide +kernel
theorem dX11_read_41 : decode cX11_read 41 = .ok (.ifCond .eq 13, 3) := by decide +kernel
theorem dX11_read_44 : decode cX11_read 44 = .ok (.aload_n 0, 1) := by decide +kernel
theorem dX11_read_45 : decode cX11_read 45 = .ok (.getfield 31, 3) := by decide +kernel
theorem dX11_read_48 : decode cX11_read 48 = .ok (.invokevirtual 66, 3) := by decide +kernel
theorem dX11_read_51 : decode cX11_read 51 = .ok (.goto 10, 3) := by decide +kernel
theorem dX11_read_54 : decode cX11_read 54 = .ok (.aload_n 0, 1) := by decide +kernel
theorem dX11_read_55 : decode cX11_read 55 = .ok (.getfield 31, 3) := by decide +kernel
theorem dX11_read_58 : decode cX11_read 58 = .ok (.invokevirtual 69, 3) := by decide +kernel
theorem dX11_read_61 : decode cX11_read 61 = .ok (.iinc 1 1, 3) := by decide +kernel
theorem dX11_read_64 : decode cX11_read 64 = .ok (.goto (-47), 3) := by decide +kernel
theorem dX11_read_67 : decode cX11_read 67 = .ok (.aload_n 0, 1) := by decide +kernel
theorem dX11_read_68 : decode cX11_read 68 = .ok (.getfield 31, 3) := by decide +kernel
theorem dX11_read_71 : decode cX11_read 71 = .ok (.invokevirtual 72, 3) := by decide +kernel
theorem dX11_read_74 : decode cX11_read 74 = .ok (.istore_n 1, 1) := by decide +kernel
theorem dX11_read_75 : decode cX11_read 75 = .ok (.aload_n 0, 1) := by decide +kernel
theorem dX11_read_76 : decode cX11_read 76 = .ok (.aload_n 0, 1) := by decide +kernel
theorem dX11_read_77 : decode cX11_read 77 = .ok (.getfield 31, 3) := by decide +kernel
theorem dX11_read_80 : decode cX11_read 80 = .ok (.invokevirtual 76, 3) := by decide +kernel
theorem dX11_read_83 : decode cX11_read 83 = .ok (.putfield 41, 3) := by decide +kernel
theorem dX11_read_86 : decode cX11_read 86 = .ok (.aload_n 0, 1) := by decide +kernel
theorem dX11_read_87 : decode cX11_read 87 = .ok (.getfield 12, 3) := by decide +kernel
theorem dX11_read_90 : decode cX11_read 90 = .ok (.iconst 0, 1) := by decide +kernel
theorem dX11_read_91 : decode cX11_read 91 = .ok (.putfield 45, 3) := by decide +kernel
theorem dX11_read_94 : decode cX11_read 94 = .ok (.iload_n 1, 1) := by decide +kernel
theorem dX11_read_95 : decode cX11_read 95 = .ok (.ireturn, 1) := by decide +kernel
def fX11_read_67  (h : PH) (x0 : Nat) : Option (PH × Int32 × Nat × Nat) :=
  oC (decide (hT h x0 = 12)) (oN (hR h 1411 x0) (fun a2 => oC (decide (hT h a2 = 5)) (oB2 (fX4_finish h a2) (fun h6 r5 => oC (decide (hT h6 x0 = 12)) (oN (hR h6 1411 x0) (fun a8 => oC (decide (hT h6 a8 = 5)) (oB (fX4_placeOfFault h6 a8) (fun r11 => oL (sI h6 1415 x0 r11) (fun h12 => oN (hR h12 1408 x0) (fun a14 => oC (decide (hT h12 a14 = 1)) (oL (sI h12 1 a14 0) (fun h16 => some (h16, r5, 0, 0)))))))))))))
set_option maxHeartbeats 4000000 in
theorem wfX11_read_67 {mc ms cells slots : Nat} {args : Array Value} (b : Bd p s m c cX11_read 2 RX11 D aC) (hlk : meth.locks = false) (hr : meth.sig.returnType = some .int) {Z : State → Prop} (zs : Z s) (zk : ZOK Z (Rg ad)) {hz : PH} {rz : Int32} {h : PH} {x0 : Nat} {kz : Nat} {mz : Nat}  {H : Heap} {locs : List Loc} {ls : Array Slot} (hf : fX11_read_67 h x0 = some (hz, rz, kz, mz)) (hk : cells + kz ≤ mc) (hs : slots + mz ≤ ms) (hE : CE (EX D aC ad h) (Rg ad) s H locs) (hl : lv_has ls 2 [(0, .ref (ad x0))]) : W p l e (RM 30 739 mc ms) s m args below meth c H locs cells slots (MQ below (PQ (EX D aC ad hz) (Rg ad) (some (.int rz))) args s mc ms (Rg ad)) (F0 m 67 ls []) := by
  unfold fX11_read_67 at hf
  refine lv_aload_n b.1 b.2.1 dX11_read_67 rfl (lv_at hl 0 rfl) ?_
  obtain ⟨t1, hf⟩ := oC_s hf
  have t1 := of_decide_eq_true t1
  refine gX11_31 (x := (some x0)) b hE rfl t1 dX11_read_68 ?_
  obtain ⟨a2, ea2, hf⟩ := oN_s hf
  obtain ⟨t3, hf⟩ := oC_s hf
  have t3 := of_decide_eq_true t3
  obtain ⟨h6, r5, hc4, hf⟩ := oB2_s hf
  refine k_stk [] ea2 ?_
  refine k_callV0 (C := RX4) b zs zk hE (CX4_finish l D aC ad zk hc4) mc_X4_finish (in3 151 rfl rfl) mi_X4_finish ms_X4_finish ini_RX4 ok_X4_finish (x_recv b hE (ci := 4) rfl (by decide) t3) ⟨Nat.le_of_ble_eq_true rfl, Nat.le_of_ble_eq_true rfl⟩ rfl hl.1 rfl (k_room _ (by exact Nat.le_of_ble_eq_true rfl)) ⟨le_0 hk, le_0 hs⟩ dX11_read_71 (fun H locs hE => ?_)
  refine lv_istore_n (lv' := [(1, .int r5), (0, .ref (ad x0))]) b.1 b.2.1 dX11_read_74 rfl hl (by decide) rfl (fun ls hl => ?_)
  refine lv_aload_n b.1 b.2.1 dX11_read_75 rfl (lv_at hl 1 rfl) ?_
  refine lv_aload_n b.1 b.2.1 dX11_read_76 rfl (lv_at hl 1 rfl) ?_
  obtain ⟨t7, hf⟩ := oC_s hf
  have t7 := of_decide_eq_true t7
  refine gX11_31 (x := (some x0)) b hE rfl t7 dX11_read_77 ?_
  obtain ⟨a8, ea8, hf⟩ := oN_s hf
  obtain ⟨t9, hf⟩ := oC_s hf
  have t9 := of_decide_eq_true t9
  obtain ⟨r11, hc10, hf⟩ := oB_s hf
  refine k_stk [] ea8 ?_
  refine k_callV0 (C := RX4) b zs zk hE (CX4_placeOfFault l D aC ad zk hc10) mc_X4_placeOfFault (in3 191 rfl rfl) mi_X4_placeOfFault ms_X4_placeOfFault ini_RX4 ok_X4_placeOfFault (x_recv b hE (ci := 4) rfl (by decide) t9) ⟨Nat.le_of_ble_eq_true rfl, Nat.le_of_ble_eq_true rfl⟩ rfl hl.1 rfl (k_room _ (by exact Nat.le_of_ble_eq_true rfl)) ⟨le_0 hk, le_0 hs⟩ dX11_read_80 (fun H locs hE => ?_)
  obtain ⟨h12, eh12, hf⟩ := oL_s hf
  refine pX11_41 (x := (some x0)) b hE rfl t7 eh12 dX11_read_83 (fun H locs hE => ?_)
  refine lv_aload_n b.1 b.2.1 dX11_read_86 rfl (lv_at hl 1 rfl) ?_
  have t13 := tg_sI eh12 t7
  refine gX11_12 (x := (some x0)) b hE rfl t13 dX11_read_87 ?_
  refine lv_iconst (v := 0) b.1 b.2.1 dX11_read_90 (by decide) ?_
  obtain ⟨a14, ea14, hf⟩ := oN_s hf
  obtain ⟨t15, hf⟩ := oC_s hf
  have t15 := of_decide_eq_true t15
  obtain ⟨h16, eh16, hf⟩ := oL_s hf
  refine pX11_45 (x := (hR h12 1408 x0)) b hE ea14 t15 eh16 dX11_read_91 (fun H locs hE => ?_)
  refine lv_iload_n b.1 b.2.1 dX11_read_94 rfl (lv_at hl 0 rfl) ?_
  cases hf
  exact k_iret b hlk hr hE (le_c hk) (le_c hs) dX11_read_95
def fX11_read_61 (k17 : PH → Nat → Int32 → Option (PH × Int32 × Nat × Nat)) (h : PH) (x0 : Nat) (x1 : Int32) : Option (PH × Int32 × Nat × Nat) :=
  oL (x1 + 1) (fun y17 => k17 h x0 y17)
set_option maxHeartbeats 4000000 in
theorem wfX11_read_61 {mc ms cells slots : Nat} {args : Array Value} (b : Bd p s m c cX11_read 2 RX11 D aC) (hlk : meth.locks = false) (hr : meth.sig.returnType = some .int) {Z : State → Prop} (zs : Z s) (zk : ZOK Z (Rg ad)) {hz : PH} {rz : Int32} {k17 : PH → Nat → Int32 → Option (PH × Int32 × Nat × Nat)} (H17 : ∀ (h : PH) (x0 : Nat) (x1 : Int32), ∀ (cells slots kz mz : Nat) (H : Heap) (locs : List Loc) (ls : Array Slot), k17 h x0 x1 = some (hz, rz, kz, mz) → cells + kz ≤ mc → slots + mz ≤ ms → CE (EX D aC ad h) (Rg ad) s H locs → lv_has ls 2 [(0, .ref (ad x0)), (1, .int x1)] → W p l e (RM 30 739 mc ms) s m args below meth c H locs cells slots (MQ below (PQ (EX D aC ad hz) (Rg ad) (some (.int rz))) args s mc ms (Rg ad)) (F0 m 17 ls [])) {h : PH} {x0 : Nat} {x1 : Int32} {kz : Nat} {mz : Nat}  {H : Heap} {locs : List Loc} {ls : Array Slot} (hf : fX11_read_61 k17 h x0 x1 = some (hz, rz, kz, mz)) (hk : cells + kz ≤ mc) (hs : slots + mz ≤ ms) (hE : CE (EX D aC ad h) (Rg ad) s H locs) (hl : lv_has ls 2 [(0, .ref (ad x0)), (1, .int x1)]) : W p l e (RM 30 739 mc ms) s m args below meth c H locs cells slots (MQ below (PQ (EX D aC ad hz) (Rg ad) (some (.int rz))) args s mc ms (Rg ad)) (F0 m 61 ls []) := by
  unfold fX11_read_61 at hf
  obtain ⟨y17, ey17, hf⟩ := oL_s hf
  refine lv_iinc (v := y17) (lv' := [(1, .int y17), (0, .ref (ad x0))]) b.1 b.2.1 dX11_read_61 hl (k := 1) rfl (by rw [ey17]; rfl) (by decide) rfl (fun ls hl => ?_)
  refine lv_goto (tgt := 17) b.1 b.2.1 dX11_read_64 (by decide) ?_
  exact H17 h x0 y17 _ _ _ _ _ _ _ hf hk hs hE (lv_sub hl [1, 0] rfl)
def fX11_read_17F (k17 : PH → Nat → Int32 → Option (PH × Int32 × Nat × Nat)) (h : PH) (x0 : Nat) (x1 : Int32) : Option (PH × Int32 × Nat × Nat) :=
  if 1200 < x1 then (fX11_read_67  h x0) else (oC (decide (hT h x0 = 12)) (oN (hR h 1411 x0) (fun a20 => oC (decide (hT h a20 = 5)) (oB (fX4_goesOn h a20) (fun r23 => if r23 = 0 then (fX11_read_67  h x0) else (oB (fX4_isAtRule h a20) (fun r26 => if r26 = 0 then (oB (fX4_tell h a20) (fun h29 => fX11_read_61 k17 h29 x0 x1)) else (oB3 (fX4_tellRule h a20) (fun h31 i32 j33 => oK4 i32 j33 (fX11_read_61 k17 h31 x0 x1))))))))))
set_option maxHeartbeats 4000000 in
theorem wfX11_read_17F {mc ms cells slots : Nat} {args : Array Value} (b : Bd p s m c cX11_read 2 RX11 D aC) (hlk : meth.locks = false) (hr : meth.sig.returnType = some .int) {Z : State → Prop} (zs : Z s) (zk : ZOK Z (Rg ad)) {hz : PH} {rz : Int32} {k17 : PH → Nat → Int32 → Option (PH × Int32 × Nat × Nat)} (H17 : ∀ (h : PH) (x0 : Nat) (x1 : Int32), ∀ (cells slots kz mz : Nat) (H : Heap) (locs : List Loc) (ls : Array Slot), k17 h x0 x1 = some (hz, rz, kz, mz) → cells + kz ≤ mc → slots + mz ≤ ms → CE (EX D aC ad h) (Rg ad) s H locs → lv_has ls 2 [(0, .ref (ad x0)), (1, .int x1)] → W p l e (RM 30 739 mc ms) s m args below meth c H locs cells slots (MQ below (PQ (EX D aC ad hz) (Rg ad) (some (.int rz))) args s mc ms (Rg ad)) (F0 m 17 ls [])) {h : PH} {x0 : Nat} {x1 : Int32} {kz : Nat} {mz : Nat}  {H : Heap} {locs : List Loc} {ls : Array Slot} (hf : fX11_read_17F k17 h x0 x1 = some (hz, rz, kz, mz)) (hk : cells + kz ≤ mc) (hs : slots + mz ≤ ms) (hE : CE (EX D aC ad h) (Rg ad) s H locs) (hl : lv_has ls 2 [(0, .ref (ad x0)), (1, .int x1)]) : W p l e (RM 30 739 mc ms) s m args below meth c H locs cells slots (MQ below (PQ (EX D aC ad hz) (Rg ad) (some (.int rz))) args s mc ms (Rg ad)) (F0 m 17 ls []) := by
  unfold fX11_read_17F at hf
  refine lv_iload_n b.1 b.2.1 dX11_read_17 rfl (lv_at hl 1 rfl) ?_
  refine lv_sipush (v := 1200) b.1 b.2.1 dX11_read_18 (by decide) ?_
  refine lv_icmp_gt (tgt := 67) b.1 b.2.1 dX11_read_21 (by decide) (fun c18 => ?_) (fun c18 => ?_)
  · have hf := oI_t c18 hf
    exact wfX11_read_67 b hlk hr zs zk  hf hk hs hE (lv_sub hl [0] rfl)
  · have hf := oI_f c18 hf
    refine lv_aload_n b.1 b.2.1 dX11_read_24 rfl (lv_at hl 0 rfl) ?_
    obtain ⟨t19, hf⟩ := oC_s hf
    have t19 := of_decide_eq_true t19
    refine gX11_31 (x := (some x0)) b hE rfl t19 dX11_read_25 ?_
    obtain ⟨a20, ea20, hf⟩ := oN_s hf
    obtain ⟨t21, hf⟩ := oC_s hf
    have t21 := of_decide_eq_true t21
    obtain ⟨r23, hc22, hf⟩ := oB_s hf
    refine k_stk [] ea20 ?_
    refine k_callV0 (C := RX4) b zs zk hE (CX4_goesOn l D aC ad zk hc22) mc_X4_goesOn (in2 167 rfl rfl) mi_X4_goesOn ms_X4_goesOn ini_RX4 ok_X4_goesOn (x_recv b hE (ci := 4) rfl (by decide) t21) ⟨Nat.le_of_ble_eq_true rfl, Nat.le_of_ble_eq_true rfl⟩ rfl hl.1 rfl (k_room _ (by exact Nat.le_of_ble_eq_true rfl)) ⟨le_0 hk, le_0 hs⟩ dX11_read_28 (fun H locs hE => ?_)
    refine lv_if_eq (tgt := 67) b.1 b.2.1 dX11_read_31 (by decide) (fun c24 => ?_) (fun c24 => ?_)
    · have hf := oI_t c24 hf
      exact wfX11_read_67 b hlk hr zs zk  hf hk hs hE (lv_sub hl [0] rfl)
    · have hf := oI_f c24 hf
      refine lv_aload_n b.1 b.2.1 dX11_read_34 rfl (lv_at hl 0 rfl) ?_
      refine gX11_31 (x := (some x0)) b hE rfl t19 dX11_read_35 ?_
      obtain ⟨r26, hc25, hf⟩ := oB_s hf
      refine k_stk [] ea20 ?_
      refine k_callV0 (C := RX4) b zs zk hE (CX4_isAtRule l D aC ad zk hc25) mc_X4_isAtRule (in2 171 rfl rfl) mi_X4_isAtRule ms_X4_isAtRule ini_RX4 ok_X4_isAtRule (x_recv b hE (ci := 4) rfl (by decide) t21) ⟨Nat.le_of_ble_eq_true rfl, Nat.le_of_ble_eq_true rfl⟩ rfl hl.1 rfl (k_room _ (by exact Nat.le_of_ble_eq_true rfl)) ⟨le_0 hk, le_0 hs⟩ dX11_read_38 (fun H locs hE => ?_)
      refine lv_if_eq (tgt := 54) b.1 b.2.1 dX11_read_41 (by decide) (fun c27 => ?_) (fun c27 => ?_)
      · have hf := oI_t c27 hf
        refine lv_aload_n b.1 b.2.1 dX11_read_54 rfl (lv_at hl 0 rfl) ?_
        refine gX11_31 (x := (some x0)) b hE rfl t19 dX11_read_55 ?_
        obtain ⟨h29, hc28, hf⟩ := oB_s hf
        refine k_stk [] ea20 ?_
        refine k_callV0 (C := RX4) b zs zk hE (CX4_tell l D aC ad zk hc28) mc_X4_tell (in3 123 rfl rfl) mi_X4_tell ms_X4_tell ini_RX4 ok_X4_tell (x_recv b hE (ci := 4) rfl (by decide) t21) ⟨Nat.le_of_ble_eq_true rfl, Nat.le_of_ble_eq_true rfl⟩ rfl hl.1 rfl (k_room _ (by exact Nat.le_of_ble_eq_true rfl)) ⟨le_0 hk, le_0 hs⟩ dX11_read_58 (fun H locs hE => ?_)
        exact wfX11_read_61 b hlk hr zs zk H17 hf hk hs hE (lv_sub hl [0, 1] rfl)
      · have hf := oI_f c27 hf
        refine lv_aload_n b.1 b.2.1 dX11_read_44 rfl (lv_at hl 0 rfl) ?_
        refine gX11_31 (x := (some x0)) b hE rfl t19 dX11_read_45 ?_
        obtain ⟨h31, i32, j33, hc30, hf⟩ := oB3_s hf
        obtain ⟨i34, j35, ei34, ej35, hf⟩ := oK4_s hf
        refine k_stk [] ea20 ?_
        refine k_callV (C := RX4) b zs zk hE (CX4_tellRule l D aC ad zk hc30) mc_X4_tellRule (in2 175 rfl rfl) mi_X4_tellRule ms_X4_tellRule ini_RX4 ok_X4_tellRule (x_recv b hE (ci := 4) rfl (by decide) t21) ⟨Nat.le_of_ble_eq_true rfl, Nat.le_of_ble_eq_true rfl⟩ rfl hl.1 rfl (k_room _ (by exact Nat.le_of_ble_eq_true rfl)) ⟨le_room hk ei34, le_room hs ej35⟩ dX11_read_48 (fun H locs hE => ?_)
        have hk := le_step hk ei34
        have hs := le_step hs ej35
        refine lv_goto (tgt := 61) b.1 b.2.1 dX11_read_51 (by decide) ?_
        exact wfX11_read_61 b hlk hr zs zk H17 hf hk hs hE (lv_sub hl [0, 1] rfl)
def fX11_read_17  : Nat → PH → Nat → Int32 → Option (PH × Int32 × Nat × Nat)
  | 0 => fun _ _ _ => none
  | n + 1 => fX11_read_17F  (fX11_read_17  n)
set_option maxHeartbeats 4000000 in
theorem wfX11_read_17 {mc ms : Nat} {args : Array Value} (b : Bd p s m c cX11_read 2 RX11 D aC) (hlk : meth.locks = false) (hr : meth.sig.returnType = some .int) {Z : State → Prop} (zs : Z s) (zk : ZOK Z (Rg ad)) {hz : PH} {rz : Int32} : ∀ n : Nat, ∀ (h : PH) (x0 : Nat) (x1 : Int32), ∀ (cells slots kz mz : Nat) (H : Heap) (locs : List Loc) (ls : Array Slot), fX11_read_17  n h x0 x1 = some (hz, rz, kz, mz) → cells + kz ≤ mc → slots + mz ≤ ms → CE (EX D aC ad h) (Rg ad) s H locs → lv_has ls 2 [(0, .ref (ad x0)), (1, .int x1)] → W p l e (RM 30 739 mc ms) s m args below meth c H locs cells slots (MQ below (PQ (EX D aC ad hz) (Rg ad) (some (.int rz))) args s mc ms (Rg ad)) (F0 m 17 ls []) := by
  intro n
  induction n with
  | zero =>
    intro h x0 x1 cells slots kz mz H locs ls hf
    have hf : (none : Option (PH × Int32 × Nat × Nat)) = some _ := hf
    cases hf
  | succ n ih =>
    intro h x0 x1 cells slots kz mz H locs ls hf hk hs hE hl
    exact wfX11_read_17F b hlk hr zs zk  ih hf hk hs hE hl
def fX11_read_0  (h : PH) (x0 : Nat) : Option (PH × Int32 × Nat × Nat) :=
  oC (decide (hT h x0 = 12)) (oN (hR h 1411 x0) (fun a37 => oC (decide (hT h a37 = 5)) (oB3 (fX4_begin h a37 (hR h 1408 x0) (hI h 1414 x0)) (fun h40 i41 j42 => oK4 i41 j42 (fX11_read_17  FU h40 x0 0)))))
set_option maxHeartbeats 4000000 in
theorem wfX11_read_0 {mc ms cells slots : Nat} {args : Array Value} (b : Bd p s m c cX11_read 2 RX11 D aC) (hlk : meth.locks = false) (hr : meth.sig.returnType = some .int) {Z : State → Prop} (zs : Z s) (zk : ZOK Z (Rg ad)) {hz : PH} {rz : Int32} {h : PH} {x0 : Nat} {kz : Nat} {mz : Nat}  {H : Heap} {locs : List Loc} {ls : Array Slot} (hf : fX11_read_0 h x0 = some (hz, rz, kz, mz)) (hk : cells + kz ≤ mc) (hs : slots + mz ≤ ms) (hE : CE (EX D aC ad h) (Rg ad) s H locs) (hl : lv_has ls 2 [(0, .ref (ad x0))]) : W p l e (RM 30 739 mc ms) s m args below meth c H locs cells slots (MQ below (PQ (EX D aC ad hz) (Rg ad) (some (.int rz))) args s mc ms (Rg ad)) (F0 m 0 ls []) := by
  unfold fX11_read_0 at hf
  refine lv_aload_n b.1 b.2.1 dX11_read_0 rfl (lv_at hl 0 rfl) ?_
  obtain ⟨t36, hf⟩ := oC_s hf
  have t36 := of_decide_eq_true t36
  refine gX11_31 (x := (some x0)) b hE rfl t36 dX11_read_1 ?_
  refine lv_aload_n b.1 b.2.1 dX11_read_4 rfl (lv_at hl 0 rfl) ?_
  refine gX11_12 (x := (some x0)) b hE rfl t36 dX11_read_5 ?_
  refine lv_aload_n b.1 b.2.1 dX11_read_8 rfl (lv_at hl 0 rfl) ?_
  refine gX11_52 (x := (some x0)) b hE rfl t36 dX11_read_9 ?_
  obtain ⟨a37, ea37, hf⟩ := oN_s hf
  obtain ⟨t38, hf⟩ := oC_s hf
  have t38 := of_decide_eq_true t38
  obtain ⟨h40, i41, j42, hc39, hf⟩ := oB3_s hf
  obtain ⟨i43, j44, ei43, ej44, hf⟩ := oK4_s hf
  refine k_stk [.int (hI h 1414 x0), va_rf (Option.map ad (hR h 1408 x0))] ea37 ?_
  refine k_callV (C := RX4) b zs zk hE (CX4_begin l D aC ad zk hc39) mc_X4_begin (in2 112 rfl rfl) mi_X4_begin ms_X4_begin ini_RX4 ok_X4_begin (x_recv b hE (ci := 4) rfl (by decide) t38) ⟨Nat.le_of_ble_eq_true rfl, Nat.le_of_ble_eq_true rfl⟩ rfl hl.1 rfl (k_room _ (by exact Nat.le_of_ble_eq_true rfl)) ⟨le_room hk ei43, le_room hs ej44⟩ dX11_read_12 (fun H locs hE => ?_)
  have hk := le_step hk ei43
  have hs := le_step hs ej44
  refine lv_iconst (v := 0) b.1 b.2.1 dX11_read_15 (by decide) ?_
  refine lv_istore_n (lv' := [(1, .int 0), (0, .ref (ad x0))]) b.1 b.2.1 dX11_read_16 rfl hl (by decide) rfl (fun ls hl => ?_)
  exact wfX11_read_17 b hlk hr zs zk  FU h40 x0 0 _ _ _ _ _ _ _ hf hk hs hE (lv_sub hl [1, 0] rfl)
def fX11_read (h : PH) (x0 : Nat) : Option (PH × Int32 × Nat × Nat) := fX11_read_0 h x0
set_option maxHeartbeats 4000000 in
theorem CX11_read (l : Launch) (D : va_G) (aC : Nat → ClassId) (ad : Nat → Nat) {Z : State → Prop} (zk : ZOK Z (Rg ad)) {h : PH} {x0 : Nat} {hz : PH} {rz : Int32} {kz : Nat} {mz : Nat} (hf : fX11_read h x0 = some (hz, rz, kz, mz)) : CM l D aC Z yX11_read cX11_read 2 (some .int) 30 739 kz mz (EX D aC ad h) [.ref (ad x0)] (EX D aC ad hz) (some (.int rz)) (Rg ad) := by
  refine CM.of rfl ?_
  intro p e s m below meth c b hr hlk hin2 zs hE
  refine k_ent (Nat.le_of_ble_eq_true rfl) (fun ls hl => ?_)
  exact wfX11_read_0 b hlk hr zs zk hf (by omega) (by omega) hE (lv_sub hl [0] rfl)
theorem dX11_place_0 : decode cX11_place 0 = .ok (.aload_n 0, 1) := by decide +kernel
theorem dX11_place_1 : decode cX11_place 1 = .ok (.getfield 41, 3) := by decide +kernel
theorem dX11_place_4 : decode cX11_place 4 = .ok (.ireturn, 1) := by decide +kernel
def fX11_place_0  (h : PH) (x0 : Nat) : Option (Int32) :=
  oC (decide (hT h x0 = 12)) (some ((hI h 1415 x0)))
set_option maxHeartbeats 4000000 in
theorem wfX11_place_0 {args : Array Value} (b : Bd p s m c cX11_place 1 RX11 D aC) (hlk : meth.locks = false) (hr : meth.sig.returnType = some .int) {Z : State → Prop} (zs : Z s) (zk : ZOK Z (Rg ad)) {rz : Int32} {h : PH} {x0 : Nat}  {H : Heap} {locs : List Loc} {ls : Array Slot} (hf : fX11_place_0 h x0 = some rz) (hE : CE (EX D aC ad h) (Rg ad) s H locs) (hl : lv_has ls 1 [(0, .ref (ad x0))]) : W p l e (RM 0 0 0 0) s m args below meth c H locs 0 0 (MQ below (PQ (EX D aC ad h) (Rg ad) (some (.int rz))) args s 0 0 (Rg ad)) (F0 m 0 ls []) := by
  unfold fX11_place_0 at hf
  refine lv_aload_n b.1 b.2.1 dX11_place_0 rfl (lv_at hl 0 rfl) ?_
  obtain ⟨t1, hf⟩ := oC_s hf
  have t1 := of_decide_eq_true t1
  refine gX11_41 (x := (some x0)) b hE rfl t1 dX11_place_1 ?_
  cases hf
  exact k_iret b hlk hr hE (Nat.le_refl _) (Nat.le_refl _) dX11_place_4
def fX11_place (h : PH) (x0 : Nat) : Option (Int32) := fX11_place_0 h x0
set_option maxHeartbeats 4000000 in
theorem CX11_place (l : Launch) (D : va_G) (aC : Nat → ClassId) (ad : Nat → Nat) {Z : State → Prop} (zk : ZOK Z (Rg ad)) {h : PH} {x0 : Nat} {rz : Int32} (hf : fX11_place h x0 = some rz) : CM l D aC Z yX11_place cX11_place 1 (some .int) 0 0 0 0 (EX D aC ad h) [.ref (ad x0)] (EX D aC ad h) (some (.int rz)) (Rg ad) := by
  refine CM.of rfl ?_
  intro p e s m below meth c b hr hlk hin2 zs hE
  refine k_ent (Nat.le_of_ble_eq_true rfl) (fun ls hl => ?_)
  exact wfX11_place_0 b hlk hr zs zk hf hE (lv_sub hl [0] rfl)
theorem dX11_clock_0 : decode cX11_clock 0 = .ok (.iload_n 1, 1) := by decide +kernel
theorem dX11_clock_1 : decode cX11_clock 1 = .ok (.aload_n 0, 1) := by decide +kernel
theorem dX11_clock_2 : decode cX11_clock 2 = .ok (.getfield 52, 3) := by decide +kernel
theorem dX11_clock_5 : decode cX11_clock 5 = .ok (.if_icmp .lt 9, 3) := by decide +kernel
theorem dX11_clock_8 : decode cX11_clock 8 = .ok (.iload_n 1, 1) := by decide +kernel
theorem dX11_clock_9 : decode cX11_clock 9 = .ok (.ldc 79, 2) := by decide +kernel
theorem dX11_clock_11 : decode cX11_clock 11 = .ok (.if_icmp .le 5, 3) := by decide +kernel
theorem dX11_clock_14 : decode cX11_clock 14 = .ok (.iconst 0, 1) := by decide +kernel
theorem dX11_clock_15 : decode cX11_clock 15 = .ok (.ireturn, 1) := by decide +kernel
theorem dX11_clock_16 : decode cX11_clock 16 = .ok (.aload_n 0, 1) := by decide +kernel
theorem dX11_clock_17 : decode cX11_clock 17 = .ok (.iload_n 1, 1) := by decide +kernel
theorem dX11_clock_18 : decode cX11_clock 18 = .ok (.putfield 52, 3) := by decide +kernel
theorem dX11_clock_21 : decode cX11_clock 21 = .ok (.iconst 1, 1) := by decide +kernel
theorem dX11_clock_22 : decode cX11_clock 22 = .ok (.ireturn, 1) := by decide +kernel
def fX11_clock_0  (h : PH) (x0 : Nat) (x1 : Int32) : Option (PH × Int32) :=
  oC (decide (hT h x0 = 12)) (if x1 < (hI h 1414 x0) then (some (h, 0)) else (if x1 ≤ 999999 then (oL (sI h 1414 x0 x1) (fun h4 => some (h4, 1))) else (some (h, 0))))
set_option maxHeartbeats 4000000 in
theorem wfX11_clock_0 {args : Array Value} (b : Bd p s m c cX11_clock 2 RX11 D aC) (hlk : meth.locks = false) (hr : meth.sig.returnType = some .boolean) {Z : State → Prop} (zs : Z s) (zk : ZOK Z (Rg ad)) {hz : PH} {rz : Int32} {h : PH} {x0 : Nat} {x1 : Int32}  {H : Heap} {locs : List Loc} {ls : Array Slot} (hf : fX11_clock_0 h x0 x1 = some (hz, rz)) (hE : CE (EX D aC ad h) (Rg ad) s H locs) (hl : lv_has ls 2 [(0, .ref (ad x0)), (1, .int x1)]) : W p l e (RM 0 0 0 0) s m args below meth c H locs 0 0 (MQ below (PQ (EX D aC ad hz) (Rg ad) (some (.int rz))) args s 0 0 (Rg ad)) (F0 m 0 ls []) := by
  unfold fX11_clock_0 at hf
  refine lv_iload_n b.1 b.2.1 dX11_clock_0 rfl (lv_at hl 1 rfl) ?_
  refine lv_aload_n b.1 b.2.1 dX11_clock_1 rfl (lv_at hl 0 rfl) ?_
  obtain ⟨t1, hf⟩ := oC_s hf
  have t1 := of_decide_eq_true t1
  refine gX11_52 (x := (some x0)) b hE rfl t1 dX11_clock_2 ?_
  refine lv_icmp_lt (tgt := 14) b.1 b.2.1 dX11_clock_5 (by decide) (fun c2 => ?_) (fun c2 => ?_)
  · have hf := oI_t c2 hf
    refine lv_iconst (v := 0) b.1 b.2.1 dX11_clock_14 (by decide) ?_
    cases hf
    exact k_zret b hlk hr (by decide) hE (Nat.le_refl _) (Nat.le_refl _) dX11_clock_15
  · have hf := oI_f c2 hf
    refine lv_iload_n b.1 b.2.1 dX11_clock_8 rfl (lv_at hl 1 rfl) ?_
    refine k_ldc (v := 999999) b (in3 203 rfl rfl) dX11_clock_9 ?_
    refine lv_icmp_le (tgt := 16) b.1 b.2.1 dX11_clock_11 (by decide) (fun c3 => ?_) (fun c3 => ?_)
    · have hf := oI_t c3 hf
      refine lv_aload_n b.1 b.2.1 dX11_clock_16 rfl (lv_at hl 0 rfl) ?_
      refine lv_iload_n b.1 b.2.1 dX11_clock_17 rfl (lv_at hl 1 rfl) ?_
      obtain ⟨h4, eh4, hf⟩ := oL_s hf
      refine pX11_52 (x := (some x0)) b hE rfl t1 eh4 dX11_clock_18 (fun H locs hE => ?_)
      refine lv_iconst (v := 1) b.1 b.2.1 dX11_clock_21 (by decide) ?_
      cases hf
      exact k_zret b hlk hr (by decide) hE (Nat.le_refl _) (Nat.le_refl _) dX11_clock_22
    · have hf := oI_f c3 hf
      refine lv_iconst (v := 0) b.1 b.2.1 dX11_clock_14 (by decide) ?_
      cases hf
      exact k_zret b hlk hr (by decide) hE (Nat.le_refl _) (Nat.le_refl _) dX11_clock_15
def fX11_clock (h : PH) (x0 : Nat) (x1 : Int32) : Option (PH × Int32) := fX11_clock_0 h x0 x1
set_option maxHeartbeats 4000000 in
theorem CX11_clock (l : Launch) (D : va_G) (aC : Nat → ClassId) (ad : Nat → Nat) {Z : State → Prop} (zk : ZOK Z (Rg ad)) {h : PH} {x0 : Nat} {x1 : Int32} {hz : PH} {rz : Int32} (hf : fX11_clock h x0 x1 = some (hz, rz)) : CM l D aC Z yX11_clock cX11_clock 2 (some .boolean) 0 0 0 0 (EX D aC ad h) [.ref (ad x0), .int x1] (EX D aC ad hz) (some (.int rz)) (Rg ad) := by
  refine CM.of rfl ?_
  intro p e s m below meth c b hr hlk hin2 zs hE
  refine k_ent (Nat.le_of_ble_eq_true rfl) (fun ls hl => ?_)
  exact wfX11_clock_0 b hlk hr zs zk hf hE (lv_sub hl [0, 1] rfl)
theorem dX11_testify_0 : decode cX11_testify 0 = .ok (.aload_n 0, 1) := by decide +kernel
theorem dX11_testify_1 : decode cX11_testify 1 = .ok (.getfield 22, 3) := by decide +kernel
theorem dX11_testify_4 : decode cX11_testify 4 = .ok (.iload_n 1, 1) := by decide +kernel
theorem dX11_testify_5 : decode cX11_testify 5 = .ok (.iload_n 2, 1) := by decide +kernel
theorem dX11_testify_6 : decode cX11_testify 6 = .ok (.iload_n 3, 1) := by decide +kernel
theorem dX11_testify_7 : decode cX11_testify 7 = .ok (.iload 4, 2) := by decide +kernel
theorem dX11_testify_9 : decode cX11_testify 9 = .ok (.aload_n 0, 1) := by decide +kernel
theorem dX11_testify_10 : decode cX11_testify 10 = .ok (.getfield 22, 3) := by decide +kernel
theorem dX11_testify_13 : decode cX11_testify 13 = .ok (.getfield 80, 3) := by decide +kernel
theorem dX11_testify_16 : decode cX11_testify 16 = .ok (.getfield 84, 3) := by decide +kernel
theorem dX11_testify_19 : decode cX11_testify 19 = .ok (.aload_n 0, 1) := by decide +kernel
theorem dX11_testify_20 : decode cX11_testify 20 = .ok (.getfield 22, 3) := by decide +kernel
theorem dX11_testify_23 : decode cX11_testify 23 = .ok (.getfield 89, 3) := by decide +kernel
theorem dX11_testify_26 : decode cX11_testify 26 = .ok (.getfield 84, 3) := by decide +kernel
theorem dX11_testify_29 : decode cX11_testify 29 = .ok (.invokevirtual 92, 3) := by decide +kernel
theorem dX11_testify_32 : decode cX11_testify 32 = .ok (.istore 8, 2) := by decide +kernel
theorem dX11_testify_34 : decode cX11_testify 34 = .ok (.iload 5, 2) := by decide +kernel
theorem dX11_testify_36 : decode cX11_testify 36 = .ok (.ifCond .lt 21, 3) := by decide +kernel
theorem dX11_testify_39 : decode cX11_testify 39 = .ok (.iload 5, 2) := by decide +kernel
theorem dX11_testify_41 : decode cX11_testify 41 = .ok (.iload 6, 2) := by decide +kernel
theorem dX11_testify_43 : decode cX11_testify 43 = .ok (.if_icmp .ge 14, 3) := by decide +kernel
theorem dX11_testify_46 : decode cX11_testify 46 = .ok (.iload 6, 2) := by decide +kernel
theorem dX11_testify_48 : decode cX11_testify 48 = .ok (.ldc 96, 2) := by decide +kernel
theorem dX11_testify_50 : decode cX11_testify 50 = .ok (.if_icmp .gt 7, 3) := by decide +kernel
theorem dX11_testify_53 : decode cX11_testify 53 = .ok (.iconst 1, 1) := by decide +kernel
theorem dX11_testify_54 : decode cX11_testify 54 = .ok (.goto 4, 3) := by decide +kernel
theorem dX11_testify_57 : decode cX11_testify 57 = .ok (.iconst 0, 1) := by decide +kernel
theorem dX11_testify_58 : decode cX11_testify 58 = .ok (.istore 9, 2) := by decide +kernel
theorem dX11_testify_60 : decode cX11_testify 60 = .ok (.iload 7, 2) := by decide +kernel
theorem dX11_testify_62 : decode cX11_testify 62 = .ok (.iconst 1, 1) := by decide +kernel
theorem dX11_testify_63 : decode cX11_testify 63 = .ok (.if_icmp .lt 14, 3) := by decide +kernel
theorem dX11_testify_66 : decode cX11_testify 66 = .ok (.iload 7, 2) := by decide +kernel
theorem dX11_testify_68 : decode cX11_testify 68 = .ok (.bipush 9, 2) := by decide +kernel
theorem dX11_testify_70 : decode cX11_testify 70 = .ok (.if_icmp .gt 7, 3) := by decide +kernel
theorem dX11_testify_73 : decode cX11_testify 73 = .ok (.iconst 1, 1) := by decide +kernel
theorem dX11_testify_74 : decode cX11_testify 74 = .ok (.goto 4, 3) := by decide +kernel
theorem dX11_testify_77 : decode cX11_testify 77 = .ok (.iconst 0, 1) := by decide +kernel
theorem dX11_testify_78 : decode cX11_testify 78 = .ok (.istore 10, 2) := by decide +kernel
theorem dX11_testify_80 : decode cX11_testify 80 = .ok (.iload 8, 2) := by decide +kernel
theorem dX11_testify_82 : decode cX11_testify 82 = .ok (.iconst (-1), 1) := by decide +kernel
theorem dX11_testify_83 : decode cX11_testify 83 = .ok (.if_icmp .eq 22, 3) := by decide +kernel
theorem dX11_testify_86 : decode cX11_testify 86 = .ok (.iload 9, 2) := by decide +kernel
theorem dX11_testify_88 : decode cX11_testify 88 = .ok (.ifCond .eq 17, 3) := by decide +kernel
theorem dX11_testify_91 : decode cX11_testify 91 = .ok (.iload 10, 2) := by decide +kernel
theorem dX11_testify_93 : decode cX11_testify 93 = .ok (.ifCond .eq 12, 3) := by decide +kernel
theorem dX11_testify_96 : decode cX11_testify 96 = .ok (.aload_n 0, 1) := by decide +kernel
theorem dX11_testify_97 : decode cX11_testify 97 = .ok (.getfield 97, 3) := by decide +kernel
theorem dX11_testify_100 : decode cX11_testify 100 = .ok (.bipush 100, 2) := by decide +kernel
theorem dX11_testify_102 : decode cX11_testify 102 = .ok (.if_icmp .lt 5, 3) := by decide +kernel
theorem dX11_testify_105 : decode cX11_testify 105 = .ok (.iconst (-1), 1) := by decide +kernel
theorem dX11_testify_106 : decode cX11_testify 106 = .ok (.ireturn, 1) := by decide +kernel
theorem dX11_testify_107 : decode cX11_testify 107 = .ok (.aload_n 0, 1) := by decide +kernel
theorem dX11_testify_108 : decode cX11_testify 108 = .ok (.getfield 37, 3) := by decide +kernel
theorem dX11_testify_111 : decode cX11_testify 111 = .ok (.aload_n 0, 1) := by decide +kernel
theorem dX11_testify_112 : decode cX11_testify 112 = .ok (.getfield 97, 3) := by decide +kernel
theorem dX11_testify_115 : decode cX11_testify 115 = .ok (.new 35, 3) := by decide +kernel
theorem dX11_testify_118 : decode cX11_testify 118 = .ok (.dup, 1) := by decide +kernel
theorem dX11_testify_119 : decode cX11_testify 119 = .ok (.iload 8, 2) := by decide +kernel
theorem dX11_testify_121 : decode cX11_testify 121 = .ok (.iload 5, 2) := by decide +kernel
theorem dX11_testify_123 : decode cX11_testify 123 = .ok (.iload 6, 2) := by decide +kernel
theorem dX11_testify_125 : decode cX11_testify 125 = .ok (.iload 7, 2) := by decide +kernel
theorem dX11_testify_127 : decode cX11_testify 127 = .ok (.aload_n 0, 1) := by decide +kernel
theorem dX11_testify_128 : decode cX11_testify 128 = .ok (.getfield 52, 3) := by decide +kernel
theorem dX11_testify_131 : decode cX11_testify 131 = .ok (.invokespecial 100, 3) := by decide +kernel
theorem dX11_testify_134 : decode cX11_testify 134 = .ok (.aastore, 1) := by decide +kernel
theorem dX11_testify_135 : decode cX11_testify 135 = .ok (.aload_n 0, 1) := by decide +kernel
theorem dX11_testify_136 : decode cX11_testify 136 = .ok (.dup, 1) := by decide +kernel
theorem dX11_testify_137 : decode cX11_testify 137 = .ok (.getfield 97, 3) := by decide +kernel
theorem dX11_testify_140 : decode cX11_testify 140 = .ok (.iconst 1, 1) := by decide +kernel
theorem dX11_testify_141 : decode cX11_testify 141 = .ok (.iadd, 1) := by decide +kernel
theorem dX11_testify_142 : decode cX11_testify 142 = .ok (.putfield 97, 3) := by decide +kernel
theorem dX11_testify_145 : decode cX11_testify 145 = .ok (.aload_n 0, 1) := by decide +kernel
theorem dX11_testify_146 : decode cX11_testify 146 = .ok (.getfield 97, 3) := by decide +kernel
theorem dX11_testify_149 : decode cX11_testify 149 = .ok (.iconst 1, 1) := by decide +kernel
theorem dX11_testify_150 : decode cX11_testify 150 = .ok (.isub, 1) := by decide +kernel
theorem dX11_testify_151 : decode cX11_testify 151 = .ok (.ireturn, 1) := by decide +kernel
def fX11_testify_78  (h : PH) (x0 : Nat) (x5 : Int32) (x6 : Int32) (x7 : Int32) (x8 : Int32) (x9 : Int32) (s0 : Int32) : Option (PH × Int32 × Nat × Nat) :=
  if x8 = (-1) then (some (h, (-1), 0, 0)) else (if x9 = 0 then (some (h, (-1), 0, 0)) else (if s0 = 0 then (some (h, (-1), 0, 0)) else (oC (decide (hT h x0 = 12)) (if (hI h 1413 x0) < 100 then (oL (nO h 10) (fun h8 => oK4 1 5 (oB (fX9_init h8 (hZ h) x8 x5 x6 x7 (hI h8 1414 x0)) (fun h12 => oN (hR h 1412 x0) (fun a13 => oC (decide (hT h12 a13 = 106)) (oC (decide (hT h12 (hZ h) = 10)) (oC (ix (hI h 1413 x0) (hN h12 a13)) (oL (sC h12 a13 (Int32.toNatClampNeg (hI h 1413 x0)) (some (hZ h))) (fun h17 => oC (decide (hT h17 x0 = 12)) (oL (sI h17 1413 x0 ((hI h17 1413 x0) + 1)) (fun h19 => some (h19, ((hI h19 1413 x0) - 1), 0, 0)))))))))))) else (some (h, (-1), 0, 0))))))
set_option maxHeartbeats 4000000 in
theorem wfX11_testify_78 {mc ms cells slots : Nat} {args : Array Value} (b : Bd p s m c cX11_testify 11 RX11 D aC) (hlk : meth.locks = false) (hr : meth.sig.returnType = some .int) {Z : State → Prop} (zs : Z s) (zk : ZOK Z (Rg ad)) {hz : PH} {rz : Int32} {h : PH} {x0 : Nat} {x5 : Int32} {x6 : Int32} {x7 : Int32} {x8 : Int32} {x9 : Int32} {s0 : Int32} {kz : Nat} {mz : Nat}  {H : Heap} {locs : List Loc} {ls : Array Slot} (hf : fX11_testify_78 h x0 x5 x6 x7 x8 x9 s0 = some (hz, rz, kz, mz)) (hk : cells + kz ≤ mc) (hs : slots + mz ≤ ms) (hE : CE (EX D aC ad h) (Rg ad) s H locs) (hl : lv_has ls 11 [(0, .ref (ad x0)), (5, .int x5), (6, .int x6), (7, .int x7), (8, .int x8), (9, .int x9)]) : W p l e (RM 2 51 mc ms) s m args below meth c H locs cells slots (MQ below (PQ (EX D aC ad hz) (Rg ad) (some (.int rz))) args s mc ms (Rg ad)) (F0 m 78 ls [.int s0]) := by
  unfold fX11_testify_78 at hf
  refine lv_istore (lv' := [(10, .int s0), (0, .ref (ad x0)), (5, .int x5), (6, .int x6), (7, .int x7), (8, .int x8), (9, .int x9)]) b.1 b.2.1 dX11_testify_78 hl (by decide) rfl (fun ls hl => ?_)
  refine lv_iload b.1 b.2.1 dX11_testify_80 (lv_at hl 5 rfl) ?_
  refine lv_iconst (v := (-1)) b.1 b.2.1 dX11_testify_82 (by decide) ?_
  refine lv_icmp_eq (tgt := 105) b.1 b.2.1 dX11_testify_83 (by decide) (fun c1 => ?_) (fun c1 => ?_)
  · have hf := oI_t c1 hf
    refine lv_iconst (v := (-1)) b.1 b.2.1 dX11_testify_105 (by decide) ?_
    cases hf
    exact k_iret b hlk hr hE (le_c hk) (le_c hs) dX11_testify_106
  · have hf := oI_f c1 hf
    refine lv_iload b.1 b.2.1 dX11_testify_86 (lv_at hl 6 rfl) ?_
    refine lv_if_eq (tgt := 105) b.1 b.2.1 dX11_testify_88 (by decide) (fun c2 => ?_) (fun c2 => ?_)
    · have hf := oI_t c2 hf
      refine lv_iconst (v := (-1)) b.1 b.2.1 dX11_testify_105 (by decide) ?_
      cases hf
      exact k_iret b hlk hr hE (le_c hk) (le_c hs) dX11_testify_106
    · have hf := oI_f c2 hf
      refine lv_iload b.1 b.2.1 dX11_testify_91 (lv_at hl 0 rfl) ?_
      refine lv_if_eq (tgt := 105) b.1 b.2.1 dX11_testify_93 (by decide) (fun c3 => ?_) (fun c3 => ?_)
      · have hf := oI_t c3 hf
        refine lv_iconst (v := (-1)) b.1 b.2.1 dX11_testify_105 (by decide) ?_
        cases hf
        exact k_iret b hlk hr hE (le_c hk) (le_c hs) dX11_testify_106
      · have hf := oI_f c3 hf
        refine lv_aload_n b.1 b.2.1 dX11_testify_96 rfl (lv_at hl 1 rfl) ?_
        obtain ⟨t4, hf⟩ := oC_s hf
        have t4 := of_decide_eq_true t4
        refine gX11_97 (x := (some x0)) b hE rfl t4 dX11_testify_97 ?_
        refine lv_bipush (v := 100) b.1 b.2.1 dX11_testify_100 (by decide) ?_
        refine lv_icmp_lt (tgt := 107) b.1 b.2.1 dX11_testify_102 (by decide) (fun c5 => ?_) (fun c5 => ?_)
        · have hf := oI_t c5 hf
          refine lv_aload_n b.1 b.2.1 dX11_testify_107 rfl (lv_at hl 1 rfl) ?_
          refine gX11_37 (x := (some x0)) b hE rfl t4 dX11_testify_108 ?_
          refine lv_aload_n b.1 b.2.1 dX11_testify_111 rfl (lv_at hl 1 rfl) ?_
          refine gX11_97 (x := (some x0)) b hE rfl t4 dX11_testify_112 ?_
          obtain ⟨h8, eh8, hf⟩ := oL_s hf
          obtain ⟨i6, j7, ei6, ej7, hf⟩ := oK4_s hf
          have t9 := tg_nO (t := 11) hE eh8 t4
          have t10 := tg_nO0 eh8
          refine nX11_35 b hE (le_room hk ei6) (le_room hs ej7) eh8 dX11_testify_115 (fun H hE => ?_)
          have hk := le_step hk ei6
          have hs := le_step hs ej7
          refine lv_dup b.1 b.2.1 dX11_testify_118 rfl ?_
          refine lv_iload b.1 b.2.1 dX11_testify_119 (lv_at hl 5 rfl) ?_
          refine lv_iload b.1 b.2.1 dX11_testify_121 (lv_at hl 2 rfl) ?_
          refine lv_iload b.1 b.2.1 dX11_testify_123 (lv_at hl 3 rfl) ?_
          refine lv_iload b.1 b.2.1 dX11_testify_125 (lv_at hl 4 rfl) ?_
          refine lv_aload_n b.1 b.2.1 dX11_testify_127 rfl (lv_at hl 1 rfl) ?_
          refine gX11_52 (x := (some x0)) b hE rfl t9 dX11_testify_128 ?_
          obtain ⟨h12, hc11, hf⟩ := oB_s hf
          refine k_callI0 b zs zk hE (CX9_init l D aC ad zk hc11) mc_X9_init (in3 217 rfl rfl) mi_X9_init ini_RX9 rfl ok_X9_init ⟨Nat.le_of_ble_eq_true rfl, Nat.le_of_ble_eq_true rfl⟩ rfl hl.1 rfl (k_room _ (by exact Nat.le_of_ble_eq_true rfl)) ⟨le_0 hk, le_0 hs⟩ dX11_testify_131 (fun H locs hE => ?_)
          obtain ⟨a13, ea13, hf⟩ := oN_s hf
          obtain ⟨t14, hf⟩ := oC_s hf
          have t14 := of_decide_eq_true t14
          obtain ⟨t15, hf⟩ := oC_s hf
          have t15 := of_decide_eq_true t15
          obtain ⟨g16, hf⟩ := oC_s hf
          obtain ⟨h17, eh17, hf⟩ := oL_s hf
          refine q_aast6 (x := (hR h 1412 x0)) (y := (some (hZ h))) b hE ea13 rfl t15 t14 g16 eh17 dX11_testify_134 (fun H locs hE => ?_)
          refine lv_aload_n b.1 b.2.1 dX11_testify_135 rfl (lv_at hl 1 rfl) ?_
          refine lv_dup b.1 b.2.1 dX11_testify_136 rfl ?_
          obtain ⟨t18, hf⟩ := oC_s hf
          have t18 := of_decide_eq_true t18
          refine gX11_97 (x := (some x0)) b hE rfl t18 dX11_testify_137 ?_
          refine lv_iconst (v := 1) b.1 b.2.1 dX11_testify_140 (by decide) ?_
          refine lv_iadd b.1 b.2.1 dX11_testify_141 ?_
          obtain ⟨h19, eh19, hf⟩ := oL_s hf
          refine pX11_97 (x := (some x0)) b hE rfl t18 eh19 dX11_testify_142 (fun H locs hE => ?_)
          refine lv_aload_n b.1 b.2.1 dX11_testify_145 rfl (lv_at hl 1 rfl) ?_
          have t20 := tg_sI eh19 t18
          refine gX11_97 (x := (some x0)) b hE rfl t20 dX11_testify_146 ?_
          refine lv_iconst (v := 1) b.1 b.2.1 dX11_testify_149 (by decide) ?_
          refine lv_isub b.1 b.2.1 dX11_testify_150 ?_
          cases hf
          exact k_iret b hlk hr hE (le_c hk) (le_c hs) dX11_testify_151
        · have hf := oI_f c5 hf
          refine lv_iconst (v := (-1)) b.1 b.2.1 dX11_testify_105 (by decide) ?_
          cases hf
          exact k_iret b hlk hr hE (le_c hk) (le_c hs) dX11_testify_106
def fX11_testify_58  (h : PH) (x0 : Nat) (x5 : Int32) (x6 : Int32) (x7 : Int32) (x8 : Int32) (s0 : Int32) : Option (PH × Int32 × Nat × Nat) :=
  if x7 < 1 then (fX11_testify_78  h x0 x5 x6 x7 x8 s0 0) else (if 9 < x7 then (fX11_testify_78  h x0 x5 x6 x7 x8 s0 0) else (fX11_testify_78  h x0 x5 x6 x7 x8 s0 1))
set_option maxHeartbeats 4000000 in
theorem wfX11_testify_58 {mc ms cells slots : Nat} {args : Array Value} (b : Bd p s m c cX11_testify 11 RX11 D aC) (hlk : meth.locks = false) (hr : meth.sig.returnType = some .int) {Z : State → Prop} (zs : Z s) (zk : ZOK Z (Rg ad)) {hz : PH} {rz : Int32} {h : PH} {x0 : Nat} {x5 : Int32} {x6 : Int32} {x7 : Int32} {x8 : Int32} {s0 : Int32} {kz : Nat} {mz : Nat}  {H : Heap} {locs : List Loc} {ls : Array Slot} (hf : fX11_testify_58 h x0 x5 x6 x7 x8 s0 = some (hz, rz, kz, mz)) (hk : cells + kz ≤ mc) (hs : slots + mz ≤ ms) (hE : CE (EX D aC ad h) (Rg ad) s H locs) (hl : lv_has ls 11 [(0, .ref (ad x0)), (5, .int x5), (6, .int x6), (7, .int x7), (8, .int x8)]) : W p l e (RM 2 51 mc ms) s m args below meth c H locs cells slots (MQ below (PQ (EX D aC ad hz) (Rg ad) (some (.int rz))) args s mc ms (Rg ad)) (F0 m 58 ls [.int s0]) := by
  unfold fX11_testify_58 at hf
  refine lv_istore (lv' := [(9, .int s0), (0, .ref (ad x0)), (5, .int x5), (6, .int x6), (7, .int x7), (8, .int x8)]) b.1 b.2.1 dX11_testify_58 hl (by decide) rfl (fun ls hl => ?_)
  refine lv_iload b.1 b.2.1 dX11_testify_60 (lv_at hl 4 rfl) ?_
  refine lv_iconst (v := 1) b.1 b.2.1 dX11_testify_62 (by decide) ?_
  refine lv_icmp_lt (tgt := 77) b.1 b.2.1 dX11_testify_63 (by decide) (fun c21 => ?_) (fun c21 => ?_)
  · have hf := oI_t c21 hf
    refine lv_iconst (v := 0) b.1 b.2.1 dX11_testify_77 (by decide) ?_
    exact wfX11_testify_78 b hlk hr zs zk  hf hk hs hE (lv_sub hl [1, 2, 3, 4, 5, 0] rfl)
  · have hf := oI_f c21 hf
    refine lv_iload b.1 b.2.1 dX11_testify_66 (lv_at hl 4 rfl) ?_
    refine lv_bipush (v := 9) b.1 b.2.1 dX11_testify_68 (by decide) ?_
    refine lv_icmp_gt (tgt := 77) b.1 b.2.1 dX11_testify_70 (by decide) (fun c22 => ?_) (fun c22 => ?_)
    · have hf := oI_t c22 hf
      refine lv_iconst (v := 0) b.1 b.2.1 dX11_testify_77 (by decide) ?_
      exact wfX11_testify_78 b hlk hr zs zk  hf hk hs hE (lv_sub hl [1, 2, 3, 4, 5, 0] rfl)
    · have hf := oI_f c22 hf
      refine lv_iconst (v := 1) b.1 b.2.1 dX11_testify_73 (by decide) ?_
      refine lv_goto (tgt := 78) b.1 b.2.1 dX11_testify_74 (by decide) ?_
      exact wfX11_testify_78 b hlk hr zs zk  hf hk hs hE (lv_sub hl [1, 2, 3, 4, 5, 0] rfl)
def fX11_testify_0  (h : PH) (x0 : Nat) (x1 : Int32) (x2 : Int32) (x3 : Int32) (x4 : Int32) (x5 : Int32) (x6 : Int32) (x7 : Int32) : Option (PH × Int32 × Nat × Nat) :=
  oC (decide (hT h x0 = 12)) (oN (hR h 1410 x0) (fun a24 => oC (decide (hT h a24 = 2)) (oN (hR h 129 a24) (fun a26 => oC (decide (hT h a26 = 8)) (oN (hR h 128 a24) (fun a28 => oC (decide (hT h a28 = 8)) (oB (fX1_literal h a24 x1 x2 x3 x4 (hI h 897 a26) (hI h 897 a28)) (fun r31 => if x5 < 0 then (fX11_testify_58  h x0 x5 x6 x7 r31 0) else (if x6 ≤ x5 then (fX11_testify_58  h x0 x5 x6 x7 r31 0) else (if 1000000 < x6 then (fX11_testify_58  h x0 x5 x6 x7 r31 0) else (fX11_testify_58  h x0 x5 x6 x7 r31 1)))))))))))
set_option maxHeartbeats 4000000 in
theorem wfX11_testify_0 {mc ms cells slots : Nat} {args : Array Value} (b : Bd p s m c cX11_testify 11 RX11 D aC) (hlk : meth.locks = false) (hr : meth.sig.returnType = some .int) {Z : State → Prop} (zs : Z s) (zk : ZOK Z (Rg ad)) {hz : PH} {rz : Int32} {h : PH} {x0 : Nat} {x1 : Int32} {x2 : Int32} {x3 : Int32} {x4 : Int32} {x5 : Int32} {x6 : Int32} {x7 : Int32} {kz : Nat} {mz : Nat}  {H : Heap} {locs : List Loc} {ls : Array Slot} (hf : fX11_testify_0 h x0 x1 x2 x3 x4 x5 x6 x7 = some (hz, rz, kz, mz)) (hk : cells + kz ≤ mc) (hs : slots + mz ≤ ms) (hE : CE (EX D aC ad h) (Rg ad) s H locs) (hl : lv_has ls 11 [(0, .ref (ad x0)), (1, .int x1), (2, .int x2), (3, .int x3), (4, .int x4), (5, .int x5), (6, .int x6), (7, .int x7)]) : W p l e (RM 2 51 mc ms) s m args below meth c H locs cells slots (MQ below (PQ (EX D aC ad hz) (Rg ad) (some (.int rz))) args s mc ms (Rg ad)) (F0 m 0 ls []) := by
  unfold fX11_testify_0 at hf
  refine lv_aload_n b.1 b.2.1 dX11_testify_0 rfl (lv_at hl 0 rfl) ?_
  obtain ⟨t23, hf⟩ := oC_s hf
  have t23 := of_decide_eq_true t23
  refine gX11_22 (x := (some x0)) b hE rfl t23 dX11_testify_1 ?_
  refine lv_iload_n b.1 b.2.1 dX11_testify_4 rfl (lv_at hl 1 rfl) ?_
  refine lv_iload_n b.1 b.2.1 dX11_testify_5 rfl (lv_at hl 2 rfl) ?_
  refine lv_iload_n b.1 b.2.1 dX11_testify_6 rfl (lv_at hl 3 rfl) ?_
  refine lv_iload b.1 b.2.1 dX11_testify_7 (lv_at hl 4 rfl) ?_
  refine lv_aload_n b.1 b.2.1 dX11_testify_9 rfl (lv_at hl 0 rfl) ?_
  refine gX11_22 (x := (some x0)) b hE rfl t23 dX11_testify_10 ?_
  obtain ⟨a24, ea24, hf⟩ := oN_s hf
  obtain ⟨t25, hf⟩ := oC_s hf
  have t25 := of_decide_eq_true t25
  refine gX11_80 (x := (hR h 1410 x0)) b hE ea24 t25 dX11_testify_13 ?_
  obtain ⟨a26, ea26, hf⟩ := oN_s hf
  obtain ⟨t27, hf⟩ := oC_s hf
  have t27 := of_decide_eq_true t27
  refine gX11_84 (x := (hR h 129 a24)) b hE ea26 t27 dX11_testify_16 ?_
  refine lv_aload_n b.1 b.2.1 dX11_testify_19 rfl (lv_at hl 0 rfl) ?_
  refine gX11_22 (x := (some x0)) b hE rfl t23 dX11_testify_20 ?_
  refine gX11_89 (x := (hR h 1410 x0)) b hE ea24 t25 dX11_testify_23 ?_
  obtain ⟨a28, ea28, hf⟩ := oN_s hf
  obtain ⟨t29, hf⟩ := oC_s hf
  have t29 := of_decide_eq_true t29
  refine gX11_84 (x := (hR h 128 a24)) b hE ea28 t29 dX11_testify_26 ?_
  obtain ⟨r31, hc30, hf⟩ := oB_s hf
  refine k_stk [.int (hI h 897 a28), .int (hI h 897 a26), .int x4, .int x3, .int x2, .int x1] ea24 ?_
  refine k_callV0 (C := RX1) b zs zk hE (CX1_literal l D aC ad zk hc30) mc_X1_literal (in3 208 rfl rfl) mi_X1_literal ms_X1_literal ini_RX1 ok_X1_literal (x_recv b hE (ci := 1) rfl (by decide) t25) ⟨Nat.le_of_ble_eq_true rfl, Nat.le_of_ble_eq_true rfl⟩ rfl hl.1 rfl (k_room _ (by exact Nat.le_of_ble_eq_true rfl)) ⟨le_0 hk, le_0 hs⟩ dX11_testify_29 (fun H locs hE => ?_)
  refine lv_istore (lv' := [(8, .int r31), (0, .ref (ad x0)), (1, .int x1), (2, .int x2), (3, .int x3), (4, .int x4), (5, .int x5), (6, .int x6), (7, .int x7)]) b.1 b.2.1 dX11_testify_32 hl (by decide) rfl (fun ls hl => ?_)
  have hl := lv_sub (l' := [(8, .int r31), (0, .ref (ad x0)), (5, .int x5), (6, .int x6), (7, .int x7)]) hl [0, 1, 6, 7, 8] rfl
  refine lv_iload b.1 b.2.1 dX11_testify_34 (lv_at hl 2 rfl) ?_
  refine lv_if_lt (tgt := 57) b.1 b.2.1 dX11_testify_36 (by decide) (fun c32 => ?_) (fun c32 => ?_)
  · have hf := oI_t c32 hf
    refine lv_iconst (v := 0) b.1 b.2.1 dX11_testify_57 (by decide) ?_
    exact wfX11_testify_58 b hlk hr zs zk  hf hk hs hE (lv_sub hl [1, 2, 3, 4, 0] rfl)
  · have hf := oI_f c32 hf
    refine lv_iload b.1 b.2.1 dX11_testify_39 (lv_at hl 2 rfl) ?_
    refine lv_iload b.1 b.2.1 dX11_testify_41 (lv_at hl 3 rfl) ?_
    refine lv_icmp_ge (tgt := 57) b.1 b.2.1 dX11_testify_43 (by decide) (fun c33 => ?_) (fun c33 => ?_)
    · have hf := oI_t c33 hf
      refine lv_iconst (v := 0) b.1 b.2.1 dX11_testify_57 (by decide) ?_
      exact wfX11_testify_58 b hlk hr zs zk  hf hk hs hE (lv_sub hl [1, 2, 3, 4, 0] rfl)
    · have hf := oI_f c33 hf
      refine lv_iload b.1 b.2.1 dX11_testify_46 (lv_at hl 3 rfl) ?_
      refine k_ldc (v := 1000000) b (in3 215 rfl rfl) dX11_testify_48 ?_
      refine lv_icmp_gt (tgt := 57) b.1 b.2.1 dX11_testify_50 (by decide) (fun c34 => ?_) (fun c34 => ?_)
      · have hf := oI_t c34 hf
        refine lv_iconst (v := 0) b.1 b.2.1 dX11_testify_57 (by decide) ?_
        exact wfX11_testify_58 b hlk hr zs zk  hf hk hs hE (lv_sub hl [1, 2, 3, 4, 0] rfl)
      · have hf := oI_f c34 hf
        refine lv_iconst (v := 1) b.1 b.2.1 dX11_testify_53 (by decide) ?_
        refine lv_goto (tgt := 58) b.1 b.2.1 dX11_testify_54 (by decide) ?_
        exact wfX11_testify_58 b hlk hr zs zk  hf hk hs hE (lv_sub hl [1, 2, 3, 4, 0] rfl)
def fX11_testify (h : PH) (x0 : Nat) (x1 : Int32) (x2 : Int32) (x3 : Int32) (x4 : Int32) (x5 : Int32) (x6 : Int32) (x7 : Int32) : Option (PH × Int32 × Nat × Nat) := fX11_testify_0 h x0 x1 x2 x3 x4 x5 x6 x7
set_option maxHeartbeats 4000000 in
theorem CX11_testify (l : Launch) (D : va_G) (aC : Nat → ClassId) (ad : Nat → Nat) {Z : State → Prop} (zk : ZOK Z (Rg ad)) {h : PH} {x0 : Nat} {x1 : Int32} {x2 : Int32} {x3 : Int32} {x4 : Int32} {x5 : Int32} {x6 : Int32} {x7 : Int32} {hz : PH} {rz : Int32} {kz : Nat} {mz : Nat} (hf : fX11_testify h x0 x1 x2 x3 x4 x5 x6 x7 = some (hz, rz, kz, mz)) : CM l D aC Z yX11_testify cX11_testify 11 (some .int) 2 51 kz mz (EX D aC ad h) [.ref (ad x0), .int x1, .int x2, .int x3, .int x4, .int x5, .int x6, .int x7] (EX D aC ad hz) (some (.int rz)) (Rg ad) := by
  refine CM.of rfl ?_
  intro p e s m below meth c b hr hlk hin2 zs hE
  refine k_ent (Nat.le_of_ble_eq_true rfl) (fun ls hl => ?_)
  exact wfX11_testify_0 b hlk hr zs zk hf (by omega) (by omega) hE (lv_sub hl [0, 1, 2, 3, 4, 5, 6, 7] rfl)
theorem dX11_number_0 : decode cX11_number 0 = .ok (.iload_n 1, 1) := by decide +kernel
theorem dX11_number_1 : decode cX11_number 1 = .ok (.ifCond .lt 30, 3) := by decide +kernel
theorem dX11_number_4 : decode cX11_number 4 = .ok (.iload_n 1, 1) := by decide +kernel
theorem dX11_number_5 : decode cX11_number 5 = .ok (.aload_n 0, 1) := by decide +kernel
theorem dX11_number_6 : decode cX11_number 6 = .ok (.getfield 22, 3) := by decide +kernel
theorem dX11_number_9 : decode cX11_number 9 = .ok (.getfield 89, 3) := by decide +kernel
theorem dX11_number_12 : decode cX11_number 12 = .ok (.getfield 84, 3) := by decide +kernel
theorem dX11_number_15 : decode cX11_number 15 = .ok (.if_icmp .ge 16, 3) := by decide +kernel
theorem dX11_number_18 : decode cX11_number 18 = .ok (.iload_n 2, 1) := by decide +kernel
theorem dX11_number_19 : decode cX11_number 19 = .ok (.ifCond .lt 12, 3) := by decide +kernel
theorem dX11_number_22 : decode cX11_number 22 = .ok (.iload_n 2, 1) := by decide +kernel
theorem dX11_number_23 : decode cX11_number 23 = .ok (.iconst 4, 1) := by decide +kernel
theorem dX11_number_24 : decode cX11_number 24 = .ok (.if_icmp .ge 7, 3) := by decide +kernel
theorem dX11_number_27 : decode cX11_number 27 = .ok (.iconst 1, 1) := by decide +kernel
theorem dX11_number_28 : decode cX11_number 28 = .ok (.goto 4, 3) := by decide +kernel
theorem dX11_number_31 : decode cX11_number 31 = .ok (.iconst 0, 1) := by decide +kernel
theorem dX11_number_32 : decode cX11_number 32 = .ok (.istore 4, 2) := by decide +kernel
theorem dX11_number_34 : decode cX11_number 34 = .ok (.iload 4, 2) := by decide +kernel
theorem dX11_number_36 : decode cX11_number 36 = .ok (.ifCond .eq 15, 3) := by decide +kernel
theorem dX11_number_39 : decode cX11_number 39 = .ok (.iload_n 3, 1) := by decide +kernel
theorem dX11_number_40 : decode cX11_number 40 = .ok (.ldc 103, 2) := by decide +kernel
theorem dX11_number_42 : decode cX11_number 42 = .ok (.if_icmp .lt 9, 3) := by decide +kernel
theorem dX11_number_45 : decode cX11_number 45 = .ok (.iload_n 3, 1) := by decide +kernel
theorem dX11_number_46 : decode cX11_number 46 = .ok (.ldc 79, 2) := by decide +kernel
theorem dX11_number_48 : decode cX11_number 48 = .ok (.if_icmp .le 5, 3) := by decide +kernel
theorem dX11_number_51 : decode cX11_number 51 = .ok (.iconst 0, 1) := by decide +kernel
theorem dX11_number_52 : decode cX11_number 52 = .ok (.ireturn, 1) := by decide +kernel
theorem dX11_number_53 : decode cX11_number 53 = .ok (.aload_n 0, 1) := by decide +kernel
theorem dX11_number_54 : decode cX11_number 54 = .ok (.getfield 22, 3) := by decide +kernel
theorem dX11_number_57 : decode cX11_number 57 = .ok (.getfield 104, 3) := by decide +kernel
theorem dX11_number_60 : decode cX11_number 60 = .ok (.iload_n 1, 1) := by decide +kernel
theorem dX11_number_61 : decode cX11_number 61 = .ok (.iconst 4, 1) := by decide +kernel
theorem dX11_number_62 : decode cX11_number 62 = .ok (.imul, 1) := by decide +kernel
theorem dX11_number_63 : decode cX11_number 63 = .ok (.iload_n 2, 1) := by decide +kernel
theorem dX11_number_64 : decode cX11_number 64 = .ok (.iadd, 1) := by decide +kernel
theorem dX11_number_65 : decode cX11_number 65 = .ok (.iload_n 3, 1) := by decide +kernel
theorem dX11_number_66 : decode cX11_number 66 = .ok (.iastore, 1) := by decide +kernel
theorem dX11_number_67 : decode cX11_number 67 = .ok (.iconst 1, 1) := by decide +kernel
theorem dX11_number_68 : decode cX11_number 68 = .ok (.ireturn, 1) := by decide +kernel
def fX11_number_32  (h : PH) (x0 : Nat) (x1 : Int32) (x2 : Int32) (x3 : Int32) (s0 : Int32) : Option (PH × Int32) :=
  if s0 = 0 then (some (h, 0)) else (if x3 < (-999999) then (some (h, 0)) else (if x3 ≤ 999999 then (oC (decide (hT h x0 = 12)) (oN (hR h 1410 x0) (fun a5 => oC (decide (hT h a5 = 2)) (oN (hR h 134 a5) (fun a7 => oC (decide (hT h a7 = 101)) (oC (ix ((x1 * 4) + x2) (hN h a7)) (oL (sA h a7 (Int32.toNatClampNeg ((x1 * 4) + x2)) x3) (fun h10 => some (h10, 1))))))))) else (some (h, 0))))
set_option maxHeartbeats 4000000 in
theorem wfX11_number_32 {args : Array Value} (b : Bd p s m c cX11_number 5 RX11 D aC) (hlk : meth.locks = false) (hr : meth.sig.returnType = some .boolean) {Z : State → Prop} (zs : Z s) (zk : ZOK Z (Rg ad)) {hz : PH} {rz : Int32} {h : PH} {x0 : Nat} {x1 : Int32} {x2 : Int32} {x3 : Int32} {s0 : Int32}  {H : Heap} {locs : List Loc} {ls : Array Slot} (hf : fX11_number_32 h x0 x1 x2 x3 s0 = some (hz, rz)) (hE : CE (EX D aC ad h) (Rg ad) s H locs) (hl : lv_has ls 5 [(0, .ref (ad x0)), (1, .int x1), (2, .int x2), (3, .int x3)]) : W p l e (RM 0 0 0 0) s m args below meth c H locs 0 0 (MQ below (PQ (EX D aC ad hz) (Rg ad) (some (.int rz))) args s 0 0 (Rg ad)) (F0 m 32 ls [.int s0]) := by
  unfold fX11_number_32 at hf
  refine lv_istore (lv' := [(4, .int s0), (0, .ref (ad x0)), (1, .int x1), (2, .int x2), (3, .int x3)]) b.1 b.2.1 dX11_number_32 hl (by decide) rfl (fun ls hl => ?_)
  refine lv_iload b.1 b.2.1 dX11_number_34 (lv_at hl 0 rfl) ?_
  refine lv_if_eq (tgt := 51) b.1 b.2.1 dX11_number_36 (by decide) (fun c1 => ?_) (fun c1 => ?_)
  · have hf := oI_t c1 hf
    refine lv_iconst (v := 0) b.1 b.2.1 dX11_number_51 (by decide) ?_
    cases hf
    exact k_zret b hlk hr (by decide) hE (Nat.le_refl _) (Nat.le_refl _) dX11_number_52
  · have hf := oI_f c1 hf
    refine lv_iload_n b.1 b.2.1 dX11_number_39 rfl (lv_at hl 4 rfl) ?_
    refine k_ldc (v := (-999999)) b (in4 3 rfl rfl) dX11_number_40 ?_
    refine lv_icmp_lt (tgt := 51) b.1 b.2.1 dX11_number_42 (by decide) (fun c2 => ?_) (fun c2 => ?_)
    · have hf := oI_t c2 hf
      refine lv_iconst (v := 0) b.1 b.2.1 dX11_number_51 (by decide) ?_
      cases hf
      exact k_zret b hlk hr (by decide) hE (Nat.le_refl _) (Nat.le_refl _) dX11_number_52
    · have hf := oI_f c2 hf
      refine lv_iload_n b.1 b.2.1 dX11_number_45 rfl (lv_at hl 4 rfl) ?_
      refine k_ldc (v := 999999) b (in3 203 rfl rfl) dX11_number_46 ?_
      refine lv_icmp_le (tgt := 53) b.1 b.2.1 dX11_number_48 (by decide) (fun c3 => ?_) (fun c3 => ?_)
      · have hf := oI_t c3 hf
        refine lv_aload_n b.1 b.2.1 dX11_number_53 rfl (lv_at hl 1 rfl) ?_
        obtain ⟨t4, hf⟩ := oC_s hf
        have t4 := of_decide_eq_true t4
        refine gX11_22 (x := (some x0)) b hE rfl t4 dX11_number_54 ?_
        obtain ⟨a5, ea5, hf⟩ := oN_s hf
        obtain ⟨t6, hf⟩ := oC_s hf
        have t6 := of_decide_eq_true t6
        refine gX11_104 (x := (hR h 1410 x0)) b hE ea5 t6 dX11_number_57 ?_
        refine lv_iload_n b.1 b.2.1 dX11_number_60 rfl (lv_at hl 2 rfl) ?_
        refine lv_iconst (v := 4) b.1 b.2.1 dX11_number_61 (by decide) ?_
        refine lv_imul b.1 b.2.1 dX11_number_62 ?_
        refine lv_iload_n b.1 b.2.1 dX11_number_63 rfl (lv_at hl 3 rfl) ?_
        refine lv_iadd b.1 b.2.1 dX11_number_64 ?_
        refine lv_iload_n b.1 b.2.1 dX11_number_65 rfl (lv_at hl 4 rfl) ?_
        obtain ⟨a7, ea7, hf⟩ := oN_s hf
        obtain ⟨t8, hf⟩ := oC_s hf
        have t8 := of_decide_eq_true t8
        obtain ⟨g9, hf⟩ := oC_s hf
        obtain ⟨h10, eh10, hf⟩ := oL_s hf
        refine q_iast (x := (hR h 134 a5)) b hE ea7 t8 g9 eh10 dX11_number_66 (fun H locs hE => ?_)
        refine lv_iconst (v := 1) b.1 b.2.1 dX11_number_67 (by decide) ?_
        cases hf
        exact k_zret b hlk hr (by decide) hE (Nat.le_refl _) (Nat.le_refl _) dX11_number_68
      · have hf := oI_f c3 hf
        refine lv_iconst (v := 0) b.1 b.2.1 dX11_number_51 (by decide) ?_
        cases hf
        exact k_zret b hlk hr (by decide) hE (Nat.le_refl _) (Nat.le_refl _) dX11_number_52
def fX11_number_0  (h : PH) (x0 : Nat) (x1 : Int32) (x2 : Int32) (x3 : Int32) : Option (PH × Int32) :=
  if x1 < 0 then (fX11_number_32  h x0 x1 x2 x3 0) else (oC (decide (hT h x0 = 12)) (oN (hR h 1410 x0) (fun a13 => oC (decide (hT h a13 = 2)) (oN (hR h 128 a13) (fun a15 => oC (decide (hT h a15 = 8)) (if (hI h 897 a15) ≤ x1 then (fX11_number_32  h x0 x1 x2 x3 0) else (if x2 < 0 then (fX11_number_32  h x0 x1 x2 x3 0) else (if 4 ≤ x2 then (fX11_number_32  h x0 x1 x2 x3 0) else (fX11_number_32  h x0 x1 x2 x3 1)))))))))
set_option maxHeartbeats 4000000 in
theorem wfX11_number_0 {args : Array Value} (b : Bd p s m c cX11_number 5 RX11 D aC) (hlk : meth.locks = false) (hr : meth.sig.returnType = some .boolean) {Z : State → Prop} (zs : Z s) (zk : ZOK Z (Rg ad)) {hz : PH} {rz : Int32} {h : PH} {x0 : Nat} {x1 : Int32} {x2 : Int32} {x3 : Int32}  {H : Heap} {locs : List Loc} {ls : Array Slot} (hf : fX11_number_0 h x0 x1 x2 x3 = some (hz, rz)) (hE : CE (EX D aC ad h) (Rg ad) s H locs) (hl : lv_has ls 5 [(0, .ref (ad x0)), (1, .int x1), (2, .int x2), (3, .int x3)]) : W p l e (RM 0 0 0 0) s m args below meth c H locs 0 0 (MQ below (PQ (EX D aC ad hz) (Rg ad) (some (.int rz))) args s 0 0 (Rg ad)) (F0 m 0 ls []) := by
  unfold fX11_number_0 at hf
  refine lv_iload_n b.1 b.2.1 dX11_number_0 rfl (lv_at hl 1 rfl) ?_
  refine lv_if_lt (tgt := 31) b.1 b.2.1 dX11_number_1 (by decide) (fun c11 => ?_) (fun c11 => ?_)
  · have hf := oI_t c11 hf
    refine lv_iconst (v := 0) b.1 b.2.1 dX11_number_31 (by decide) ?_
    exact wfX11_number_32 b hlk hr zs zk  hf hE (lv_sub hl [0, 1, 2, 3] rfl)
  · have hf := oI_f c11 hf
    refine lv_iload_n b.1 b.2.1 dX11_number_4 rfl (lv_at hl 1 rfl) ?_
    refine lv_aload_n b.1 b.2.1 dX11_number_5 rfl (lv_at hl 0 rfl) ?_
    obtain ⟨t12, hf⟩ := oC_s hf
    have t12 := of_decide_eq_true t12
    refine gX11_22 (x := (some x0)) b hE rfl t12 dX11_number_6 ?_
    obtain ⟨a13, ea13, hf⟩ := oN_s hf
    obtain ⟨t14, hf⟩ := oC_s hf
    have t14 := of_decide_eq_true t14
    refine gX11_89 (x := (hR h 1410 x0)) b hE ea13 t14 dX11_number_9 ?_
    obtain ⟨a15, ea15, hf⟩ := oN_s hf
    obtain ⟨t16, hf⟩ := oC_s hf
    have t16 := of_decide_eq_true t16
    refine gX11_84 (x := (hR h 128 a13)) b hE ea15 t16 dX11_number_12 ?_
    refine lv_icmp_ge (tgt := 31) b.1 b.2.1 dX11_number_15 (by decide) (fun c17 => ?_) (fun c17 => ?_)
    · have hf := oI_t c17 hf
      refine lv_iconst (v := 0) b.1 b.2.1 dX11_number_31 (by decide) ?_
      exact wfX11_number_32 b hlk hr zs zk  hf hE (lv_sub hl [0, 1, 2, 3] rfl)
    · have hf := oI_f c17 hf
      refine lv_iload_n b.1 b.2.1 dX11_number_18 rfl (lv_at hl 2 rfl) ?_
      refine lv_if_lt (tgt := 31) b.1 b.2.1 dX11_number_19 (by decide) (fun c18 => ?_) (fun c18 => ?_)
      · have hf := oI_t c18 hf
        refine lv_iconst (v := 0) b.1 b.2.1 dX11_number_31 (by decide) ?_
        exact wfX11_number_32 b hlk hr zs zk  hf hE (lv_sub hl [0, 1, 2, 3] rfl)
      · have hf := oI_f c18 hf
        refine lv_iload_n b.1 b.2.1 dX11_number_22 rfl (lv_at hl 2 rfl) ?_
        refine lv_iconst (v := 4) b.1 b.2.1 dX11_number_23 (by decide) ?_
        refine lv_icmp_ge (tgt := 31) b.1 b.2.1 dX11_number_24 (by decide) (fun c19 => ?_) (fun c19 => ?_)
        · have hf := oI_t c19 hf
          refine lv_iconst (v := 0) b.1 b.2.1 dX11_number_31 (by decide) ?_
          exact wfX11_number_32 b hlk hr zs zk  hf hE (lv_sub hl [0, 1, 2, 3] rfl)
        · have hf := oI_f c19 hf
          refine lv_iconst (v := 1) b.1 b.2.1 dX11_number_27 (by decide) ?_
          refine lv_goto (tgt := 32) b.1 b.2.1 dX11_number_28 (by decide) ?_
          exact wfX11_number_32 b hlk hr zs zk  hf hE (lv_sub hl [0, 1, 2, 3] rfl)
def fX11_number (h : PH) (x0 : Nat) (x1 : Int32) (x2 : Int32) (x3 : Int32) : Option (PH × Int32) := fX11_number_0 h x0 x1 x2 x3
set_option maxHeartbeats 4000000 in
theorem CX11_number (l : Launch) (D : va_G) (aC : Nat → ClassId) (ad : Nat → Nat) {Z : State → Prop} (zk : ZOK Z (Rg ad)) {h : PH} {x0 : Nat} {x1 : Int32} {x2 : Int32} {x3 : Int32} {hz : PH} {rz : Int32} (hf : fX11_number h x0 x1 x2 x3 = some (hz, rz)) : CM l D aC Z yX11_number cX11_number 5 (some .boolean) 0 0 0 0 (EX D aC ad h) [.ref (ad x0), .int x1, .int x2, .int x3] (EX D aC ad hz) (some (.int rz)) (Rg ad) := by
  refine CM.of rfl ?_
  intro p e s m below meth c b hr hlk hin2 zs hE
  refine k_ent (Nat.le_of_ble_eq_true rfl) (fun ls hl => ?_)
  exact wfX11_number_0 b hlk hr zs zk hf hE (lv_sub hl [0, 1, 2, 3] rfl)
theorem dX11_isDay_0 : decode cX11_isDay 0 = .ok (.iload_n 0, 1) := by decide +kernel
theorem dX11_isDay_1 : decode cX11_isDay 1 = .ok (.ifCond .lt 13, 3) := by decide +kernel
theorem dX11_isDay_4 : decode cX11_isDay 4 = .ok (.iload_n 0, 1) := by decide +kernel
theorem dX11_isDay_5 : decode cX11_isDay 5 = .ok (.ldc 79, 2) := by decide +kernel
theorem dX11_isDay_7 : decode cX11_isDay 7 = .ok (.if_icmp .gt 7, 3) := by decide +kernel
theorem dX11_isDay_10 : decode cX11_isDay 10 = .ok (.iconst 1, 1) := by decide +kernel
theorem dX11_isDay_11 : decode cX11_isDay 11 = .ok (.goto 4, 3) := by decide +kernel
theorem dX11_isDay_14 : decode cX11_isDay 14 = .ok (.iconst 0, 1) := by decide +kernel
theorem dX11_isDay_15 : decode cX11_isDay 15 = .ok (.ireturn, 1) := by decide +kernel
def fX11_isDay_0  (x0 : Int32) : Option (Int32) :=
  if x0 < 0 then (some (0)) else (if 999999 < x0 then (some (0)) else (some (1)))
set_option maxHeartbeats 4000000 in
theorem wfX11_isDay_0 {E : Heap → Prop} {A : Nat → Prop} {args : Array Value} (b : Bd p s m c cX11_isDay 1 RX11 D aC) (hlk : meth.locks = false) (hr : meth.sig.returnType = some .boolean) {Z : State → Prop} (zs : Z s) (zk : ZOK Z A) {rz : Int32} {x0 : Int32}  {H : Heap} {locs : List Loc} {ls : Array Slot} (hf : fX11_isDay_0 x0 = some rz) (hE : CE E A s H locs) (hl : lv_has ls 1 [(0, .int x0)]) : W p l e (RM 0 0 0 0) s m args below meth c H locs 0 0 (MQ below (PQ E A (some (.int rz))) args s 0 0 A) (F0 m 0 ls []) := by
  unfold fX11_isDay_0 at hf
  refine lv_iload_n b.1 b.2.1 dX11_isDay_0 rfl (lv_at hl 0 rfl) ?_
  refine lv_if_lt (tgt := 14) b.1 b.2.1 dX11_isDay_1 (by decide) (fun c1 => ?_) (fun c1 => ?_)
  · have hf := oI_t c1 hf
    refine lv_iconst (v := 0) b.1 b.2.1 dX11_isDay_14 (by decide) ?_
    cases hf
    exact k_zret b hlk hr (by decide) hE (Nat.le_refl _) (Nat.le_refl _) dX11_isDay_15
  · have hf := oI_f c1 hf
    refine lv_iload_n b.1 b.2.1 dX11_isDay_4 rfl (lv_at hl 0 rfl) ?_
    refine k_ldc (v := 999999) b (in3 203 rfl rfl) dX11_isDay_5 ?_
    refine lv_icmp_gt (tgt := 14) b.1 b.2.1 dX11_isDay_7 (by decide) (fun c2 => ?_) (fun c2 => ?_)
    · have hf := oI_t c2 hf
      refine lv_iconst (v := 0) b.1 b.2.1 dX11_isDay_14 (by decide) ?_
      cases hf
      exact k_zret b hlk hr (by decide) hE (Nat.le_refl _) (Nat.le_refl _) dX11_isDay_15
    · have hf := oI_f c2 hf
      refine lv_iconst (v := 1) b.1 b.2.1 dX11_isDay_10 (by decide) ?_
      refine lv_goto (tgt := 15) b.1 b.2.1 dX11_isDay_11 (by decide) ?_
      cases hf
      exact k_zret b hlk hr (by decide) hE (Nat.le_refl _) (Nat.le_refl _) dX11_isDay_15
def fX11_isDay (x0 : Int32) : Option (Int32) := fX11_isDay_0 x0
set_option maxHeartbeats 4000000 in
theorem CX11_isDay (l : Launch) (D : va_G) (aC : Nat → ClassId) {E : Heap → Prop} {A : Nat → Prop} {Z : State → Prop} (zk : ZOK Z A) {x0 : Int32} {rz : Int32} (hf : fX11_isDay x0 = some rz) : CM l D aC Z yX11_isDay cX11_isDay 1 (some .boolean) 0 0 0 0 E [.int x0] E (some (.int rz)) A := by
  refine CM.of rfl ?_
  intro p e s m below meth c b hr hlk hin2 zs hE
  refine k_ent (Nat.le_of_ble_eq_true rfl) (fun ls hl => ?_)
  exact wfX11_isDay_0 b hlk hr zs zk hf hE (lv_sub hl [0] rfl)
end
