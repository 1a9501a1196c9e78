section
variable {p : Program} {l : Launch} {e : Env} {s : State} {m : MethodId} {below : List Frame} {meth : Method} {c : Code} {D : va_G} {aC : Nat → ClassId} {ad : Nat → Nat}
theorem dX4_tellOver_0 : decode cX4_tellOver 0 = .ok (.aload_n 0, 1) := by decide +kernel
theorem dX4_tellOver_1 : decode cX4_tellOver 1 = .ok (.getfield 25, 3) := by decide +kernel
theorem dX4_tellOver_4 : decode cX4_tellOver 4 = .ok (.getfield 201, 3) := by decide +kernel
theorem dX4_tellOver_7 : decode cX4_tellOver 7 = .ok (.aload_n 0, 1) := by decide +kernel
theorem dX4_tellOver_8 : decode cX4_tellOver 8 = .ok (.getfield 37, 3) := by decide +kernel
theorem dX4_tellOver_11 : decode cX4_tellOver 11 = .ok (.iadd, 1) := by decide +kernel
theorem dX4_tellOver_12 : decode cX4_tellOver 12 = .ok (.bipush 20, 2) := by decide +kernel
theorem dX4_tellOver_14 : decode cX4_tellOver 14 = .ok (.if_icmp .lt 8, 3) := by decide +kernel
theorem dX4_tellOver_17 : decode cX4_tellOver 17 = .ok (.aload_n 0, 1) := by decide +kernel
theorem dX4_tellOver_18 : decode cX4_tellOver 18 = .ok (.iconst 2, 1) := by decide +kernel
theorem dX4_tellOver_19 : decode cX4_tellOver 19 = .ok (.invokevirtual 89, 3) := by decide +kernel
theorem dX4_tellOver_22 : decode cX4_tellOver 22 = .ok (.aload_n 0, 1) := by decide +kernel
theorem dX4_tellOver_23 : decode cX4_tellOver 23 = .ok (.sipush 308, 3) := by decide +kernel
theorem dX4_tellOver_26 : decode cX4_tellOver 26 = .ok (.invokevirtual 63, 3) := by decide +kernel
theorem dX4_tellOver_29 : decode cX4_tellOver 29 = .ok (.pop, 1) := by decide +kernel
theorem dX4_tellOver_30 : decode cX4_tellOver 30 = .ok (.aload_n 0, 1) := by decide +kernel
theorem dX4_tellOver_31 : decode cX4_tellOver 31 = .ok (.getfield 146, 3) := by decide +kernel
theorem dX4_tellOver_34 : decode cX4_tellOver 34 = .ok (.istore_n 1, 1) := by decide +kernel
theorem dX4_tellOver_35 : decode cX4_tellOver 35 = .ok (.aload_n 0, 1) := by decide +kernel
theorem dX4_tellOver_36 : decode cX4_tellOver 36 = .ok (.sipush 260, 3) := by decide +kernel
theorem dX4_tellOver_39 : decode cX4_tellOver 39 = .ok (.invokevirtual 63, 3) := by decide +kernel
theorem dX4_tellOver_42 : decode cX4_tellOver 42 = .ok (.pop, 1) := by decide +kernel
theorem dX4_tellOver_43 : decode cX4_tellOver 43 = .ok (.aload_n 0, 1) := by decide +kernel
theorem dX4_tellOver_44 : decode cX4_tellOver 44 = .ok (.sipush 260, 3) := by decide +kernel
theorem dX4_tellOver_47 : decode cX4_tellOver 47 = .ok (.invokevirtual 63, 3) := by decide +kernel
theorem dX4_tellOver_50 : decode cX4_tellOver 50 = .ok (.pop, 1) := by decide +kernel
theorem dX4_tellOver_51 : decode cX4_tellOver 51 = .ok (.aload_n 0, 1) := by decide +kernel
theorem dX4_tellOver_52 : decode cX4_tellOver 52 = .ok (.bipush 59, 2) := by decide +kernel
theorem dX4_tellOver_54 : decode cX4_tellOver 54 = .ok (.invokevirtual 63, 3) := by decide +kernel
theorem dX4_tellOver_57 : decode cX4_tellOver 57 = .ok (.ifCond .eq 32, 3) := by decide +kernel
theorem dX4_tellOver_60 : decode cX4_tellOver 60 = .ok (.aload_n 0, 1) := by decide +kernel
theorem dX4_tellOver_61 : decode cX4_tellOver 61 = .ok (.getfield 37, 3) := by decide +kernel
theorem dX4_tellOver_64 : decode cX4_tellOver 64 = .ok (.bipush 20, 2) := by decide +kernel
theorem dX4_tellOver_66 : decode cX4_tellOver 66 = .ok (.if_icmp .ge 23, 3) := by decide +kernel
theorem dX4_tellOver_69 : decode cX4_tellOver 69 = .ok (.aload_n 0, 1) := by decide +kernel
theorem dX4_tellOver_70 : decode cX4_tellOver 70 = .ok (.getfield 22, 3) := by decide +kernel
theorem dX4_tellOver_73 : decode cX4_tellOver 73 = .ok (.aload_n 0, 1) := by decide +kernel
theorem dX4_tellOver_74 : decode cX4_tellOver 74 = .ok (.getfield 37, 3) := by decide +kernel
theorem dX4_tellOver_77 : decode cX4_tellOver 77 = .ok (.iload_n 1, 1) := by decide +kernel
theorem dX4_tellOver_78 : decode cX4_tellOver 78 = .ok (.iastore, 1) := by decide +kernel
theorem dX4_tellOver_79 : decode cX4_tellOver 79 = .ok (.aload_n 0, 1) := by decide +kernel
theorem dX4_tellOver_80 : decode cX4_tellOver 80 = .ok (.dup, 1) := by decide +kernel
theorem dX4_tellOver_81 : decode cX4_tellOver 81 = .ok (.getfield 37, 3) := by decide +kernel
theorem dX4_tellOver_84 : decode cX4_tellOver 84 = .ok (.iconst 1, 1) := by decide +kernel
theorem dX4_tellOver_85 : decode cX4_tellOver 85 = .ok (.iadd, 1) := by decide +kernel
theorem dX4_tellOver_86 : decode cX4_tellOver 86 = .ok (.putfield 37, 3) := by decide +kernel
theorem dX4_tellOver_89 : decode cX4_tellOver 89 = .ok (.return_, 1) := by decide +kernel
def fX4_tellOver_22  (h : PH) (x0 : Nat) : Option (PH) :=
  oC (decide (hT h x0 = 5)) (oB2 (fX4_expect h x0 308) (fun h4 r3 => oC (decide (hT h4 x0 = 5)) (oL (hI h4 520 x0) (fun y6 => oB2 (fX4_expect h4 x0 260) (fun h9 r8 => oC (decide (hT h9 x0 = 5)) (oB2 (fX4_expect h9 x0 260) (fun h13 r12 => oC (decide (hT h13 x0 = 5)) (oB2 (fX4_expect h13 x0 59) (fun h17 r16 => if r16 = 0 then (some (h17)) else (oC (decide (hT h17 x0 = 5)) (if 20 ≤ (hI h17 517 x0) then (some (h17)) else (oN (hR h17 515 x0) (fun a21 => oC (decide (hT h17 a21 = 101)) (oC (ix (hI h17 517 x0) (hN h17 a21)) (oL (sA h17 a21 (Int32.toNatClampNeg (hI h17 517 x0)) y6) (fun h24 => oL (sI h24 517 x0 ((hI h24 517 x0) + 1)) (fun h26 => some (h26))))))))))))))))))
set_option maxHeartbeats 4000000 in
theorem wfX4_tellOver_22 {args : Array Value} (b : Bd p s m c cX4_tellOver 2 RX4 D aC) (hlk : meth.locks = false) (hr : meth.sig.returnType = none) {Z : State → Prop} (zs : Z s) (zk : ZOK Z (Rg ad)) {hz : PH} {h : PH} {x0 : Nat}  {H : Heap} {locs : List Loc} {ls : Array Slot} (hf : fX4_tellOver_22 h x0 = some hz) (hE : CE (EX D aC ad h) (Rg ad) s H locs) (hl : lv_has ls 2 [(0, .ref (ad x0))]) : W p l e (RM 2 43 0 0) s m args below meth c H locs 0 0 (MQ below (PQ (EX D aC ad hz) (Rg ad) none) args s 0 0 (Rg ad)) (F0 m 22 ls []) := by
  unfold fX4_tellOver_22 at hf
  refine lv_aload_n b.1 b.2.1 dX4_tellOver_22 rfl (lv_at hl 0 rfl) ?_
  refine lv_sipush (v := 308) b.1 b.2.1 dX4_tellOver_23 (by decide) ?_
  obtain ⟨t1, hf⟩ := oC_s hf
  have t1 := of_decide_eq_true t1
  obtain ⟨h4, r3, hc2, hf⟩ := oB2_s hf
  refine k_callV0 (C := RX4) b zs zk hE (CX4_expect l D aC ad zk hc2) mc_X4_expect (in2 179 rfl rfl) mi_X4_expect ms_X4_expect ini_RX4 ok_X4_expect (x_recv b hE (ci := 4) rfl (by decide) t1) ⟨Nat.le_of_ble_eq_true rfl, Nat.le_of_ble_eq_true rfl⟩ rfl hl.1 rfl (k_room _ (by exact Nat.le_of_ble_eq_true rfl)) ⟨Nat.le_refl _, Nat.le_refl _⟩ dX4_tellOver_26 (fun H locs hE => ?_)
  refine lv_pop b.1 b.2.1 dX4_tellOver_29 rfl ?_
  refine lv_aload_n b.1 b.2.1 dX4_tellOver_30 rfl (lv_at hl 0 rfl) ?_
  obtain ⟨t5, hf⟩ := oC_s hf
  have t5 := of_decide_eq_true t5
  refine gX4_146 (x := (some x0)) b hE rfl t5 dX4_tellOver_31 ?_
  obtain ⟨y6, ey6, hf⟩ := oL_s hf
  refine k_nmI ey6 ?_
  refine lv_istore_n (lv' := [(1, .int y6), (0, .ref (ad x0))]) b.1 b.2.1 dX4_tellOver_34 rfl hl (by decide) rfl (fun ls hl => ?_)
  refine lv_aload_n b.1 b.2.1 dX4_tellOver_35 rfl (lv_at hl 1 rfl) ?_
  refine lv_sipush (v := 260) b.1 b.2.1 dX4_tellOver_36 (by decide) ?_
  obtain ⟨h9, r8, hc7, hf⟩ := oB2_s hf
  refine k_callV0 (C := RX4) b zs zk hE (CX4_expect l D aC ad zk hc7) mc_X4_expect (in2 179 rfl rfl) mi_X4_expect ms_X4_expect ini_RX4 ok_X4_expect (x_recv b hE (ci := 4) rfl (by decide) t5) ⟨Nat.le_of_ble_eq_true rfl, Nat.le_of_ble_eq_true rfl⟩ rfl hl.1 rfl (k_room _ (by exact Nat.le_of_ble_eq_true rfl)) ⟨Nat.le_refl _, Nat.le_refl _⟩ dX4_tellOver_39 (fun H locs hE => ?_)
  refine lv_pop b.1 b.2.1 dX4_tellOver_42 rfl ?_
  refine lv_aload_n b.1 b.2.1 dX4_tellOver_43 rfl (lv_at hl 1 rfl) ?_
  refine lv_sipush (v := 260) b.1 b.2.1 dX4_tellOver_44 (by decide) ?_
  obtain ⟨t10, hf⟩ := oC_s hf
  have t10 := of_decide_eq_true t10
  obtain ⟨h13, r12, hc11, hf⟩ := oB2_s hf
  refine k_callV0 (C := RX4) b zs zk hE (CX4_expect l D aC ad zk hc11) mc_X4_expect (in2 179 rfl rfl) mi_X4_expect ms_X4_expect ini_RX4 ok_X4_expect (x_recv b hE (ci := 4) rfl (by decide) t10) ⟨Nat.le_of_ble_eq_true rfl, Nat.le_of_ble_eq_true rfl⟩ rfl hl.1 rfl (k_room _ (by exact Nat.le_of_ble_eq_true rfl)) ⟨Nat.le_refl _, Nat.le_refl _⟩ dX4_tellOver_47 (fun H locs hE => ?_)
  refine lv_pop b.1 b.2.1 dX4_tellOver_50 rfl ?_
  refine lv_aload_n b.1 b.2.1 dX4_tellOver_51 rfl (lv_at hl 1 rfl) ?_
  refine lv_bipush (v := 59) b.1 b.2.1 dX4_tellOver_52 (by decide) ?_
  obtain ⟨t14, hf⟩ := oC_s hf
  have t14 := of_decide_eq_true t14
  obtain ⟨h17, r16, hc15, hf⟩ := oB2_s hf
  refine k_callV0 (C := RX4) b zs zk hE (CX4_expect l D aC ad zk hc15) mc_X4_expect (in2 179 rfl rfl) mi_X4_expect ms_X4_expect ini_RX4 ok_X4_expect (x_recv b hE (ci := 4) rfl (by decide) t14) ⟨Nat.le_of_ble_eq_true rfl, Nat.le_of_ble_eq_true rfl⟩ rfl hl.1 rfl (k_room _ (by exact Nat.le_of_ble_eq_true rfl)) ⟨Nat.le_refl _, Nat.le_refl _⟩ dX4_tellOver_54 (fun H locs hE => ?_)
  refine lv_if_eq (tgt := 89) b.1 b.2.1 dX4_tellOver_57 (by decide) (fun c18 => ?_) (fun c18 => ?_)
  · have hf := oI_t c18 hf
    cases hf
    exact k_vret b hlk hr hE (Nat.le_refl _) (Nat.le_refl _) dX4_tellOver_89
  · have hf := oI_f c18 hf
    refine lv_aload_n b.1 b.2.1 dX4_tellOver_60 rfl (lv_at hl 1 rfl) ?_
    obtain ⟨t19, hf⟩ := oC_s hf
    have t19 := of_decide_eq_true t19
    refine gX4_37 (x := (some x0)) b hE rfl t19 dX4_tellOver_61 ?_
    refine lv_bipush (v := 20) b.1 b.2.1 dX4_tellOver_64 (by decide) ?_
    refine lv_icmp_ge (tgt := 89) b.1 b.2.1 dX4_tellOver_66 (by decide) (fun c20 => ?_) (fun c20 => ?_)
    · have hf := oI_t c20 hf
      cases hf
      exact k_vret b hlk hr hE (Nat.le_refl _) (Nat.le_refl _) dX4_tellOver_89
    · have hf := oI_f c20 hf
      refine lv_aload_n b.1 b.2.1 dX4_tellOver_69 rfl (lv_at hl 1 rfl) ?_
      refine gX4_22 (x := (some x0)) b hE rfl t19 dX4_tellOver_70 ?_
      refine lv_aload_n b.1 b.2.1 dX4_tellOver_73 rfl (lv_at hl 1 rfl) ?_
      refine gX4_37 (x := (some x0)) b hE rfl t19 dX4_tellOver_74 ?_
      refine lv_iload_n b.1 b.2.1 dX4_tellOver_77 rfl (lv_at hl 0 rfl) ?_
      obtain ⟨a21, ea21, hf⟩ := oN_s hf
      obtain ⟨t22, hf⟩ := oC_s hf
      have t22 := of_decide_eq_true t22
      obtain ⟨g23, hf⟩ := oC_s hf
      obtain ⟨h24, eh24, hf⟩ := oL_s hf
      refine q_iast (x := (hR h17 515 x0)) b hE ea21 t22 g23 eh24 dX4_tellOver_78 (fun H locs hE => ?_)
      refine lv_aload_n b.1 b.2.1 dX4_tellOver_79 rfl (lv_at hl 1 rfl) ?_
      refine lv_dup b.1 b.2.1 dX4_tellOver_80 rfl ?_
      have t25 := tg_sA eh24 t19
      refine gX4_37 (x := (some x0)) b hE rfl t25 dX4_tellOver_81 ?_
      refine lv_iconst (v := 1) b.1 b.2.1 dX4_tellOver_84 (by decide) ?_
      refine lv_iadd b.1 b.2.1 dX4_tellOver_85 ?_
      obtain ⟨h26, eh26, hf⟩ := oL_s hf
      refine pX4_37 (x := (some x0)) b hE rfl t25 eh26 dX4_tellOver_86 (fun H locs hE => ?_)
      cases hf
      exact k_vret b hlk hr hE (Nat.le_refl _) (Nat.le_refl _) dX4_tellOver_89
def fX4_tellOver_0  (h : PH) (x0 : Nat) : Option (PH) :=
  oC (decide (hT h x0 = 5)) (oN (hR h 512 x0) (fun a28 => oC (decide (hT h a28 = 2)) (if ((hI h 139 a28) + (hI h 517 x0)) < 20 then (fX4_tellOver_22  h x0) else (oB (fX4_stopAt h x0 2) (fun h32 => fX4_tellOver_22  h32 x0)))))
set_option maxHeartbeats 4000000 in
theorem wfX4_tellOver_0 {args : Array Value} (b : Bd p s m c cX4_tellOver 2 RX4 D aC) (hlk : meth.locks = false) (hr : meth.sig.returnType = none) {Z : State → Prop} (zs : Z s) (zk : ZOK Z (Rg ad)) {hz : PH} {h : PH} {x0 : Nat}  {H : Heap} {locs : List Loc} {ls : Array Slot} (hf : fX4_tellOver_0 h x0 = some hz) (hE : CE (EX D aC ad h) (Rg ad) s H locs) (hl : lv_has ls 2 [(0, .ref (ad x0))]) : W p l e (RM 2 43 0 0) s m args below meth c H locs 0 0 (MQ below (PQ (EX D aC ad hz) (Rg ad) none) args s 0 0 (Rg ad)) (F0 m 0 ls []) := by
  unfold fX4_tellOver_0 at hf
  refine lv_aload_n b.1 b.2.1 dX4_tellOver_0 rfl (lv_at hl 0 rfl) ?_
  obtain ⟨t27, hf⟩ := oC_s hf
  have t27 := of_decide_eq_true t27
  refine gX4_25 (x := (some x0)) b hE rfl t27 dX4_tellOver_1 ?_
  obtain ⟨a28, ea28, hf⟩ := oN_s hf
  obtain ⟨t29, hf⟩ := oC_s hf
  have t29 := of_decide_eq_true t29
  refine gX4_201 (x := (hR h 512 x0)) b hE ea28 t29 dX4_tellOver_4 ?_
  refine lv_aload_n b.1 b.2.1 dX4_tellOver_7 rfl (lv_at hl 0 rfl) ?_
  refine gX4_37 (x := (some x0)) b hE rfl t27 dX4_tellOver_8 ?_
  refine lv_iadd b.1 b.2.1 dX4_tellOver_11 ?_
  refine lv_bipush (v := 20) b.1 b.2.1 dX4_tellOver_12 (by decide) ?_
  refine lv_icmp_lt (tgt := 22) b.1 b.2.1 dX4_tellOver_14 (by decide) (fun c30 => ?_) (fun c30 => ?_)
  · have hf := oI_t c30 hf
    exact wfX4_tellOver_22 b hlk hr zs zk  hf hE (lv_sub hl [0] rfl)
  · have hf := oI_f c30 hf
    refine lv_aload_n b.1 b.2.1 dX4_tellOver_17 rfl (lv_at hl 0 rfl) ?_
    refine lv_iconst (v := 2) b.1 b.2.1 dX4_tellOver_18 (by decide) ?_
    obtain ⟨h32, hc31, hf⟩ := oB_s hf
    refine k_callV0 (C := RX4) b zs zk hE (CX4_stopAt l D aC ad zk hc31) mc_X4_stopAt (in2 183 rfl rfl) mi_X4_stopAt ms_X4_stopAt ini_RX4 ok_X4_stopAt (x_recv b hE (ci := 4) rfl (by decide) t27) ⟨Nat.le_of_ble_eq_true rfl, Nat.le_of_ble_eq_true rfl⟩ rfl hl.1 rfl (k_room _ (by exact Nat.le_of_ble_eq_true rfl)) ⟨Nat.le_refl _, Nat.le_refl _⟩ dX4_tellOver_19 (fun H locs hE => ?_)
    exact wfX4_tellOver_22 b hlk hr zs zk  hf hE (lv_sub hl [0] rfl)
def fX4_tellOver (h : PH) (x0 : Nat) : Option (PH) := fX4_tellOver_0 h x0
set_option maxHeartbeats 4000000 in
theorem CX4_tellOver (l : Launch) (D : va_G) (aC : Nat → ClassId) (ad : Nat → Nat) {Z : State → Prop} (zk : ZOK Z (Rg ad)) {h : PH} {x0 : Nat} {hz : PH} (hf : fX4_tellOver h x0 = some hz) : CM l D aC Z yX4_tellOver cX4_tellOver 2 (none) 2 43 0 0 (EX D aC ad h) [.ref (ad x0)] (EX D aC ad hz) none (Rg ad) := by
  refine CM.of rfl ?_
  intro p e s m below meth c b hr hlk hin2 zs hE
  refine k_ent (Nat.le_of_ble_eq_true rfl) (fun ls hl => ?_)
  exact wfX4_tellOver_0 b hlk hr zs zk hf hE (lv_sub hl [0] rfl)
theorem dX4_tell_0 : decode cX4_tell 0 = .ok (.aload_n 0, 1) := by decide +kernel
theorem dX4_tell_1 : decode cX4_tell 1 = .ok (.getfield 40, 3) := by decide +kernel
theorem dX4_tell_4 : decode cX4_tell 4 = .ok (.ifCond .eq 17, 3) := by decide +kernel
theorem dX4_tell_7 : decode cX4_tell 7 = .ok (.aload_n 0, 1) := by decide +kernel
theorem dX4_tell_8 : decode cX4_tell 8 = .ok (.sipush 307, 3) := by decide +kernel
theorem dX4_tell_11 : decode cX4_tell 11 = .ok (.invokevirtual 63, 3) := by decide +kernel
theorem dX4_tell_14 : decode cX4_tell 14 = .ok (.pop, 1) := by decide +kernel
theorem dX4_tell_15 : decode cX4_tell 15 = .ok (.aload_n 0, 1) := by decide +kernel
theorem dX4_tell_16 : decode cX4_tell 16 = .ok (.iconst 0, 1) := by decide +kernel
theorem dX4_tell_17 : decode cX4_tell 17 = .ok (.putfield 40, 3) := by decide +kernel
theorem dX4_tell_20 : decode cX4_tell 20 = .ok (.return_, 1) := by decide +kernel
theorem dX4_tell_21 : decode cX4_tell 21 = .ok (.aload_n 0, 1) := by decide +kernel
theorem dX4_tell_22 : decode cX4_tell 22 = .ok (.getfield 60, 3) := by decide +kernel
theorem dX4_tell_25 : decode cX4_tell 25 = .ok (.tableswitch 106 300 308 #[51, 85, 68, 92, 106, 106, 106, 106, 99], 51) := by decide +kernel
theorem dX4_tell_76 : decode cX4_tell 76 = .ok (.aload_n 0, 1) := by decide +kernel
theorem dX4_tell_77 : decode cX4_tell 77 = .ok (.sipush 300, 3) := by decide +kernel
theorem dX4_tell_80 : decode cX4_tell 80 = .ok (.aload_n 0, 1) := by decide +kernel
theorem dX4_tell_81 : decode cX4_tell 81 = .ok (.getfield 25, 3) := by decide +kernel
theorem dX4_tell_84 : decode cX4_tell 84 = .ok (.getfield 67, 3) := by decide +kernel
theorem dX4_tell_87 : decode cX4_tell 87 = .ok (.invokevirtual 73, 3) := by decide +kernel
theorem dX4_tell_90 : decode cX4_tell 90 = .ok (.goto 46, 3) := by decide +kernel
theorem dX4_tell_93 : decode cX4_tell 93 = .ok (.aload_n 0, 1) := by decide +kernel
theorem dX4_tell_94 : decode cX4_tell 94 = .ok (.sipush 302, 3) := by decide +kernel
theorem dX4_tell_97 : decode cX4_tell 97 = .ok (.aload_n 0, 1) := by decide +kernel
theorem dX4_tell_98 : decode cX4_tell 98 = .ok (.getfield 25, 3) := by decide +kernel
theorem dX4_tell_101 : decode cX4_tell 101 = .ok (.getfield 77, 3) := by decide +kernel
theorem dX4_tell_104 : decode cX4_tell 104 = .ok (.invokevirtual 73, 3) := by decide +kernel
theorem dX4_tell_107 : decode cX4_tell 107 = .ok (.goto 29, 3) := by decide +kernel
theorem dX4_tell_110 : decode cX4_tell 110 = .ok (.aload_n 0, 1) := by decide +kernel
theorem dX4_tell_111 : decode cX4_tell 111 = .ok (.invokevirtual 80, 3) := by decide +kernel
theorem dX4_tell_114 : decode cX4_tell 114 = .ok (.goto 22, 3) := by decide +kernel
theorem dX4_tell_117 : decode cX4_tell 117 = .ok (.aload_n 0, 1) := by decide +kernel
theorem dX4_tell_118 : decode cX4_tell 118 = .ok (.invokevirtual 83, 3) := by decide +kernel
theorem dX4_tell_121 : decode cX4_tell 121 = .ok (.goto 15, 3) := by decide +kernel
theorem dX4_tell_124 : decode cX4_tell 124 = .ok (.aload_n 0, 1) := by decide +kernel
theorem dX4_tell_125 : decode cX4_tell 125 = .ok (.invokevirtual 86, 3) := by decide +kernel
theorem dX4_tell_128 : decode cX4_tell 128 = .ok (.goto 8, 3) := by decide +kernel
theorem dX4_tell_131 : decode cX4_tell 131 = .ok (.aload_n 0, 1) := by decide +kernel
theorem dX4_tell_132 : decode cX4_tell 132 = .ok (.iconst 1, 1) := by decide +kernel
theorem dX4_tell_133 : decode cX4_tell 133 = .ok (.invokevirtual 89, 3) := by decide +kernel
theorem dX4_tell_136 : decode cX4_tell 136 = .ok (.return_, 1) := by decide +kernel
def fX4_tell_131  (h : PH) (x0 : Nat) : Option (PH) :=
  oC (decide (hT h x0 = 5)) (oB (fX4_stopAt h x0 1) (fun h3 => some (h3)))
set_option maxHeartbeats 4000000 in
theorem wfX4_tell_131 {args : Array Value} (b : Bd p s m c cX4_tell 1 RX4 D aC) (hlk : meth.locks = false) (hr : meth.sig.returnType = none) {Z : State → Prop} (zs : Z s) (zk : ZOK Z (Rg ad)) {hz : PH} {h : PH} {x0 : Nat}  {H : Heap} {locs : List Loc} {ls : Array Slot} (hf : fX4_tell_131 h x0 = some hz) (hE : CE (EX D aC ad h) (Rg ad) s H locs) (hl : lv_has ls 1 [(0, .ref (ad x0))]) : W p l e (RM 4 91 0 0) s m args below meth c H locs 0 0 (MQ below (PQ (EX D aC ad hz) (Rg ad) none) args s 0 0 (Rg ad)) (F0 m 131 ls []) := by
  unfold fX4_tell_131 at hf
  refine lv_aload_n b.1 b.2.1 dX4_tell_131 rfl (lv_at hl 0 rfl) ?_
  refine lv_iconst (v := 1) b.1 b.2.1 dX4_tell_132 (by decide) ?_
  obtain ⟨t1, hf⟩ := oC_s hf
  have t1 := of_decide_eq_true t1
  obtain ⟨h3, hc2, hf⟩ := oB_s hf
  refine k_callV0 (C := RX4) b zs zk hE (CX4_stopAt l D aC ad zk hc2) mc_X4_stopAt (in2 183 rfl rfl) mi_X4_stopAt ms_X4_stopAt ini_RX4 ok_X4_stopAt (x_recv b hE (ci := 4) rfl (by decide) t1) ⟨Nat.le_of_ble_eq_true rfl, Nat.le_of_ble_eq_true rfl⟩ rfl hl.1 rfl (k_room _ (by exact Nat.le_of_ble_eq_true rfl)) ⟨Nat.le_refl _, Nat.le_refl _⟩ dX4_tell_133 (fun H locs hE => ?_)
  cases hf
  exact k_vret b hlk hr hE (Nat.le_refl _) (Nat.le_refl _) dX4_tell_136
def fX4_tell_0  (h : PH) (x0 : Nat) : Option (PH) :=
  oC (decide (hT h x0 = 5)) (if (hI h 519 x0) = 0 then (oL (hI h 521 x0) (fun y6 => if y6 = 300 then (oN (hR h 512 x0) (fun a8 => oC (decide (hT h a8 = 2)) (oB (fX4_tellOne h x0 300 (hR h 128 a8)) (fun h11 => some (h11))))) else (if y6 = 301 then (oB (fX4_tellWord h x0) (fun h14 => some (h14))) else (if y6 = 302 then (oN (hR h 512 x0) (fun a16 => oC (decide (hT h a16 = 2)) (oB (fX4_tellOne h x0 302 (hR h 130 a16)) (fun h19 => some (h19))))) else (if y6 = 303 then (oB (fX4_tellLaw h x0) (fun h22 => some (h22))) else (if y6 = 304 then (fX4_tell_131  h x0) else (if y6 = 305 then (fX4_tell_131  h x0) else (if y6 = 306 then (fX4_tell_131  h x0) else (if y6 = 307 then (fX4_tell_131  h x0) else (if y6 = 308 then (oB (fX4_tellOver h x0) (fun h29 => some (h29))) else (fX4_tell_131  h x0))))))))))) else (oB2 (fX4_expect h x0 307) (fun h32 r31 => oC (decide (hT h32 x0 = 5)) (oL (sI h32 519 x0 0) (fun h34 => some (h34))))))
set_option maxHeartbeats 4000000 in
theorem wfX4_tell_0 {args : Array Value} (b : Bd p s m c cX4_tell 1 RX4 D aC) (hlk : meth.locks = false) (hr : meth.sig.returnType = none) {Z : State → Prop} (zs : Z s) (zk : ZOK Z (Rg ad)) {hz : PH} {h : PH} {x0 : Nat}  {H : Heap} {locs : List Loc} {ls : Array Slot} (hf : fX4_tell_0 h x0 = some hz) (hE : CE (EX D aC ad h) (Rg ad) s H locs) (hl : lv_has ls 1 [(0, .ref (ad x0))]) : W p l e (RM 4 91 0 0) s m args below meth c H locs 0 0 (MQ below (PQ (EX D aC ad hz) (Rg ad) none) args s 0 0 (Rg ad)) (F0 m 0 ls []) := by
  unfold fX4_tell_0 at hf
  refine lv_aload_n b.1 b.2.1 dX4_tell_0 rfl (lv_at hl 0 rfl) ?_
  obtain ⟨t4, hf⟩ := oC_s hf
  have t4 := of_decide_eq_true t4
  refine gX4_40 (x := (some x0)) b hE rfl t4 dX4_tell_1 ?_
  refine lv_if_eq (tgt := 21) b.1 b.2.1 dX4_tell_4 (by decide) (fun c5 => ?_) (fun c5 => ?_)
  · have hf := oI_t c5 hf
    refine lv_aload_n b.1 b.2.1 dX4_tell_21 rfl (lv_at hl 0 rfl) ?_
    refine gX4_60 (x := (some x0)) b hE rfl t4 dX4_tell_22 ?_
    obtain ⟨y6, ey6, hf⟩ := oL_s hf
    refine k_nmI ey6 ?_
    rcases Decidable.em (y6 = 300) with c7 | c7
    · have hf := oI_t c7 hf
      refine lv_tableIn (tgt := 76) b.1 b.2.1 dX4_tell_25 (off := 51) (by rw [c7]; decide) (by rw [c7]; decide) (by rw [c7] <;> rfl) (by decide) ?_
      refine lv_aload_n b.1 b.2.1 dX4_tell_76 rfl (lv_at hl 0 rfl) ?_
      refine lv_sipush (v := 300) b.1 b.2.1 dX4_tell_77 (by decide) ?_
      refine lv_aload_n b.1 b.2.1 dX4_tell_80 rfl (lv_at hl 0 rfl) ?_
      refine gX4_25 (x := (some x0)) b hE rfl t4 dX4_tell_81 ?_
      obtain ⟨a8, ea8, hf⟩ := oN_s hf
      obtain ⟨t9, hf⟩ := oC_s hf
      have t9 := of_decide_eq_true t9
      refine gX4_67 (x := (hR h 512 x0)) b hE ea8 t9 dX4_tell_84 ?_
      obtain ⟨h11, hc10, hf⟩ := oB_s hf
      refine k_callV0 (C := RX4) b zs zk hE (CX4_tellOne l D aC ad zk hc10) mc_X4_tellOne (in3 127 rfl rfl) mi_X4_tellOne ms_X4_tellOne ini_RX4 ok_X4_tellOne (x_recv b hE (ci := 4) rfl (by decide) t4) ⟨Nat.le_of_ble_eq_true rfl, Nat.le_of_ble_eq_true rfl⟩ rfl hl.1 rfl (k_room _ (by exact Nat.le_of_ble_eq_true rfl)) ⟨Nat.le_refl _, Nat.le_refl _⟩ dX4_tell_87 (fun H locs hE => ?_)
      refine lv_goto (tgt := 136) b.1 b.2.1 dX4_tell_90 (by decide) ?_
      cases hf
      exact k_vret b hlk hr hE (Nat.le_refl _) (Nat.le_refl _) dX4_tell_136
    have hf := oI_f c7 hf
    rcases Decidable.em (y6 = 301) with c12 | c12
    · have hf := oI_t c12 hf
      refine lv_tableIn (tgt := 110) b.1 b.2.1 dX4_tell_25 (off := 85) (by rw [c12]; decide) (by rw [c12]; decide) (by rw [c12] <;> rfl) (by decide) ?_
      refine lv_aload_n b.1 b.2.1 dX4_tell_110 rfl (lv_at hl 0 rfl) ?_
      obtain ⟨h14, hc13, hf⟩ := oB_s hf
      refine k_callV0 (C := RX4) b zs zk hE (CX4_tellWord l D aC ad zk hc13) mc_X4_tellWord (in3 131 rfl rfl) mi_X4_tellWord ms_X4_tellWord ini_RX4 ok_X4_tellWord (x_recv b hE (ci := 4) rfl (by decide) t4) ⟨Nat.le_of_ble_eq_true rfl, Nat.le_of_ble_eq_true rfl⟩ rfl hl.1 rfl (k_room _ (by exact Nat.le_of_ble_eq_true rfl)) ⟨Nat.le_refl _, Nat.le_refl _⟩ dX4_tell_111 (fun H locs hE => ?_)
      refine lv_goto (tgt := 136) b.1 b.2.1 dX4_tell_114 (by decide) ?_
      cases hf
      exact k_vret b hlk hr hE (Nat.le_refl _) (Nat.le_refl _) dX4_tell_136
    have hf := oI_f c12 hf
    rcases Decidable.em (y6 = 302) with c15 | c15
    · have hf := oI_t c15 hf
      refine lv_tableIn (tgt := 93) b.1 b.2.1 dX4_tell_25 (off := 68) (by rw [c15]; decide) (by rw [c15]; decide) (by rw [c15] <;> rfl) (by decide) ?_
      refine lv_aload_n b.1 b.2.1 dX4_tell_93 rfl (lv_at hl 0 rfl) ?_
      refine lv_sipush (v := 302) b.1 b.2.1 dX4_tell_94 (by decide) ?_
      refine lv_aload_n b.1 b.2.1 dX4_tell_97 rfl (lv_at hl 0 rfl) ?_
      refine gX4_25 (x := (some x0)) b hE rfl t4 dX4_tell_98 ?_
      obtain ⟨a16, ea16, hf⟩ := oN_s hf
      obtain ⟨t17, hf⟩ := oC_s hf
      have t17 := of_decide_eq_true t17
      refine gX4_77 (x := (hR h 512 x0)) b hE ea16 t17 dX4_tell_101 ?_
      obtain ⟨h19, hc18, hf⟩ := oB_s hf
      refine k_callV0 (C := RX4) b zs zk hE (CX4_tellOne l D aC ad zk hc18) mc_X4_tellOne (in3 127 rfl rfl) mi_X4_tellOne ms_X4_tellOne ini_RX4 ok_X4_tellOne (x_recv b hE (ci := 4) rfl (by decide) t4) ⟨Nat.le_of_ble_eq_true rfl, Nat.le_of_ble_eq_true rfl⟩ rfl hl.1 rfl (k_room _ (by exact Nat.le_of_ble_eq_true rfl)) ⟨Nat.le_refl _, Nat.le_refl _⟩ dX4_tell_104 (fun H locs hE => ?_)
      refine lv_goto (tgt := 136) b.1 b.2.1 dX4_tell_107 (by decide) ?_
      cases hf
      exact k_vret b hlk hr hE (Nat.le_refl _) (Nat.le_refl _) dX4_tell_136
    have hf := oI_f c15 hf
    rcases Decidable.em (y6 = 303) with c20 | c20
    · have hf := oI_t c20 hf
      refine lv_tableIn (tgt := 117) b.1 b.2.1 dX4_tell_25 (off := 92) (by rw [c20]; decide) (by rw [c20]; decide) (by rw [c20] <;> rfl) (by decide) ?_
      refine lv_aload_n b.1 b.2.1 dX4_tell_117 rfl (lv_at hl 0 rfl) ?_
      obtain ⟨h22, hc21, hf⟩ := oB_s hf
      refine k_callV0 (C := RX4) b zs zk hE (CX4_tellLaw l D aC ad zk hc21) mc_X4_tellLaw (in3 139 rfl rfl) mi_X4_tellLaw ms_X4_tellLaw ini_RX4 ok_X4_tellLaw (x_recv b hE (ci := 4) rfl (by decide) t4) ⟨Nat.le_of_ble_eq_true rfl, Nat.le_of_ble_eq_true rfl⟩ rfl hl.1 rfl (k_room _ (by exact Nat.le_of_ble_eq_true rfl)) ⟨Nat.le_refl _, Nat.le_refl _⟩ dX4_tell_118 (fun H locs hE => ?_)
      refine lv_goto (tgt := 136) b.1 b.2.1 dX4_tell_121 (by decide) ?_
      cases hf
      exact k_vret b hlk hr hE (Nat.le_refl _) (Nat.le_refl _) dX4_tell_136
    have hf := oI_f c20 hf
    rcases Decidable.em (y6 = 304) with c23 | c23
    · have hf := oI_t c23 hf
      refine lv_tableIn (tgt := 131) b.1 b.2.1 dX4_tell_25 (off := 106) (by rw [c23]; decide) (by rw [c23]; decide) (by rw [c23] <;> rfl) (by decide) ?_
      exact wfX4_tell_131 b hlk hr zs zk  hf hE (lv_sub hl [0] rfl)
    have hf := oI_f c23 hf
    rcases Decidable.em (y6 = 305) with c24 | c24
    · have hf := oI_t c24 hf
      refine lv_tableIn (tgt := 131) b.1 b.2.1 dX4_tell_25 (off := 106) (by rw [c24]; decide) (by rw [c24]; decide) (by rw [c24] <;> rfl) (by decide) ?_
      exact wfX4_tell_131 b hlk hr zs zk  hf hE (lv_sub hl [0] rfl)
    have hf := oI_f c24 hf
    rcases Decidable.em (y6 = 306) with c25 | c25
    · have hf := oI_t c25 hf
      refine lv_tableIn (tgt := 131) b.1 b.2.1 dX4_tell_25 (off := 106) (by rw [c25]; decide) (by rw [c25]; decide) (by rw [c25] <;> rfl) (by decide) ?_
      exact wfX4_tell_131 b hlk hr zs zk  hf hE (lv_sub hl [0] rfl)
    have hf := oI_f c25 hf
    rcases Decidable.em (y6 = 307) with c26 | c26
    · have hf := oI_t c26 hf
      refine lv_tableIn (tgt := 131) b.1 b.2.1 dX4_tell_25 (off := 106) (by rw [c26]; decide) (by rw [c26]; decide) (by rw [c26] <;> rfl) (by decide) ?_
      exact wfX4_tell_131 b hlk hr zs zk  hf hE (lv_sub hl [0] rfl)
    have hf := oI_f c26 hf
    rcases Decidable.em (y6 = 308) with c27 | c27
    · have hf := oI_t c27 hf
      refine lv_tableIn (tgt := 124) b.1 b.2.1 dX4_tell_25 (off := 99) (by rw [c27]; decide) (by rw [c27]; decide) (by rw [c27] <;> rfl) (by decide) ?_
      refine lv_aload_n b.1 b.2.1 dX4_tell_124 rfl (lv_at hl 0 rfl) ?_
      obtain ⟨h29, hc28, hf⟩ := oB_s hf
      refine k_callV0 (C := RX4) b zs zk hE (CX4_tellOver l D aC ad zk hc28) mc_X4_tellOver (in3 147 rfl rfl) mi_X4_tellOver ms_X4_tellOver ini_RX4 ok_X4_tellOver (x_recv b hE (ci := 4) rfl (by decide) t4) ⟨Nat.le_of_ble_eq_true rfl, Nat.le_of_ble_eq_true rfl⟩ rfl hl.1 rfl (k_room _ (by exact Nat.le_of_ble_eq_true rfl)) ⟨Nat.le_refl _, Nat.le_refl _⟩ dX4_tell_125 (fun H locs hE => ?_)
      refine lv_goto (tgt := 136) b.1 b.2.1 dX4_tell_128 (by decide) ?_
      cases hf
      exact k_vret b hlk hr hE (Nat.le_refl _) (Nat.le_refl _) dX4_tell_136
    have hf := oI_f c27 hf
    have c7 := lv_neT (a := 300) c7 (by decide)
    have c12 := lv_neT (a := 301) c12 (by decide)
    have c15 := lv_neT (a := 302) c15 (by decide)
    have c20 := lv_neT (a := 303) c20 (by decide)
    have c23 := lv_neT (a := 304) c23 (by decide)
    have c24 := lv_neT (a := 305) c24 (by decide)
    have c25 := lv_neT (a := 306) c25 (by decide)
    have c26 := lv_neT (a := 307) c26 (by decide)
    have c27 := lv_neT (a := 308) c27 (by decide)
    refine lv_tableOut (tgt := 131) b.1 b.2.1 dX4_tell_25 (by omega) (by decide) ?_
    exact wfX4_tell_131 b hlk hr zs zk  hf hE (lv_sub hl [0] rfl)
  · have hf := oI_f c5 hf
    refine lv_aload_n b.1 b.2.1 dX4_tell_7 rfl (lv_at hl 0 rfl) ?_
    refine lv_sipush (v := 307) b.1 b.2.1 dX4_tell_8 (by decide) ?_
    obtain ⟨h32, r31, hc30, hf⟩ := oB2_s hf
    refine k_callV0 (C := RX4) b zs zk hE (CX4_expect l D aC ad zk hc30) mc_X4_expect (in2 179 rfl rfl) mi_X4_expect ms_X4_expect ini_RX4 ok_X4_expect (x_recv b hE (ci := 4) rfl (by decide) t4) ⟨Nat.le_of_ble_eq_true rfl, Nat.le_of_ble_eq_true rfl⟩ rfl hl.1 rfl (k_room _ (by exact Nat.le_of_ble_eq_true rfl)) ⟨Nat.le_refl _, Nat.le_refl _⟩ dX4_tell_11 (fun H locs hE => ?_)
    refine lv_pop b.1 b.2.1 dX4_tell_14 rfl ?_
    refine lv_aload_n b.1 b.2.1 dX4_tell_15 rfl (lv_at hl 0 rfl) ?_
    refine lv_iconst (v := 0) b.1 b.2.1 dX4_tell_16 (by decide) ?_
    obtain ⟨t33, hf⟩ := oC_s hf
    have t33 := of_decide_eq_true t33
    obtain ⟨h34, eh34, hf⟩ := oL_s hf
    refine pX4_40 (x := (some x0)) b hE rfl t33 (by decide) eh34 dX4_tell_17 (fun H locs hE => ?_)
    cases hf
    exact k_vret b hlk hr hE (Nat.le_refl _) (Nat.le_refl _) dX4_tell_20
def fX4_tell (h : PH) (x0 : Nat) : Option (PH) := fX4_tell_0 h x0
set_option maxHeartbeats 4000000 in
theorem CX4_tell (l : Launch) (D : va_G) (aC : Nat → ClassId) (ad : Nat → Nat) {Z : State → Prop} (zk : ZOK Z (Rg ad)) {h : PH} {x0 : Nat} {hz : PH} (hf : fX4_tell h x0 = some hz) : CM l D aC Z yX4_tell cX4_tell 1 (none) 4 91 0 0 (EX D aC ad h) [.ref (ad x0)] (EX D aC ad hz) none (Rg ad) := by
  refine CM.of rfl ?_
  intro p e s m below meth c b hr hlk hin2 zs hE
  refine k_ent (Nat.le_of_ble_eq_true rfl) (fun ls hl => ?_)
  exact wfX4_tell_0 b hlk hr zs zk hf hE (lv_sub hl [0] rfl)
theorem dX8_newCondition_0 : decode cX8_newCondition 0 = .ok (.aload_n 0, 1) := by decide +kernel
theorem dX8_newCondition_1 : decode cX8_newCondition 1 = .ok (.getfield 22, 3) := by decide +kernel
theorem dX8_newCondition_4 : decode cX8_newCondition 4 = .ok (.bipush 6, 2) := by decide +kernel
theorem dX8_newCondition_6 : decode cX8_newCondition 6 = .ok (.if_icmp .lt 5, 3) := by decide +kernel
theorem dX8_newCondition_9 : decode cX8_newCondition 9 = .ok (.aconst_null, 1) := by decide +kernel
theorem dX8_newCondition_10 : decode cX8_newCondition 10 = .ok (.areturn, 1) := by decide +kernel
theorem dX8_newCondition_11 : decode cX8_newCondition 11 = .ok (.aload_n 0, 1) := by decide +kernel
theorem dX8_newCondition_12 : decode cX8_newCondition 12 = .ok (.getfield 11, 3) := by decide +kernel
theorem dX8_newCondition_15 : decode cX8_newCondition 15 = .ok (.aload_n 0, 1) := by decide +kernel
theorem dX8_newCondition_16 : decode cX8_newCondition 16 = .ok (.getfield 22, 3) := by decide +kernel
theorem dX8_newCondition_19 : decode cX8_newCondition 19 = .ok (.aaload, 1) := by decide +kernel
theorem dX8_newCondition_20 : decode cX8_newCondition 20 = .ok (.ifnonnull 19, 3) := by decide +kernel
theorem dX8_newCondition_23 : decode cX8_newCondition 23 = .ok (.aload_n 0, 1) := by decide +kernel
theorem dX8_newCondition_24 : decode cX8_newCondition 24 = .ok (.getfield 11, 3) := by decide +kernel
theorem dX8_newCondition_27 : decode cX8_newCondition 27 = .ok (.aload_n 0, 1) := by decide +kernel
theorem dX8_newCondition_28 : decode cX8_newCondition 28 = .ok (.getfield 22, 3) := by decide +kernel
theorem dX8_newCondition_31 : decode cX8_newCondition 31 = .ok (.new 9, 3) := by decide +kernel
theorem dX8_newCondition_34 : decode cX8_newCondition 34 = .ok (.dup, 1) := by decide +kernel
theorem dX8_newCondition_35 : decode cX8_newCondition 35 = .ok (.invokespecial 17, 3) := by decide +kernel
theorem dX8_newCondition_38 : decode cX8_newCondition 38 = .ok (.aastore, 1) := by decide +kernel
theorem dX8_newCondition_39 : decode cX8_newCondition 39 = .ok (.aload_n 0, 1) := by decide +kernel
theorem dX8_newCondition_40 : decode cX8_newCondition 40 = .ok (.dup, 1) := by decide +kernel
theorem dX8_newCondition_41 : decode cX8_newCondition 41 = .ok (.getfield 22, 3) := by decide +kernel
theorem dX8_newCondition_44 : decode cX8_newCondition 44 = .ok (.iconst 1, 1) := by decide +kernel
theorem dX8_newCondition_45 : decode cX8_newCondition 45 = .ok (.iadd, 1) := by decide +kernel
theorem dX8_newCondition_46 : decode cX8_newCondition 46 = .ok (.putfield 22, 3) := by decide +kernel
theorem dX8_newCondition_49 : decode cX8_newCondition 49 = .ok (.aload_n 0, 1) := by decide +kernel
theorem dX8_newCondition_50 : decode cX8_newCondition 50 = .ok (.getfield 11, 3) := by decide +kernel
theorem dX8_newCondition_53 : decode cX8_newCondition 53 = .ok (.aload_n 0, 1) := by decide +kernel
theorem dX8_newCondition_54 : decode cX8_newCondition 54 = .ok (.getfield 22, 3) := by decide +kernel
theorem dX8_newCondition_57 : decode cX8_newCondition 57 = .ok (.iconst 1, 1) := by decide +kernel
theorem dX8_newCondition_58 : decode cX8_newCondition 58 = .ok (.isub, 1) := by decide +kernel
theorem dX8_newCondition_59 : decode cX8_newCondition 59 = .ok (.aaload, 1) := by decide +kernel
theorem dX8_newCondition_60 : decode cX8_newCondition 60 = .ok (.areturn, 1) := by decide +kernel
def fX8_newCondition_39  (h : PH) (x0 : Nat) : Option (PH × Option Nat × Nat × Nat) :=
  oC (decide (hT h x0 = 9)) (oL (sI h 1027 x0 ((hI h 1027 x0) + 1)) (fun h2 => oN (hR h2 1028 x0) (fun a4 => oC (decide (hT h2 a4 = 105)) (oC (ix ((hI h2 1027 x0) - 1) (hN h2 a4)) (some (h2, (hC h2 a4 (Int32.toNatClampNeg ((hI h2 1027 x0) - 1))), 0, 0))))))
set_option maxHeartbeats 4000000 in
theorem wfX8_newCondition_39 {mc ms cells slots : Nat} {args : Array Value} (b : Bd p s m c cX8_newCondition 1 RX8 D aC) (hlk : meth.locks = false) (hr : meth.sig.returnType = some (.object "StatuteBench$Condition")) {Z : State → Prop} (zs : Z s) (zk : ZOK Z (Rg ad)) {hz : PH} {rz : Option Nat} {h : PH} {x0 : Nat} {kz : Nat} {mz : Nat}  {H : Heap} {locs : List Loc} {ls : Array Slot} (hf : fX8_newCondition_39 h x0 = some (hz, rz, kz, mz)) (hk : cells + kz ≤ mc) (hs : slots + mz ≤ ms) (hE : CE (EX D aC ad h) (Rg ad) s H locs) (hl : lv_has ls 1 [(0, .ref (ad x0))]) : W p l e (RM 2 44 mc ms) s m args below meth c H locs cells slots (MQ below (PQ (EX D aC ad hz) (Rg ad) (some (va_rf (Option.map ad rz)))) args s mc ms (Rg ad)) (F0 m 39 ls []) := by
  unfold fX8_newCondition_39 at hf
  refine lv_aload_n b.1 b.2.1 dX8_newCondition_39 rfl (lv_at hl 0 rfl) ?_
  refine lv_dup b.1 b.2.1 dX8_newCondition_40 rfl ?_
  obtain ⟨t1, hf⟩ := oC_s hf
  have t1 := of_decide_eq_true t1
  refine gX8_22 (x := (some x0)) b hE rfl t1 dX8_newCondition_41 ?_
  refine lv_iconst (v := 1) b.1 b.2.1 dX8_newCondition_44 (by decide) ?_
  refine lv_iadd b.1 b.2.1 dX8_newCondition_45 ?_
  obtain ⟨h2, eh2, hf⟩ := oL_s hf
  refine pX8_22 (x := (some x0)) b hE rfl t1 eh2 dX8_newCondition_46 (fun H locs hE => ?_)
  refine lv_aload_n b.1 b.2.1 dX8_newCondition_49 rfl (lv_at hl 0 rfl) ?_
  have t3 := tg_sI eh2 t1
  refine gX8_11 (x := (some x0)) b hE rfl t3 dX8_newCondition_50 ?_
  refine lv_aload_n b.1 b.2.1 dX8_newCondition_53 rfl (lv_at hl 0 rfl) ?_
  refine gX8_22 (x := (some x0)) b hE rfl t3 dX8_newCondition_54 ?_
  refine lv_iconst (v := 1) b.1 b.2.1 dX8_newCondition_57 (by decide) ?_
  refine lv_isub b.1 b.2.1 dX8_newCondition_58 ?_
  obtain ⟨a4, ea4, hf⟩ := oN_s hf
  obtain ⟨t5, hf⟩ := oC_s hf
  have t5 := of_decide_eq_true t5
  obtain ⟨g6, hf⟩ := oC_s hf
  refine q_aald5 (x := (hR h2 1028 x0)) b hE ea4 t5 g6 dX8_newCondition_59 ?_
  cases hf
  exact k_aret b hlk hr hE (le_c hk) (le_c hs) dX8_newCondition_60
def fX8_newCondition_0  (h : PH) (x0 : Nat) : Option (PH × Option Nat × Nat × Nat) :=
  oC (decide (hT h x0 = 9)) (if (hI h 1027 x0) < 6 then (oN (hR h 1028 x0) (fun a9 => oC (decide (hT h a9 = 105)) (oC (ix (hI h 1027 x0) (hN h a9)) (if (hC h a9 (Int32.toNatClampNeg (hI h 1027 x0))) = none then (oL (nO h 3) (fun h15 => oK4 1 8 (oB (fX2_init h15 (hZ h)) (fun h20 => oC (decide (hT h20 a9 = 105)) (oC (decide (hT h20 (hZ h) = 3)) (oC (ix (hI h 1027 x0) (hN h20 a9)) (oL (sC h20 a9 (Int32.toNatClampNeg (hI h 1027 x0)) (some (hZ h))) (fun h24 => fX8_newCondition_39  h24 x0)))))))) else (fX8_newCondition_39  h x0))))) else (some (h, none, 0, 0)))
set_option maxHeartbeats 4000000 in
theorem wfX8_newCondition_0 {mc ms cells slots : Nat} {args : Array Value} (b : Bd p s m c cX8_newCondition 1 RX8 D aC) (hlk : meth.locks = false) (hr : meth.sig.returnType = some (.object "StatuteBench$Condition")) {Z : State → Prop} (zs : Z s) (zk : ZOK Z (Rg ad)) {hz : PH} {rz : Option Nat} {h : PH} {x0 : Nat} {kz : Nat} {mz : Nat}  {H : Heap} {locs : List Loc} {ls : Array Slot} (hf : fX8_newCondition_0 h x0 = some (hz, rz, kz, mz)) (hk : cells + kz ≤ mc) (hs : slots + mz ≤ ms) (hE : CE (EX D aC ad h) (Rg ad) s H locs) (hl : lv_has ls 1 [(0, .ref (ad x0))]) : W p l e (RM 2 44 mc ms) s m args below meth c H locs cells slots (MQ below (PQ (EX D aC ad hz) (Rg ad) (some (va_rf (Option.map ad rz)))) args s mc ms (Rg ad)) (F0 m 0 ls []) := by
  unfold fX8_newCondition_0 at hf
  refine lv_aload_n b.1 b.2.1 dX8_newCondition_0 rfl (lv_at hl 0 rfl) ?_
  obtain ⟨t7, hf⟩ := oC_s hf
  have t7 := of_decide_eq_true t7
  refine gX8_22 (x := (some x0)) b hE rfl t7 dX8_newCondition_1 ?_
  refine lv_bipush (v := 6) b.1 b.2.1 dX8_newCondition_4 (by decide) ?_
  refine lv_icmp_lt (tgt := 11) b.1 b.2.1 dX8_newCondition_6 (by decide) (fun c8 => ?_) (fun c8 => ?_)
  · have hf := oI_t c8 hf
    refine lv_aload_n b.1 b.2.1 dX8_newCondition_11 rfl (lv_at hl 0 rfl) ?_
    refine gX8_11 (x := (some x0)) b hE rfl t7 dX8_newCondition_12 ?_
    refine lv_aload_n b.1 b.2.1 dX8_newCondition_15 rfl (lv_at hl 0 rfl) ?_
    refine gX8_22 (x := (some x0)) b hE rfl t7 dX8_newCondition_16 ?_
    obtain ⟨a9, ea9, hf⟩ := oN_s hf
    obtain ⟨t10, hf⟩ := oC_s hf
    have t10 := of_decide_eq_true t10
    obtain ⟨g11, hf⟩ := oC_s hf
    refine q_aald5 (x := (hR h 1028 x0)) b hE ea9 t10 g11 dX8_newCondition_19 ?_
    refine k_ifnonnull (x := Option.map ad (hC h a9 (Int32.toNatClampNeg (hI h 1027 x0)))) b dX8_newCondition_20 (tgt := 39) (by decide) (fun c12 => ?_) (fun c12 => ?_)
    · have hf := oI_f (fun z => c12 (Option.map_eq_none_iff.mpr z)) hf
      exact wfX8_newCondition_39 b hlk hr zs zk  hf hk hs hE (lv_sub hl [0] rfl)
    · have hf := oI_t (Option.map_eq_none_iff.mp c12) hf
      refine lv_aload_n b.1 b.2.1 dX8_newCondition_23 rfl (lv_at hl 0 rfl) ?_
      refine gX8_11 (x := (some x0)) b hE rfl t7 dX8_newCondition_24 ?_
      refine lv_aload_n b.1 b.2.1 dX8_newCondition_27 rfl (lv_at hl 0 rfl) ?_
      refine gX8_22 (x := (some x0)) b hE rfl t7 dX8_newCondition_28 ?_
      obtain ⟨h15, eh15, hf⟩ := oL_s hf
      obtain ⟨i13, j14, ei13, ej14, hf⟩ := oK4_s hf
      have t16 := tg_nO (t := 8) hE eh15 t7
      have t17 := tg_nO (t := 104) hE eh15 t10
      have t18 := tg_nO0 eh15
      refine nX8_9 b hE (le_room hk ei13) (le_room hs ej14) eh15 dX8_newCondition_31 (fun H hE => ?_)
      have hk := le_step hk ei13
      have hs := le_step hs ej14
      refine lv_dup b.1 b.2.1 dX8_newCondition_34 rfl ?_
      obtain ⟨h20, hc19, hf⟩ := oB_s hf
      refine k_callIN0 b zs zk hE (CX2_init l D aC ad zk hc19) mc_X2_init (in2 220 rfl rfl) mi_X2_init ini_RX2 rfl ok_X2_init ⟨Nat.le_of_ble_eq_true rfl, Nat.le_of_ble_eq_true rfl⟩ rfl hl.1 rfl (k_room _ (by exact Nat.le_of_ble_eq_true rfl)) ⟨le_0 hk, le_0 hs⟩ dX8_newCondition_35 (fun H locs hE => ?_)
      obtain ⟨t21, hf⟩ := oC_s hf
      have t21 := of_decide_eq_true t21
      obtain ⟨t22, hf⟩ := oC_s hf
      have t22 := of_decide_eq_true t22
      obtain ⟨g23, hf⟩ := oC_s hf
      obtain ⟨h24, eh24, hf⟩ := oL_s hf
      refine q_aast5 (x := (hR h 1028 x0)) (y := (some (hZ h))) b hE ea9 rfl t22 t21 g23 eh24 dX8_newCondition_38 (fun H locs hE => ?_)
      exact wfX8_newCondition_39 b hlk hr zs zk  hf hk hs hE (lv_sub hl [0] rfl)
  · have hf := oI_f c8 hf
    refine lv_null b.1 b.2.1 dX8_newCondition_9 ?_
    cases hf
    exact k_aret b hlk hr hE (le_c hk) (le_c hs) dX8_newCondition_10
def fX8_newCondition (h : PH) (x0 : Nat) : Option (PH × Option Nat × Nat × Nat) := fX8_newCondition_0 h x0
set_option maxHeartbeats 4000000 in
theorem CX8_newCondition (l : Launch) (D : va_G) (aC : Nat → ClassId) (ad : Nat → Nat) {Z : State → Prop} (zk : ZOK Z (Rg ad)) {h : PH} {x0 : Nat} {hz : PH} {rz : Option Nat} {kz : Nat} {mz : Nat} (hf : fX8_newCondition h x0 = some (hz, rz, kz, mz)) : CM l D aC Z yX8_newCondition cX8_newCondition 1 (some (.object "StatuteBench$Condition")) 2 44 kz mz (EX D aC ad h) [.ref (ad x0)] (EX D aC ad hz) (some (va_rf (Option.map ad rz))) (Rg ad) := by
  refine CM.of rfl ?_
  intro p e s m below meth c b hr hlk hin2 zs hE
  refine k_ent (Nat.le_of_ble_eq_true rfl) (fun ls hl => ?_)
  exact wfX8_newCondition_0 b hlk hr zs zk hf (by omega) (by omega) hE (lv_sub hl [0] rfl)
theorem dX4_startCondition_0 : decode cX4_startCondition 0 = .ok (.aload_n 0, 1) := by decide +kernel
theorem dX4_startCondition_1 : decode cX4_startCondition 1 = .ok (.getfield 60, 3) := by decide +kernel
theorem dX4_startCondition_4 : decode cX4_startCondition 4 = .ok (.lookupswitch 55 #[(260, 52), (314, 52), (315, 52), (316, 52), (317, 52)], 52) := by decide +kernel
theorem dX4_startCondition_56 : decode cX4_startCondition 56 = .ok (.goto 10, 3) := by decide +kernel
theorem dX4_startCondition_59 : decode cX4_startCondition 59 = .ok (.aload_n 0, 1) := by decide +kernel
theorem dX4_startCondition_60 : decode cX4_startCondition 60 = .ok (.iconst 1, 1) := by decide +kernel
theorem dX4_startCondition_61 : decode cX4_startCondition 61 = .ok (.invokevirtual 89, 3) := by decide +kernel
theorem dX4_startCondition_64 : decode cX4_startCondition 64 = .ok (.aconst_null, 1) := by decide +kernel
theorem dX4_startCondition_65 : decode cX4_startCondition 65 = .ok (.areturn, 1) := by decide +kernel
theorem dX4_startCondition_66 : decode cX4_startCondition 66 = .ok (.aload_n 1, 1) := by decide +kernel
theorem dX4_startCondition_67 : decode cX4_startCondition 67 = .ok (.invokevirtual 221, 3) := by decide +kernel
theorem dX4_startCondition_70 : decode cX4_startCondition 70 = .ok (.astore_n 2, 1) := by decide +kernel
theorem dX4_startCondition_71 : decode cX4_startCondition 71 = .ok (.aload_n 2, 1) := by decide +kernel
theorem dX4_startCondition_72 : decode cX4_startCondition 72 = .ok (.ifnonnull 8, 3) := by decide +kernel
theorem dX4_startCondition_75 : decode cX4_startCondition 75 = .ok (.aload_n 0, 1) := by decide +kernel
theorem dX4_startCondition_76 : decode cX4_startCondition 76 = .ok (.iconst 2, 1) := by decide +kernel
theorem dX4_startCondition_77 : decode cX4_startCondition 77 = .ok (.invokevirtual 89, 3) := by decide +kernel
theorem dX4_startCondition_80 : decode cX4_startCondition 80 = .ok (.aload_n 2, 1) := by decide +kernel
theorem dX4_startCondition_81 : decode cX4_startCondition 81 = .ok (.areturn, 1) := by decide +kernel
def fX4_startCondition_0  (h : PH) (x0 : Nat) (x1 : Option Nat) : Option (PH × Option Nat × Nat × Nat) :=
  oC (decide (hT h x0 = 5)) (oL (hI h 521 x0) (fun y2 => if y2 = 260 then (oN x1 (fun a4 => oC (decide (hT h a4 = 9)) (oB4 (fX8_newCondition h a4) (fun h8 r7 i9 j10 => oK4 i9 j10 (if r7 = none then (oC (decide (hT h8 x0 = 5)) (oB (fX4_stopAt h8 x0 2) (fun h16 => some (h16, r7, 0, 0)))) else (some (h8, r7, 0, 0))))))) else (if y2 = 314 then (oN x1 (fun a18 => oC (decide (hT h a18 = 9)) (oB4 (fX8_newCondition h a18) (fun h22 r21 i23 j24 => oK4 i23 j24 (if r21 = none then (oC (decide (hT h22 x0 = 5)) (oB (fX4_stopAt h22 x0 2) (fun h30 => some (h30, r21, 0, 0)))) else (some (h22, r21, 0, 0))))))) else (if y2 = 315 then (oN x1 (fun a32 => oC (decide (hT h a32 = 9)) (oB4 (fX8_newCondition h a32) (fun h36 r35 i37 j38 => oK4 i37 j38 (if r35 = none then (oC (decide (hT h36 x0 = 5)) (oB (fX4_stopAt h36 x0 2) (fun h44 => some (h44, r35, 0, 0)))) else (some (h36, r35, 0, 0))))))) else (if y2 = 316 then (oN x1 (fun a46 => oC (decide (hT h a46 = 9)) (oB4 (fX8_newCondition h a46) (fun h50 r49 i51 j52 => oK4 i51 j52 (if r49 = none then (oC (decide (hT h50 x0 = 5)) (oB (fX4_stopAt h50 x0 2) (fun h58 => some (h58, r49, 0, 0)))) else (some (h50, r49, 0, 0))))))) else (if y2 = 317 then (oN x1 (fun a60 => oC (decide (hT h a60 = 9)) (oB4 (fX8_newCondition h a60) (fun h64 r63 i65 j66 => oK4 i65 j66 (if r63 = none then (oC (decide (hT h64 x0 = 5)) (oB (fX4_stopAt h64 x0 2) (fun h72 => some (h72, r63, 0, 0)))) else (some (h64, r63, 0, 0))))))) else (oB (fX4_stopAt h x0 1) (fun h74 => some (h74, none, 0, 0)))))))))
set_option maxHeartbeats 4000000 in
theorem wfX4_startCondition_0 {mc ms cells slots : Nat} {args : Array Value} (b : Bd p s m c cX4_startCondition 3 RX4 D aC) (hlk : meth.locks = false) (hr : meth.sig.returnType = some (.object "StatuteBench$Condition")) {Z : State → Prop} (zs : Z s) (zk : ZOK Z (Rg ad)) {hz : PH} {rz : Option Nat} {h : PH} {x0 : Nat} {x1 : Option Nat} {kz : Nat} {mz : Nat}  {H : Heap} {locs : List Loc} {ls : Array Slot} (hf : fX4_startCondition_0 h x0 x1 = some (hz, rz, kz, mz)) (hk : cells + kz ≤ mc) (hs : slots + mz ≤ ms) (hE : CE (EX D aC ad h) (Rg ad) s H locs) (hl : lv_has ls 3 [(0, .ref (ad x0)), (1, va_rf (Option.map ad x1))]) : W p l e (RM 3 64 mc ms) s m args below meth c H locs cells slots (MQ below (PQ (EX D aC ad hz) (Rg ad) (some (va_rf (Option.map ad rz)))) args s mc ms (Rg ad)) (F0 m 0 ls []) := by
  unfold fX4_startCondition_0 at hf
  refine lv_aload_n b.1 b.2.1 dX4_startCondition_0 rfl (lv_at hl 0 rfl) ?_
  obtain ⟨t1, hf⟩ := oC_s hf
  have t1 := of_decide_eq_true t1
  refine gX4_60 (x := (some x0)) b hE rfl t1 dX4_startCondition_1 ?_
  obtain ⟨y2, ey2, hf⟩ := oL_s hf
  refine k_nmI ey2 ?_
  rcases Decidable.em (y2 = 260) with c3 | c3
  · have hf := oI_t c3 hf
    refine lv_lookup (tgt := 56) (off := 52) b.1 b.2.1 dX4_startCondition_4 (by decide) (by rw [c3] <;> rfl) (by decide) ?_
    refine lv_goto (tgt := 66) b.1 b.2.1 dX4_startCondition_56 (by decide) ?_
    refine k_aload_n (x := Option.map ad x1) b dX4_startCondition_66 rfl (lv_at hl 1 rfl) ?_
    obtain ⟨a4, ea4, hf⟩ := oN_s hf
    obtain ⟨t5, hf⟩ := oC_s hf
    have t5 := of_decide_eq_true t5
    obtain ⟨h8, r7, i9, j10, hc6, hf⟩ := oB4_s hf
    obtain ⟨i11, j12, ei11, ej12, hf⟩ := oK4_s hf
    refine k_stk [] ea4 ?_
    refine k_callV (C := RX8) b zs zk hE (CX8_newCondition l D aC ad zk hc6) mc_X8_newCondition (in3 57 rfl rfl) mi_X8_newCondition ms_X8_newCondition ini_RX8 ok_X8_newCondition (x_recv b hE (ci := 8) rfl (by decide) t5) ⟨Nat.le_of_ble_eq_true rfl, Nat.le_of_ble_eq_true rfl⟩ rfl hl.1 rfl (k_room _ (by exact Nat.le_of_ble_eq_true rfl)) ⟨le_room hk ei11, le_room hs ej12⟩ dX4_startCondition_67 (fun H locs hE => ?_)
    have hk := le_step hk ei11
    have hs := le_step hs ej12
    refine k_astore_n (x := Option.map ad r7) (lv' := [(2, va_rf (Option.map ad r7)), (0, .ref (ad x0)), (1, va_rf (Option.map ad x1))]) b dX4_startCondition_70 rfl hl (by decide) (by cases x1 <;> rfl) (fun ls hl => ?_)
    have hl := lv_sub (l' := [(2, va_rf (Option.map ad r7)), (0, .ref (ad x0))]) hl [0, 1] rfl
    refine k_aload_n (x := Option.map ad r7) b dX4_startCondition_71 rfl (lv_at hl 0 rfl) ?_
    refine k_ifnonnull (x := Option.map ad r7) b dX4_startCondition_72 (tgt := 80) (by decide) (fun c13 => ?_) (fun c13 => ?_)
    · have hf := oI_f (fun z => c13 (Option.map_eq_none_iff.mpr z)) hf
      refine k_aload_n (x := Option.map ad r7) b dX4_startCondition_80 rfl (lv_at hl 0 rfl) ?_
      cases hf
      exact k_aret b hlk hr hE (le_c hk) (le_c hs) dX4_startCondition_81
    · have hf := oI_t (Option.map_eq_none_iff.mp c13) hf
      refine lv_aload_n b.1 b.2.1 dX4_startCondition_75 rfl (lv_at hl 1 rfl) ?_
      refine lv_iconst (v := 2) b.1 b.2.1 dX4_startCondition_76 (by decide) ?_
      obtain ⟨t14, hf⟩ := oC_s hf
      have t14 := of_decide_eq_true t14
      obtain ⟨h16, hc15, hf⟩ := oB_s hf
      refine k_callV0 (C := RX4) b zs zk hE (CX4_stopAt l D aC ad zk hc15) mc_X4_stopAt (in2 183 rfl rfl) mi_X4_stopAt ms_X4_stopAt ini_RX4 ok_X4_stopAt (x_recv b hE (ci := 4) rfl (by decide) t14) ⟨Nat.le_of_ble_eq_true rfl, Nat.le_of_ble_eq_true rfl⟩ rfl hl.1 rfl (k_room _ (by exact Nat.le_of_ble_eq_true rfl)) ⟨le_0 hk, le_0 hs⟩ dX4_startCondition_77 (fun H locs hE => ?_)
      refine k_aload_n (x := Option.map ad r7) b dX4_startCondition_80 rfl (lv_at hl 0 rfl) ?_
      cases hf
      exact k_aret b hlk hr hE (le_c hk) (le_c hs) dX4_startCondition_81
  have hf := oI_f c3 hf
  rcases Decidable.em (y2 = 314) with c17 | c17
  · have hf := oI_t c17 hf
    refine lv_lookup (tgt := 56) (off := 52) b.1 b.2.1 dX4_startCondition_4 (by decide) (by rw [c17] <;> rfl) (by decide) ?_
    refine lv_goto (tgt := 66) b.1 b.2.1 dX4_startCondition_56 (by decide) ?_
    refine k_aload_n (x := Option.map ad x1) b dX4_startCondition_66 rfl (lv_at hl 1 rfl) ?_
    obtain ⟨a18, ea18, hf⟩ := oN_s hf
    obtain ⟨t19, hf⟩ := oC_s hf
    have t19 := of_decide_eq_true t19
    obtain ⟨h22, r21, i23, j24, hc20, hf⟩ := oB4_s hf
    obtain ⟨i25, j26, ei25, ej26, hf⟩ := oK4_s hf
    refine k_stk [] ea18 ?_
    refine k_callV (C := RX8) b zs zk hE (CX8_newCondition l D aC ad zk hc20) mc_X8_newCondition (in3 57 rfl rfl) mi_X8_newCondition ms_X8_newCondition ini_RX8 ok_X8_newCondition (x_recv b hE (ci := 8) rfl (by decide) t19) ⟨Nat.le_of_ble_eq_true rfl, Nat.le_of_ble_eq_true rfl⟩ rfl hl.1 rfl (k_room _ (by exact Nat.le_of_ble_eq_true rfl)) ⟨le_room hk ei25, le_room hs ej26⟩ dX4_startCondition_67 (fun H locs hE => ?_)
    have hk := le_step hk ei25
    have hs := le_step hs ej26
    refine k_astore_n (x := Option.map ad r21) (lv' := [(2, va_rf (Option.map ad r21)), (0, .ref (ad x0)), (1, va_rf (Option.map ad x1))]) b dX4_startCondition_70 rfl hl (by decide) (by cases x1 <;> rfl) (fun ls hl => ?_)
    have hl := lv_sub (l' := [(2, va_rf (Option.map ad r21)), (0, .ref (ad x0))]) hl [0, 1] rfl
    refine k_aload_n (x := Option.map ad r21) b dX4_startCondition_71 rfl (lv_at hl 0 rfl) ?_
    refine k_ifnonnull (x := Option.map ad r21) b dX4_startCondition_72 (tgt := 80) (by decide) (fun c27 => ?_) (fun c27 => ?_)
    · have hf := oI_f (fun z => c27 (Option.map_eq_none_iff.mpr z)) hf
      refine k_aload_n (x := Option.map ad r21) b dX4_startCondition_80 rfl (lv_at hl 0 rfl) ?_
      cases hf
      exact k_aret b hlk hr hE (le_c hk) (le_c hs) dX4_startCondition_81
    · have hf := oI_t (Option.map_eq_none_iff.mp c27) hf
      refine lv_aload_n b.1 b.2.1 dX4_startCondition_75 rfl (lv_at hl 1 rfl) ?_
      refine lv_iconst (v := 2) b.1 b.2.1 dX4_startCondition_76 (by decide) ?_
      obtain ⟨t28, hf⟩ := oC_s hf
      have t28 := of_decide_eq_true t28
      obtain ⟨h30, hc29, hf⟩ := oB_s hf
      refine k_callV0 (C := RX4) b zs zk hE (CX4_stopAt l D aC ad zk hc29) mc_X4_stopAt (in2 183 rfl rfl) mi_X4_stopAt ms_X4_stopAt ini_RX4 ok_X4_stopAt (x_recv b hE (ci := 4) rfl (by decide) t28) ⟨Nat.le_of_ble_eq_true rfl, Nat.le_of_ble_eq_true rfl⟩ rfl hl.1 rfl (k_room _ (by exact Nat.le_of_ble_eq_true rfl)) ⟨le_0 hk, le_0 hs⟩ dX4_startCondition_77 (fun H locs hE => ?_)
      refine k_aload_n (x := Option.map ad r21) b dX4_startCondition_80 rfl (lv_at hl 0 rfl) ?_
      cases hf
      exact k_aret b hlk hr hE (le_c hk) (le_c hs) dX4_startCondition_81
  have hf := oI_f c17 hf
  rcases Decidable.em (y2 = 315) with c31 | c31
  · have hf := oI_t c31 hf
    refine lv_lookup (tgt := 56) (off := 52) b.1 b.2.1 dX4_startCondition_4 (by decide) (by rw [c31] <;> rfl) (by decide) ?_
    refine lv_goto (tgt := 66) b.1 b.2.1 dX4_startCondition_56 (by decide) ?_
    refine k_aload_n (x := Option.map ad x1) b dX4_startCondition_66 rfl (lv_at hl 1 rfl) ?_
    obtain ⟨a32, ea32, hf⟩ := oN_s hf
    obtain ⟨t33, hf⟩ := oC_s hf
    have t33 := of_decide_eq_true t33
    obtain ⟨h36, r35, i37, j38, hc34, hf⟩ := oB4_s hf
    obtain ⟨i39, j40, ei39, ej40, hf⟩ := oK4_s hf
    refine k_stk [] ea32 ?_
    refine k_callV (C := RX8) b zs zk hE (CX8_newCondition l D aC ad zk hc34) mc_X8_newCondition (in3 57 rfl rfl) mi_X8_newCondition ms_X8_newCondition ini_RX8 ok_X8_newCondition (x_recv b hE (ci := 8) rfl (by decide) t33) ⟨Nat.le_of_ble_eq_true rfl, Nat.le_of_ble_eq_true rfl⟩ rfl hl.1 rfl (k_room _ (by exact Nat.le_of_ble_eq_true rfl)) ⟨le_room hk ei39, le_room hs ej40⟩ dX4_startCondition_67 (fun H locs hE => ?_)
    have hk := le_step hk ei39
    have hs := le_step hs ej40
    refine k_astore_n (x := Option.map ad r35) (lv' := [(2, va_rf (Option.map ad r35)), (0, .ref (ad x0)), (1, va_rf (Option.map ad x1))]) b dX4_startCondition_70 rfl hl (by decide) (by cases x1 <;> rfl) (fun ls hl => ?_)
    have hl := lv_sub (l' := [(2, va_rf (Option.map ad r35)), (0, .ref (ad x0))]) hl [0, 1] rfl
    refine k_aload_n (x := Option.map ad r35) b dX4_startCondition_71 rfl (lv_at hl 0 rfl) ?_
    refine k_ifnonnull (x := Option.map ad r35) b dX4_startCondition_72 (tgt := 80) (by decide) (fun c41 => ?_) (fun c41 => ?_)
    · have hf := oI_f (fun z => c41 (Option.map_eq_none_iff.mpr z)) hf
      refine k_aload_n (x := Option.map ad r35) b dX4_startCondition_80 rfl (lv_at hl 0 rfl) ?_
      cases hf
      exact k_aret b hlk hr hE (le_c hk) (le_c hs) dX4_startCondition_81
    · have hf := oI_t (Option.map_eq_none_iff.mp c41) hf
      refine lv_aload_n b.1 b.2.1 dX4_startCondition_75 rfl (lv_at hl 1 rfl) ?_
      refine lv_iconst (v := 2) b.1 b.2.1 dX4_startCondition_76 (by decide) ?_
      obtain ⟨t42, hf⟩ := oC_s hf
      have t42 := of_decide_eq_true t42
      obtain ⟨h44, hc43, hf⟩ := oB_s hf
      refine k_callV0 (C := RX4) b zs zk hE (CX4_stopAt l D aC ad zk hc43) mc_X4_stopAt (in2 183 rfl rfl) mi_X4_stopAt ms_X4_stopAt ini_RX4 ok_X4_stopAt (x_recv b hE (ci := 4) rfl (by decide) t42) ⟨Nat.le_of_ble_eq_true rfl, Nat.le_of_ble_eq_true rfl⟩ rfl hl.1 rfl (k_room _ (by exact Nat.le_of_ble_eq_true rfl)) ⟨le_0 hk, le_0 hs⟩ dX4_startCondition_77 (fun H locs hE => ?_)
      refine k_aload_n (x := Option.map ad r35) b dX4_startCondition_80 rfl (lv_at hl 0 rfl) ?_
      cases hf
      exact k_aret b hlk hr hE (le_c hk) (le_c hs) dX4_startCondition_81
  have hf := oI_f c31 hf
  rcases Decidable.em (y2 = 316) with c45 | c45
  · have hf := oI_t c45 hf
    refine lv_lookup (tgt := 56) (off := 52) b.1 b.2.1 dX4_startCondition_4 (by decide) (by rw [c45] <;> rfl) (by decide) ?_
    refine lv_goto (tgt := 66) b.1 b.2.1 dX4_startCondition_56 (by decide) ?_
    refine k_aload_n (x := Option.map ad x1) b dX4_startCondition_66 rfl (lv_at hl 1 rfl) ?_
    obtain ⟨a46, ea46, hf⟩ := oN_s hf
    obtain ⟨t47, hf⟩ := oC_s hf
    have t47 := of_decide_eq_true t47
    obtain ⟨h50, r49, i51, j52, hc48, hf⟩ := oB4_s hf
    obtain ⟨i53, j54, ei53, ej54, hf⟩ := oK4_s hf
    refine k_stk [] ea46 ?_
    refine k_callV (C := RX8) b zs zk hE (CX8_newCondition l D aC ad zk hc48) mc_X8_newCondition (in3 57 rfl rfl) mi_X8_newCondition ms_X8_newCondition ini_RX8 ok_X8_newCondition (x_recv b hE (ci := 8) rfl (by decide) t47) ⟨Nat.le_of_ble_eq_true rfl, Nat.le_of_ble_eq_true rfl⟩ rfl hl.1 rfl (k_room _ (by exact Nat.le_of_ble_eq_true rfl)) ⟨le_room hk ei53, le_room hs ej54⟩ dX4_startCondition_67 (fun H locs hE => ?_)
    have hk := le_step hk ei53
    have hs := le_step hs ej54
    refine k_astore_n (x := Option.map ad r49) (lv' := [(2, va_rf (Option.map ad r49)), (0, .ref (ad x0)), (1, va_rf (Option.map ad x1))]) b dX4_startCondition_70 rfl hl (by decide) (by cases x1 <;> rfl) (fun ls hl => ?_)
    have hl := lv_sub (l' := [(2, va_rf (Option.map ad r49)), (0, .ref (ad x0))]) hl [0, 1] rfl
    refine k_aload_n (x := Option.map ad r49) b dX4_startCondition_71 rfl (lv_at hl 0 rfl) ?_
    refine k_ifnonnull (x := Option.map ad r49) b dX4_startCondition_72 (tgt := 80) (by decide) (fun c55 => ?_) (fun c55 => ?_)
    · have hf := oI_f (fun z => c55 (Option.map_eq_none_iff.mpr z)) hf
      refine k_aload_n (x := Option.map ad r49) b dX4_startCondition_80 rfl (lv_at hl 0 rfl) ?_
      cases hf
      exact k_aret b hlk hr hE (le_c hk) (le_c hs) dX4_startCondition_81
    · have hf := oI_t (Option.map_eq_none_iff.mp c55) hf
      refine lv_aload_n b.1 b.2.1 dX4_startCondition_75 rfl (lv_at hl 1 rfl) ?_
      refine lv_iconst (v := 2) b.1 b.2.1 dX4_startCondition_76 (by decide) ?_
      obtain ⟨t56, hf⟩ := oC_s hf
      have t56 := of_decide_eq_true t56
      obtain ⟨h58, hc57, hf⟩ := oB_s hf
      refine k_callV0 (C := RX4) b zs zk hE (CX4_stopAt l D aC ad zk hc57) mc_X4_stopAt (in2 183 rfl rfl) mi_X4_stopAt ms_X4_stopAt ini_RX4 ok_X4_stopAt (x_recv b hE (ci := 4) rfl (by decide) t56) ⟨Nat.le_of_ble_eq_true rfl, Nat.le_of_ble_eq_true rfl⟩ rfl hl.1 rfl (k_room _ (by exact Nat.le_of_ble_eq_true rfl)) ⟨le_0 hk, le_0 hs⟩ dX4_startCondition_77 (fun H locs hE => ?_)
      refine k_aload_n (x := Option.map ad r49) b dX4_startCondition_80 rfl (lv_at hl 0 rfl) ?_
      cases hf
      exact k_aret b hlk hr hE (le_c hk) (le_c hs) dX4_startCondition_81
  have hf := oI_f c45 hf
  rcases Decidable.em (y2 = 317) with c59 | c59
  · have hf := oI_t c59 hf
    refine lv_lookup (tgt := 56) (off := 52) b.1 b.2.1 dX4_startCondition_4 (by decide) (by rw [c59] <;> rfl) (by decide) ?_
    refine lv_goto (tgt := 66) b.1 b.2.1 dX4_startCondition_56 (by decide) ?_
    refine k_aload_n (x := Option.map ad x1) b dX4_startCondition_66 rfl (lv_at hl 1 rfl) ?_
    obtain ⟨a60, ea60, hf⟩ := oN_s hf
    obtain ⟨t61, hf⟩ := oC_s hf
    have t61 := of_decide_eq_true t61
    obtain ⟨h64, r63, i65, j66, hc62, hf⟩ := oB4_s hf
    obtain ⟨i67, j68, ei67, ej68, hf⟩ := oK4_s hf
    refine k_stk [] ea60 ?_
    refine k_callV (C := RX8) b zs zk hE (CX8_newCondition l D aC ad zk hc62) mc_X8_newCondition (in3 57 rfl rfl) mi_X8_newCondition ms_X8_newCondition ini_RX8 ok_X8_newCondition (x_recv b hE (ci := 8) rfl (by decide) t61) ⟨Nat.le_of_ble_eq_true rfl, Nat.le_of_ble_eq_true rfl⟩ rfl hl.1 rfl (k_room _ (by exact Nat.le_of_ble_eq_true rfl)) ⟨le_room hk ei67, le_room hs ej68⟩ dX4_startCondition_67 (fun H locs hE => ?_)
    have hk := le_step hk ei67
    have hs := le_step hs ej68
    refine k_astore_n (x := Option.map ad r63) (lv' := [(2, va_rf (Option.map ad r63)), (0, .ref (ad x0)), (1, va_rf (Option.map ad x1))]) b dX4_startCondition_70 rfl hl (by decide) (by cases x1 <;> rfl) (fun ls hl => ?_)
    have hl := lv_sub (l' := [(2, va_rf (Option.map ad r63)), (0, .ref (ad x0))]) hl [0, 1] rfl
    refine k_aload_n (x := Option.map ad r63) b dX4_startCondition_71 rfl (lv_at hl 0 rfl) ?_
    refine k_ifnonnull (x := Option.map ad r63) b dX4_startCondition_72 (tgt := 80) (by decide) (fun c69 => ?_) (fun c69 => ?_)
    · have hf := oI_f (fun z => c69 (Option.map_eq_none_iff.mpr z)) hf
      refine k_aload_n (x := Option.map ad r63) b dX4_startCondition_80 rfl (lv_at hl 0 rfl) ?_
      cases hf
      exact k_aret b hlk hr hE (le_c hk) (le_c hs) dX4_startCondition_81
    · have hf := oI_t (Option.map_eq_none_iff.mp c69) hf
      refine lv_aload_n b.1 b.2.1 dX4_startCondition_75 rfl (lv_at hl 1 rfl) ?_
      refine lv_iconst (v := 2) b.1 b.2.1 dX4_startCondition_76 (by decide) ?_
      obtain ⟨t70, hf⟩ := oC_s hf
      have t70 := of_decide_eq_true t70
      obtain ⟨h72, hc71, hf⟩ := oB_s hf
      refine k_callV0 (C := RX4) b zs zk hE (CX4_stopAt l D aC ad zk hc71) mc_X4_stopAt (in2 183 rfl rfl) mi_X4_stopAt ms_X4_stopAt ini_RX4 ok_X4_stopAt (x_recv b hE (ci := 4) rfl (by decide) t70) ⟨Nat.le_of_ble_eq_true rfl, Nat.le_of_ble_eq_true rfl⟩ rfl hl.1 rfl (k_room _ (by exact Nat.le_of_ble_eq_true rfl)) ⟨le_0 hk, le_0 hs⟩ dX4_startCondition_77 (fun H locs hE => ?_)
      refine k_aload_n (x := Option.map ad r63) b dX4_startCondition_80 rfl (lv_at hl 0 rfl) ?_
      cases hf
      exact k_aret b hlk hr hE (le_c hk) (le_c hs) dX4_startCondition_81
  have hf := oI_f c59 hf
  refine lv_lookup (tgt := 59) (off := 55) b.1 b.2.1 dX4_startCondition_4 (by decide) (by rw [lv_osw c3 (by decide), lv_osw c17 (by decide), lv_osw c31 (by decide), lv_osw c45 (by decide), lv_osw c59 (by decide)] <;> rfl) (by decide) ?_
  refine lv_aload_n b.1 b.2.1 dX4_startCondition_59 rfl (lv_at hl 0 rfl) ?_
  refine lv_iconst (v := 1) b.1 b.2.1 dX4_startCondition_60 (by decide) ?_
  obtain ⟨h74, hc73, hf⟩ := oB_s hf
  refine k_callV0 (C := RX4) b zs zk hE (CX4_stopAt l D aC ad zk hc73) mc_X4_stopAt (in2 183 rfl rfl) mi_X4_stopAt ms_X4_stopAt ini_RX4 ok_X4_stopAt (x_recv b hE (ci := 4) rfl (by decide) t1) ⟨Nat.le_of_ble_eq_true rfl, Nat.le_of_ble_eq_true rfl⟩ rfl hl.1 rfl (k_room _ (by exact Nat.le_of_ble_eq_true rfl)) ⟨le_0 hk, le_0 hs⟩ dX4_startCondition_61 (fun H locs hE => ?_)
  refine lv_null b.1 b.2.1 dX4_startCondition_64 ?_
  cases hf
  exact k_aret b hlk hr hE (le_c hk) (le_c hs) dX4_startCondition_65
def fX4_startCondition (h : PH) (x0 : Nat) (x1 : Option Nat) : Option (PH × Option Nat × Nat × Nat) := fX4_startCondition_0 h x0 x1
set_option maxHeartbeats 4000000 in
theorem CX4_startCondition (l : Launch) (D : va_G) (aC : Nat → ClassId) (ad : Nat → Nat) {Z : State → Prop} (zk : ZOK Z (Rg ad)) {h : PH} {x0 : Nat} {x1 : Option Nat} {hz : PH} {rz : Option Nat} {kz : Nat} {mz : Nat} (hf : fX4_startCondition h x0 x1 = some (hz, rz, kz, mz)) : CM l D aC Z yX4_startCondition cX4_startCondition 3 (some (.object "StatuteBench$Condition")) 3 64 kz mz (EX D aC ad h) [.ref (ad x0), va_rf (Option.map ad x1)] (EX D aC ad hz) (some (va_rf (Option.map ad rz))) (Rg ad) := by
  refine CM.of rfl ?_
  intro p e s m below meth c b hr hlk hin2 zs hE
  cases x1 <;> (
    refine k_ent (Nat.le_of_ble_eq_true rfl) (fun ls hl => ?_)
    exact wfX4_startCondition_0 b hlk hr zs zk hf (by omega) (by omega) hE (lv_sub hl [0, 1] rfl))
theorem dX4_variableNumber_0 : decode cX4_variableNumber 0 = .ok (.iconst 0, 1) := by decide +kernel
theorem dX4_variableNumber_1 : decode cX4_variableNumber 1 = .ok (.istore_n 2, 1) := by decide +kernel
theorem dX4_variableNumber_2 : decode cX4_variableNumber 2 = .ok (.iload_n 2, 1) := by decide +kernel
theorem dX4_variableNumber_3 : decode cX4_variableNumber 3 = .ok (.aload_n 0, 1) := by decide +kernel
theorem dX4_variableNumber_4 : decode cX4_variableNumber 4 = .ok (.getfield 92, 3) := by decide +kernel
theorem dX4_variableNumber_7 : decode cX4_variableNumber 7 = .ok (.if_icmp .ge 21, 3) := by decide +kernel
theorem dX4_variableNumber_10 : decode cX4_variableNumber 10 = .ok (.aload_n 0, 1) := by decide +kernel
theorem dX4_variableNumber_11 : decode cX4_variableNumber 11 = .ok (.getfield 18, 3) := by decide +kernel
theorem dX4_variableNumber_14 : decode cX4_variableNumber 14 = .ok (.iload_n 2, 1) := by decide +kernel
theorem dX4_variableNumber_15 : decode cX4_variableNumber 15 = .ok (.iaload, 1) := by decide +kernel
theorem dX4_variableNumber_16 : decode cX4_variableNumber 16 = .ok (.iload_n 1, 1) := by decide +kernel
theorem dX4_variableNumber_17 : decode cX4_variableNumber 17 = .ok (.if_icmp .ne 5, 3) := by decide +kernel
theorem dX4_variableNumber_20 : decode cX4_variableNumber 20 = .ok (.iload_n 2, 1) := by decide +kernel
theorem dX4_variableNumber_21 : decode cX4_variableNumber 21 = .ok (.ireturn, 1) := by decide +kernel
theorem dX4_variableNumber_22 : decode cX4_variableNumber 22 = .ok (.iinc 2 1, 3) := by decide +kernel
theorem dX4_variableNumber_25 : decode cX4_variableNumber 25 = .ok (.goto (-23), 3) := by decide +kernel
theorem dX4_variableNumber_28 : decode cX4_variableNumber 28 = .ok (.aload_n 0, 1) := by decide +kernel
theorem dX4_variableNumber_29 : decode cX4_variableNumber 29 = .ok (.getfield 92, 3) := by decide +kernel
theorem dX4_variableNumber_32 : decode cX4_variableNumber 32 = .ok (.iconst 3, 1) := by decide +kernel
theorem dX4_variableNumber_33 : decode cX4_variableNumber 33 = .ok (.if_icmp .lt 5, 3) := by decide +kernel
theorem dX4_variableNumber_36 : decode cX4_variableNumber 36 = .ok (.iconst (-1), 1) := by decide +kernel
theorem dX4_variableNumber_37 : decode cX4_variableNumber 37 = .ok (.ireturn, 1) := by decide +kernel
theorem dX4_variableNumber_38 : decode cX4_variableNumber 38 = .ok (.aload_n 0, 1) := by decide +kernel
theorem dX4_variableNumber_39 : decode cX4_variableNumber 39 = .ok (.getfield 18, 3) := by decide +kernel
theorem dX4_variableNumber_42 : decode cX4_variableNumber 42 = .ok (.aload_n 0, 1) := by decide +kernel
theorem dX4_variableNumber_43 : decode cX4_variableNumber 43 = .ok (.getfield 92, 3) := by decide +kernel
theorem dX4_variableNumber_46 : decode cX4_variableNumber 46 = .ok (.iload_n 1, 1) := by decide +kernel
theorem dX4_variableNumber_47 : decode cX4_variableNumber 47 = .ok (.iastore, 1) := by decide +kernel
theorem dX4_variableNumber_48 : decode cX4_variableNumber 48 = .ok (.aload_n 0, 1) := by decide +kernel
theorem dX4_variableNumber_49 : decode cX4_variableNumber 49 = .ok (.dup, 1) := by decide +kernel
theorem dX4_variableNumber_50 : decode cX4_variableNumber 50 = .ok (.getfield 92, 3) := by decide +kernel
theorem dX4_variableNumber_53 : decode cX4_variableNumber 53 = .ok (.iconst 1, 1) := by decide +kernel
theorem dX4_variableNumber_54 : decode cX4_variableNumber 54 = .ok (.iadd, 1) := by decide +kernel
theorem dX4_variableNumber_55 : decode cX4_variableNumber 55 = .ok (.putfield 92, 3) := by decide +kernel
theorem dX4_variableNumber_58 : decode cX4_variableNumber 58 = .ok (.aload_n 0, 1) := by decide +kernel
theorem dX4_variableNumber_59 : decode cX4_variableNumber 59 = .ok (.getfield 92, 3) := by decide +kernel
theorem dX4_variableNumber_62 : decode cX4_variableNumber 62 = .ok (.iconst 1, 1) := by decide +kernel
theorem dX4_variableNumber_63 : decode cX4_variableNumber 63 = .ok (.isub, 1) := by decide +kernel
theorem dX4_variableNumber_64 : decode cX4_variableNumber 64 = .ok (.ireturn, 1) := by decide +kernel
def fX4_variableNumber_2F (k2 : PH → Nat → Int32 → Int32 → Option (PH × Int32)) (h : PH) (x0 : Nat) (x1 : Int32) (x2 : Int32) : Option (PH × Int32) :=
  oC (decide (hT h x0 = 5)) (if (hI h 516 x0) ≤ x2 then (if (hI h 516 x0) < 3 then (oN (hR h 514 x0) (fun a4 => oC (decide (hT h a4 = 101)) (oC (ix (hI h 516 x0) (hN h a4)) (oL (sA h a4 (Int32.toNatClampNeg (hI h 516 x0)) x1) (fun h7 => oL (sI h7 516 x0 ((hI h7 516 x0) + 1)) (fun h9 => some (h9, ((hI h9 516 x0) - 1)))))))) else (some (h, (-1)))) else (oN (hR h 514 x0) (fun a11 => oC (decide (hT h a11 = 101)) (oC (ix x2 (hN h a11)) (if (hA h a11 (Int32.toNatClampNeg x2)) = x1 then (some (h, x2)) else (oL (x2 + 1) (fun y15 => k2 h x0 x1 y15)))))))
set_option maxHeartbeats 4000000 in
theorem wfX4_variableNumber_2F {args : Array Value} (b : Bd p s m c cX4_variableNumber 3 RX4 D aC) (hlk : meth.locks = false) (hr : meth.sig.returnType = some .int) {Z : State → Prop} (zs : Z s) (zk : ZOK Z (Rg ad)) {hz : PH} {rz : Int32} {k2 : PH → Nat → Int32 → Int32 → Option (PH × Int32)} (H2 : ∀ (h : PH) (x0 : Nat) (x1 : Int32) (x2 : Int32), ∀ (H : Heap) (locs : List Loc) (ls : Array Slot), k2 h x0 x1 x2 = some (hz, rz) → CE (EX D aC ad h) (Rg ad) s H locs → lv_has ls 3 [(0, .ref (ad x0)), (1, .int x1), (2, .int x2)] → W p l e (RM 0 0 0 0) s m args below meth c H locs 0 0 (MQ below (PQ (EX D aC ad hz) (Rg ad) (some (.int rz))) args s 0 0 (Rg ad)) (F0 m 2 ls [])) {h : PH} {x0 : Nat} {x1 : Int32} {x2 : Int32}  {H : Heap} {locs : List Loc} {ls : Array Slot} (hf : fX4_variableNumber_2F k2 h x0 x1 x2 = some (hz, rz)) (hE : CE (EX D aC ad h) (Rg ad) s H locs) (hl : lv_has ls 3 [(0, .ref (ad x0)), (1, .int x1), (2, .int x2)]) : W p l e (RM 0 0 0 0) s m args below meth c H locs 0 0 (MQ below (PQ (EX D aC ad hz) (Rg ad) (some (.int rz))) args s 0 0 (Rg ad)) (F0 m 2 ls []) := by
  unfold fX4_variableNumber_2F at hf
  refine lv_iload_n b.1 b.2.1 dX4_variableNumber_2 rfl (lv_at hl 2 rfl) ?_
  refine lv_aload_n b.1 b.2.1 dX4_variableNumber_3 rfl (lv_at hl 0 rfl) ?_
  obtain ⟨t1, hf⟩ := oC_s hf
  have t1 := of_decide_eq_true t1
  refine gX4_92 (x := (some x0)) b hE rfl t1 dX4_variableNumber_4 ?_
  refine lv_icmp_ge (tgt := 28) b.1 b.2.1 dX4_variableNumber_7 (by decide) (fun c2 => ?_) (fun c2 => ?_)
  · have hf := oI_t c2 hf
    refine lv_aload_n b.1 b.2.1 dX4_variableNumber_28 rfl (lv_at hl 0 rfl) ?_
    refine gX4_92 (x := (some x0)) b hE rfl t1 dX4_variableNumber_29 ?_
    refine lv_iconst (v := 3) b.1 b.2.1 dX4_variableNumber_32 (by decide) ?_
    refine lv_icmp_lt (tgt := 38) b.1 b.2.1 dX4_variableNumber_33 (by decide) (fun c3 => ?_) (fun c3 => ?_)
    · have hf := oI_t c3 hf
      refine lv_aload_n b.1 b.2.1 dX4_variableNumber_38 rfl (lv_at hl 0 rfl) ?_
      refine gX4_18 (x := (some x0)) b hE rfl t1 dX4_variableNumber_39 ?_
      refine lv_aload_n b.1 b.2.1 dX4_variableNumber_42 rfl (lv_at hl 0 rfl) ?_
      refine gX4_92 (x := (some x0)) b hE rfl t1 dX4_variableNumber_43 ?_
      refine lv_iload_n b.1 b.2.1 dX4_variableNumber_46 rfl (lv_at hl 1 rfl) ?_
      obtain ⟨a4, ea4, hf⟩ := oN_s hf
      obtain ⟨t5, hf⟩ := oC_s hf
      have t5 := of_decide_eq_true t5
      obtain ⟨g6, hf⟩ := oC_s hf
      obtain ⟨h7, eh7, hf⟩ := oL_s hf
      refine q_iast (x := (hR h 514 x0)) b hE ea4 t5 g6 eh7 dX4_variableNumber_47 (fun H locs hE => ?_)
      refine lv_aload_n b.1 b.2.1 dX4_variableNumber_48 rfl (lv_at hl 0 rfl) ?_
      refine lv_dup b.1 b.2.1 dX4_variableNumber_49 rfl ?_
      have t8 := tg_sA eh7 t1
      refine gX4_92 (x := (some x0)) b hE rfl t8 dX4_variableNumber_50 ?_
      refine lv_iconst (v := 1) b.1 b.2.1 dX4_variableNumber_53 (by decide) ?_
      refine lv_iadd b.1 b.2.1 dX4_variableNumber_54 ?_
      obtain ⟨h9, eh9, hf⟩ := oL_s hf
      refine pX4_92 (x := (some x0)) b hE rfl t8 eh9 dX4_variableNumber_55 (fun H locs hE => ?_)
      refine lv_aload_n b.1 b.2.1 dX4_variableNumber_58 rfl (lv_at hl 0 rfl) ?_
      have t10 := tg_sI eh9 t8
      refine gX4_92 (x := (some x0)) b hE rfl t10 dX4_variableNumber_59 ?_
      refine lv_iconst (v := 1) b.1 b.2.1 dX4_variableNumber_62 (by decide) ?_
      refine lv_isub b.1 b.2.1 dX4_variableNumber_63 ?_
      cases hf
      exact k_iret b hlk hr hE (Nat.le_refl _) (Nat.le_refl _) dX4_variableNumber_64
    · have hf := oI_f c3 hf
      refine lv_iconst (v := (-1)) b.1 b.2.1 dX4_variableNumber_36 (by decide) ?_
      cases hf
      exact k_iret b hlk hr hE (Nat.le_refl _) (Nat.le_refl _) dX4_variableNumber_37
  · have hf := oI_f c2 hf
    refine lv_aload_n b.1 b.2.1 dX4_variableNumber_10 rfl (lv_at hl 0 rfl) ?_
    refine gX4_18 (x := (some x0)) b hE rfl t1 dX4_variableNumber_11 ?_
    refine lv_iload_n b.1 b.2.1 dX4_variableNumber_14 rfl (lv_at hl 2 rfl) ?_
    obtain ⟨a11, ea11, hf⟩ := oN_s hf
    obtain ⟨t12, hf⟩ := oC_s hf
    have t12 := of_decide_eq_true t12
    obtain ⟨g13, hf⟩ := oC_s hf
    refine q_iald (x := (hR h 514 x0)) b hE ea11 t12 g13 dX4_variableNumber_15 ?_
    refine lv_iload_n b.1 b.2.1 dX4_variableNumber_16 rfl (lv_at hl 1 rfl) ?_
    refine lv_icmp_ne (tgt := 22) b.1 b.2.1 dX4_variableNumber_17 (by decide) (fun c14 => ?_) (fun c14 => ?_)
    · have hf := oI_f c14 hf
      obtain ⟨y15, ey15, hf⟩ := oL_s hf
      refine lv_iinc (v := y15) (lv' := [(2, .int y15), (0, .ref (ad x0)), (1, .int x1)]) b.1 b.2.1 dX4_variableNumber_22 hl (k := 2) rfl (by rw [ey15]; rfl) (by decide) rfl (fun ls hl => ?_)
      refine lv_goto (tgt := 2) b.1 b.2.1 dX4_variableNumber_25 (by decide) ?_
      exact H2 h x0 x1 y15 _ _ _ hf hE (lv_sub hl [1, 2, 0] rfl)
    · have hf := oI_t c14 hf
      refine lv_iload_n b.1 b.2.1 dX4_variableNumber_20 rfl (lv_at hl 2 rfl) ?_
      cases hf
      exact k_iret b hlk hr hE (Nat.le_refl _) (Nat.le_refl _) dX4_variableNumber_21
def fX4_variableNumber_2  : Nat → PH → Nat → Int32 → Int32 → Option (PH × Int32)
  | 0 => fun _ _ _ _ => none
  | n + 1 => fX4_variableNumber_2F  (fX4_variableNumber_2  n)
set_option maxHeartbeats 4000000 in
theorem wfX4_variableNumber_2 {args : Array Value} (b : Bd p s m c cX4_variableNumber 3 RX4 D aC) (hlk : meth.locks = false) (hr : meth.sig.returnType = some .int) {Z : State → Prop} (zs : Z s) (zk : ZOK Z (Rg ad)) {hz : PH} {rz : Int32} : ∀ n : Nat, ∀ (h : PH) (x0 : Nat) (x1 : Int32) (x2 : Int32), ∀ (H : Heap) (locs : List Loc) (ls : Array Slot), fX4_variableNumber_2  n h x0 x1 x2 = some (hz, rz) → CE (EX D aC ad h) (Rg ad) s H locs → lv_has ls 3 [(0, .ref (ad x0)), (1, .int x1), (2, .int x2)] → W p l e (RM 0 0 0 0) s m args below meth c H locs 0 0 (MQ below (PQ (EX D aC ad hz) (Rg ad) (some (.int rz))) args s 0 0 (Rg ad)) (F0 m 2 ls []) := by
  intro n
  induction n with
  | zero =>
    intro h x0 x1 x2 H locs ls hf
    have hf : (none : Option (PH × Int32)) = some _ := hf
    cases hf
  | succ n ih =>
    intro h x0 x1 x2 H locs ls hf hE hl
    exact wfX4_variableNumber_2F b hlk hr zs zk  ih hf hE hl
def fX4_variableNumber_0  (h : PH) (x0 : Nat) (x1 : Int32) : Option (PH × Int32) :=
  fX4_variableNumber_2  FU h x0 x1 0
set_option maxHeartbeats 4000000 in
theorem wfX4_variableNumber_0 {args : Array Value} (b : Bd p s m c cX4_variableNumber 3 RX4 D aC) (hlk : meth.locks = false) (hr : meth.sig.returnType = some .int) {Z : State → Prop} (zs : Z s) (zk : ZOK Z (Rg ad)) {hz : PH} {rz : Int32} {h : PH} {x0 : Nat} {x1 : Int32}  {H : Heap} {locs : List Loc} {ls : Array Slot} (hf : fX4_variableNumber_0 h x0 x1 = some (hz, rz)) (hE : CE (EX D aC ad h) (Rg ad) s H locs) (hl : lv_has ls 3 [(0, .ref (ad x0)), (1, .int x1)]) : W p l e (RM 0 0 0 0) s m args below meth c H locs 0 0 (MQ below (PQ (EX D aC ad hz) (Rg ad) (some (.int rz))) args s 0 0 (Rg ad)) (F0 m 0 ls []) := by
  unfold fX4_variableNumber_0 at hf
  refine lv_iconst (v := 0) b.1 b.2.1 dX4_variableNumber_0 (by decide) ?_
  refine lv_istore_n (lv' := [(2, .int 0), (0, .ref (ad x0)), (1, .int x1)]) b.1 b.2.1 dX4_variableNumber_1 rfl hl (by decide) rfl (fun ls hl => ?_)
  exact wfX4_variableNumber_2 b hlk hr zs zk  FU h x0 x1 0 _ _ _ hf hE (lv_sub hl [1, 2, 0] rfl)
def fX4_variableNumber (h : PH) (x0 : Nat) (x1 : Int32) : Option (PH × Int32) := fX4_variableNumber_0 h x0 x1
set_option maxHeartbeats 4000000 in
theorem CX4_variableNumber (l : Launch) (D : va_G) (aC : Nat → ClassId) (ad : Nat → Nat) {Z : State → Prop} (zk : ZOK Z (Rg ad)) {h : PH} {x0 : Nat} {x1 : Int32} {hz : PH} {rz : Int32} (hf : fX4_variableNumber h x0 x1 = some (hz, rz)) : CM l D aC Z yX4_variableNumber cX4_variableNumber 3 (some .int) 0 0 0 0 (EX D aC ad h) [.ref (ad x0), .int x1] (EX D aC ad hz) (some (.int rz)) (Rg ad) := by
  refine CM.of rfl ?_
  intro p e s m below meth c b hr hlk hin2 zs hE
  refine k_ent (Nat.le_of_ble_eq_true rfl) (fun ls hl => ?_)
  exact wfX4_variableNumber_0 b hlk hr zs zk hf hE (lv_sub hl [0, 1] rfl)
theorem dX4_term_0 : decode cX4_term 0 = .ok (.aload_n 0, 1) := by decide +kernel
theorem dX4_term_1 : decode cX4_term 1 = .ok (.getfield 155, 3) := by decide +kernel
theorem dX4_term_4 : decode cX4_term 4 = .ok (.istore_n 1, 1) := by decide +kernel
theorem dX4_term_5 : decode cX4_term 5 = .ok (.aload_n 0, 1) := by decide +kernel
theorem dX4_term_6 : decode cX4_term 6 = .ok (.getfield 60, 3) := by decide +kernel
theorem dX4_term_9 : decode cX4_term 9 = .ok (.sipush 261, 3) := by decide +kernel
theorem dX4_term_12 : decode cX4_term 12 = .ok (.if_icmp .ne 39, 3) := by decide +kernel
theorem dX4_term_15 : decode cX4_term 15 = .ok (.aload_n 0, 1) := by decide +kernel
theorem dX4_term_16 : decode cX4_term 16 = .ok (.aload_n 0, 1) := by decide +kernel
theorem dX4_term_17 : decode cX4_term 17 = .ok (.getfield 162, 3) := by decide +kernel
theorem dX4_term_20 : decode cX4_term 20 = .ok (.l2i, 1) := by decide +kernel
theorem dX4_term_21 : decode cX4_term 21 = .ok (.invokevirtual 265, 3) := by decide +kernel
theorem dX4_term_24 : decode cX4_term 24 = .ok (.istore_n 2, 1) := by decide +kernel
theorem dX4_term_25 : decode cX4_term 25 = .ok (.iload_n 2, 1) := by decide +kernel
theorem dX4_term_26 : decode cX4_term 26 = .ok (.iconst (-1), 1) := by decide +kernel
theorem dX4_term_27 : decode cX4_term 27 = .ok (.if_icmp .ne 8, 3) := by decide +kernel
theorem dX4_term_30 : decode cX4_term 30 = .ok (.aload_n 0, 1) := by decide +kernel
theorem dX4_term_31 : decode cX4_term 31 = .ok (.iconst 2, 1) := by decide +kernel
theorem dX4_term_32 : decode cX4_term 32 = .ok (.invokevirtual 89, 3) := by decide +kernel
theorem dX4_term_35 : decode cX4_term 35 = .ok (.aload_n 0, 1) := by decide +kernel
theorem dX4_term_36 : decode cX4_term 36 = .ok (.sipush 261, 3) := by decide +kernel
theorem dX4_term_39 : decode cX4_term 39 = .ok (.invokevirtual 63, 3) := by decide +kernel
theorem dX4_term_42 : decode cX4_term 42 = .ok (.pop, 1) := by decide +kernel
theorem dX4_term_43 : decode cX4_term 43 = .ok (.iconst 5, 1) := by decide +kernel
theorem dX4_term_44 : decode cX4_term 44 = .ok (.iconst 0, 1) := by decide +kernel
theorem dX4_term_45 : decode cX4_term 45 = .ok (.iload_n 2, 1) := by decide +kernel
theorem dX4_term_46 : decode cX4_term 46 = .ok (.invokestatic 268, 3) := by decide +kernel
theorem dX4_term_49 : decode cX4_term 49 = .ok (.iadd, 1) := by decide +kernel
theorem dX4_term_50 : decode cX4_term 50 = .ok (.ireturn, 1) := by decide +kernel
theorem dX4_term_51 : decode cX4_term 51 = .ok (.aload_n 0, 1) := by decide +kernel
theorem dX4_term_52 : decode cX4_term 52 = .ok (.getfield 25, 3) := by decide +kernel
theorem dX4_term_55 : decode cX4_term 55 = .ok (.getfield 67, 3) := by decide +kernel
theorem dX4_term_58 : decode cX4_term 58 = .ok (.aload_n 0, 1) := by decide +kernel
theorem dX4_term_59 : decode cX4_term 59 = .ok (.getfield 162, 3) := by decide +kernel
theorem dX4_term_62 : decode cX4_term 62 = .ok (.invokevirtual 176, 3) := by decide +kernel
theorem dX4_term_65 : decode cX4_term 65 = .ok (.istore_n 2, 1) := by decide +kernel
theorem dX4_term_66 : decode cX4_term 66 = .ok (.aload_n 0, 1) := by decide +kernel
theorem dX4_term_67 : decode cX4_term 67 = .ok (.sipush 260, 3) := by decide +kernel
theorem dX4_term_70 : decode cX4_term 70 = .ok (.invokevirtual 63, 3) := by decide +kernel
theorem dX4_term_73 : decode cX4_term 73 = .ok (.ifCond .eq 14, 3) := by decide +kernel
theorem dX4_term_76 : decode cX4_term 76 = .ok (.iload_n 2, 1) := by decide +kernel
theorem dX4_term_77 : decode cX4_term 77 = .ok (.iconst (-1), 1) := by decide +kernel
theorem dX4_term_78 : decode cX4_term 78 = .ok (.if_icmp .ne 9, 3) := by decide +kernel
theorem dX4_term_81 : decode cX4_term 81 = .ok (.aload_n 0, 1) := by decide +kernel
theorem dX4_term_82 : decode cX4_term 82 = .ok (.iconst 4, 1) := by decide +kernel
theorem dX4_term_83 : decode cX4_term 83 = .ok (.iload_n 1, 1) := by decide +kernel
theorem dX4_term_84 : decode cX4_term 84 = .ok (.invokevirtual 166, 3) := by decide +kernel
theorem dX4_term_87 : decode cX4_term 87 = .ok (.iconst 0, 1) := by decide +kernel
theorem dX4_term_88 : decode cX4_term 88 = .ok (.iload_n 2, 1) := by decide +kernel
theorem dX4_term_89 : decode cX4_term 89 = .ok (.invokestatic 268, 3) := by decide +kernel
theorem dX4_term_92 : decode cX4_term 92 = .ok (.ireturn, 1) := by decide +kernel
def fX4_term_87  (h : PH) (x2 : Int32) : Option (PH × Int32) :=
  some (h, (if 0 < x2 then x2 else 0))
set_option maxHeartbeats 4000000 in
theorem wfX4_term_87 {args : Array Value} (b : Bd p s m c cX4_term 3 RX4 D aC) (hlk : meth.locks = false) (hr : meth.sig.returnType = some .int) {Z : State → Prop} (zs : Z s) (zk : ZOK Z (Rg ad)) {hz : PH} {rz : Int32} {h : PH} {x2 : Int32}  {H : Heap} {locs : List Loc} {ls : Array Slot} (hf : fX4_term_87 h x2 = some (hz, rz)) (hE : CE (EX D aC ad h) (Rg ad) s H locs) (hl : lv_has ls 3 [(2, .int x2)]) : W p l e (RM 2 43 0 0) s m args below meth c H locs 0 0 (MQ below (PQ (EX D aC ad hz) (Rg ad) (some (.int rz))) args s 0 0 (Rg ad)) (F0 m 87 ls []) := by
  unfold fX4_term_87 at hf
  refine lv_iconst (v := 0) b.1 b.2.1 dX4_term_87 (by decide) ?_
  refine lv_iload_n b.1 b.2.1 dX4_term_88 rfl (lv_at hl 0 rfl) ?_
  refine k_max b (in3 102 rfl rfl) mthmax_s mth_i mthmax_c hl.1 ⟨Nat.le_of_ble_eq_true rfl, Nat.le_of_ble_eq_true rfl⟩ (Nat.le_of_ble_eq_true rfl) ⟨Nat.le_refl _, Nat.le_refl _⟩ dX4_term_89 ?_
  cases hf
  exact k_iret b hlk hr hE (Nat.le_refl _) (Nat.le_refl _) dX4_term_92
def fX4_term_35  (h : PH) (x0 : Nat) (x2 : Int32) : Option (PH × Int32) :=
  oC (decide (hT h x0 = 5)) (oB2 (fX4_expect h x0 261) (fun h4 r3 => some (h4, (5 + (if 0 < x2 then x2 else 0)))))
set_option maxHeartbeats 4000000 in
theorem wfX4_term_35 {args : Array Value} (b : Bd p s m c cX4_term 3 RX4 D aC) (hlk : meth.locks = false) (hr : meth.sig.returnType = some .int) {Z : State → Prop} (zs : Z s) (zk : ZOK Z (Rg ad)) {hz : PH} {rz : Int32} {h : PH} {x0 : Nat} {x2 : Int32}  {H : Heap} {locs : List Loc} {ls : Array Slot} (hf : fX4_term_35 h x0 x2 = some (hz, rz)) (hE : CE (EX D aC ad h) (Rg ad) s H locs) (hl : lv_has ls 3 [(0, .ref (ad x0)), (2, .int x2)]) : W p l e (RM 2 43 0 0) s m args below meth c H locs 0 0 (MQ below (PQ (EX D aC ad hz) (Rg ad) (some (.int rz))) args s 0 0 (Rg ad)) (F0 m 35 ls []) := by
  unfold fX4_term_35 at hf
  refine lv_aload_n b.1 b.2.1 dX4_term_35 rfl (lv_at hl 0 rfl) ?_
  refine lv_sipush (v := 261) b.1 b.2.1 dX4_term_36 (by decide) ?_
  obtain ⟨t1, hf⟩ := oC_s hf
  have t1 := of_decide_eq_true t1
  obtain ⟨h4, r3, hc2, hf⟩ := oB2_s hf
  refine k_callV0 (C := RX4) b zs zk hE (CX4_expect l D aC ad zk hc2) mc_X4_expect (in2 179 rfl rfl) mi_X4_expect ms_X4_expect ini_RX4 ok_X4_expect (x_recv b hE (ci := 4) rfl (by decide) t1) ⟨Nat.le_of_ble_eq_true rfl, Nat.le_of_ble_eq_true rfl⟩ rfl hl.1 rfl (k_room _ (by exact Nat.le_of_ble_eq_true rfl)) ⟨Nat.le_refl _, Nat.le_refl _⟩ dX4_term_39 (fun H locs hE => ?_)
  refine lv_pop b.1 b.2.1 dX4_term_42 rfl ?_
  refine lv_iconst (v := 5) b.1 b.2.1 dX4_term_43 (by decide) ?_
  refine lv_iconst (v := 0) b.1 b.2.1 dX4_term_44 (by decide) ?_
  refine lv_iload_n b.1 b.2.1 dX4_term_45 rfl (lv_at hl 1 rfl) ?_
  refine k_max b (in3 102 rfl rfl) mthmax_s mth_i mthmax_c hl.1 ⟨Nat.le_of_ble_eq_true rfl, Nat.le_of_ble_eq_true rfl⟩ (Nat.le_of_ble_eq_true rfl) ⟨Nat.le_refl _, Nat.le_refl _⟩ dX4_term_46 ?_
  refine lv_iadd b.1 b.2.1 dX4_term_49 ?_
  cases hf
  exact k_iret b hlk hr hE (Nat.le_refl _) (Nat.le_refl _) dX4_term_50
def fX4_term_0  (h : PH) (x0 : Nat) : Option (PH × Int32) :=
  oC (decide (hT h x0 = 5)) (oL (hI h 522 x0) (fun y6 => if (hI h 521 x0) = 261 then (oB2 (fX4_variableNumber h x0 (Int64.toInt32 (hL h 523 x0))) (fun h24 r23 => if r23 = (-1) then (oC (decide (hT h24 x0 = 5)) (oB (fX4_stopAt h24 x0 2) (fun h28 => fX4_term_35  h28 x0 r23))) else (fX4_term_35  h24 x0 r23))) else (oN (hR h 512 x0) (fun a8 => oC (decide (hT h a8 = 2)) (oN (hR h 128 a8) (fun a10 => oC (decide (hT h a10 = 8)) (oB (fX7_find h a10 (hL h 523 x0)) (fun r13 => oB2 (fX4_expect h x0 260) (fun h16 r15 => if r15 = 0 then (fX4_term_87  h16 r13) else (if r13 = (-1) then (oC (decide (hT h16 x0 = 5)) (oB (fX4_note h16 x0 4 y6) (fun h21 => fX4_term_87  h21 r13))) else (fX4_term_87  h16 r13)))))))))))
set_option maxHeartbeats 4000000 in
theorem wfX4_term_0 {args : Array Value} (b : Bd p s m c cX4_term 3 RX4 D aC) (hlk : meth.locks = false) (hr : meth.sig.returnType = some .int) {Z : State → Prop} (zs : Z s) (zk : ZOK Z (Rg ad)) {hz : PH} {rz : Int32} {h : PH} {x0 : Nat}  {H : Heap} {locs : List Loc} {ls : Array Slot} (hf : fX4_term_0 h x0 = some (hz, rz)) (hE : CE (EX D aC ad h) (Rg ad) s H locs) (hl : lv_has ls 3 [(0, .ref (ad x0))]) : W p l e (RM 2 43 0 0) s m args below meth c H locs 0 0 (MQ below (PQ (EX D aC ad hz) (Rg ad) (some (.int rz))) args s 0 0 (Rg ad)) (F0 m 0 ls []) := by
  unfold fX4_term_0 at hf
  refine lv_aload_n b.1 b.2.1 dX4_term_0 rfl (lv_at hl 0 rfl) ?_
  obtain ⟨t5, hf⟩ := oC_s hf
  have t5 := of_decide_eq_true t5
  refine gX4_155 (x := (some x0)) b hE rfl t5 dX4_term_1 ?_
  obtain ⟨y6, ey6, hf⟩ := oL_s hf
  refine k_nmI ey6 ?_
  refine lv_istore_n (lv' := [(1, .int y6), (0, .ref (ad x0))]) b.1 b.2.1 dX4_term_4 rfl hl (by decide) rfl (fun ls hl => ?_)
  refine lv_aload_n b.1 b.2.1 dX4_term_5 rfl (lv_at hl 1 rfl) ?_
  refine gX4_60 (x := (some x0)) b hE rfl t5 dX4_term_6 ?_
  refine lv_sipush (v := 261) b.1 b.2.1 dX4_term_9 (by decide) ?_
  refine lv_icmp_ne (tgt := 51) b.1 b.2.1 dX4_term_12 (by decide) (fun c7 => ?_) (fun c7 => ?_)
  · have hf := oI_f c7 hf
    refine lv_aload_n b.1 b.2.1 dX4_term_51 rfl (lv_at hl 1 rfl) ?_
    refine gX4_25 (x := (some x0)) b hE rfl t5 dX4_term_52 ?_
    obtain ⟨a8, ea8, hf⟩ := oN_s hf
    obtain ⟨t9, hf⟩ := oC_s hf
    have t9 := of_decide_eq_true t9
    refine gX4_67 (x := (hR h 512 x0)) b hE ea8 t9 dX4_term_55 ?_
    refine lv_aload_n b.1 b.2.1 dX4_term_58 rfl (lv_at hl 1 rfl) ?_
    refine gX4_162 (x := (some x0)) b hE rfl t5 dX4_term_59 ?_
    obtain ⟨a10, ea10, hf⟩ := oN_s hf
    obtain ⟨t11, hf⟩ := oC_s hf
    have t11 := of_decide_eq_true t11
    obtain ⟨r13, hc12, hf⟩ := oB_s hf
    refine k_stk [.long (hL h 523 x0)] ea10 ?_
    refine k_callV0 (C := RX7) b zs zk hE (CX7_find l D aC ad zk hc12) mc_X7_find (in2 195 rfl rfl) mi_X7_find ms_X7_find ini_RX7 ok_X7_find (x_recv b hE (ci := 7) rfl (by decide) t11) ⟨Nat.le_of_ble_eq_true rfl, Nat.le_of_ble_eq_true rfl⟩ rfl hl.1 rfl (k_room _ (by exact Nat.le_of_ble_eq_true rfl)) ⟨Nat.le_refl _, Nat.le_refl _⟩ dX4_term_62 (fun H locs hE => ?_)
    refine lv_istore_n (lv' := [(2, .int r13), (1, .int y6), (0, .ref (ad x0))]) b.1 b.2.1 dX4_term_65 rfl hl (by decide) rfl (fun ls hl => ?_)
    refine lv_aload_n b.1 b.2.1 dX4_term_66 rfl (lv_at hl 2 rfl) ?_
    refine lv_sipush (v := 260) b.1 b.2.1 dX4_term_67 (by decide) ?_
    obtain ⟨h16, r15, hc14, hf⟩ := oB2_s hf
    refine k_callV0 (C := RX4) b zs zk hE (CX4_expect l D aC ad zk hc14) mc_X4_expect (in2 179 rfl rfl) mi_X4_expect ms_X4_expect ini_RX4 ok_X4_expect (x_recv b hE (ci := 4) rfl (by decide) t5) ⟨Nat.le_of_ble_eq_true rfl, Nat.le_of_ble_eq_true rfl⟩ rfl hl.1 rfl (k_room _ (by exact Nat.le_of_ble_eq_true rfl)) ⟨Nat.le_refl _, Nat.le_refl _⟩ dX4_term_70 (fun H locs hE => ?_)
    refine lv_if_eq (tgt := 87) b.1 b.2.1 dX4_term_73 (by decide) (fun c17 => ?_) (fun c17 => ?_)
    · have hf := oI_t c17 hf
      exact wfX4_term_87 b hlk hr zs zk  hf hE (lv_sub hl [0] rfl)
    · have hf := oI_f c17 hf
      refine lv_iload_n b.1 b.2.1 dX4_term_76 rfl (lv_at hl 0 rfl) ?_
      refine lv_iconst (v := (-1)) b.1 b.2.1 dX4_term_77 (by decide) ?_
      refine lv_icmp_ne (tgt := 87) b.1 b.2.1 dX4_term_78 (by decide) (fun c18 => ?_) (fun c18 => ?_)
      · have hf := oI_f c18 hf
        exact wfX4_term_87 b hlk hr zs zk  hf hE (lv_sub hl [0] rfl)
      · have hf := oI_t c18 hf
        refine lv_aload_n b.1 b.2.1 dX4_term_81 rfl (lv_at hl 2 rfl) ?_
        refine lv_iconst (v := 4) b.1 b.2.1 dX4_term_82 (by decide) ?_
        refine lv_iload_n b.1 b.2.1 dX4_term_83 rfl (lv_at hl 1 rfl) ?_
        obtain ⟨t19, hf⟩ := oC_s hf
        have t19 := of_decide_eq_true t19
        obtain ⟨h21, hc20, hf⟩ := oB_s hf
        refine k_callV0 (C := RX4) b zs zk hE (CX4_note l D aC ad zk hc20) mc_X4_note (in2 199 rfl rfl) mi_X4_note ms_X4_note ini_RX4 ok_X4_note (x_recv b hE (ci := 4) rfl (by decide) t19) ⟨Nat.le_of_ble_eq_true rfl, Nat.le_of_ble_eq_true rfl⟩ rfl hl.1 rfl (k_room _ (by exact Nat.le_of_ble_eq_true rfl)) ⟨Nat.le_refl _, Nat.le_refl _⟩ dX4_term_84 (fun H locs hE => ?_)
        exact wfX4_term_87 b hlk hr zs zk  hf hE (lv_sub hl [0] rfl)
  · have hf := oI_t c7 hf
    refine lv_aload_n b.1 b.2.1 dX4_term_15 rfl (lv_at hl 1 rfl) ?_
    refine lv_aload_n b.1 b.2.1 dX4_term_16 rfl (lv_at hl 1 rfl) ?_
    refine gX4_162 (x := (some x0)) b hE rfl t5 dX4_term_17 ?_
    refine lv_l2i b.1 b.2.1 dX4_term_20 rfl ?_
    obtain ⟨h24, r23, hc22, hf⟩ := oB2_s hf
    refine k_callV0 (C := RX4) b zs zk hE (CX4_variableNumber l D aC ad zk hc22) mc_X4_variableNumber (in3 98 rfl rfl) mi_X4_variableNumber ms_X4_variableNumber ini_RX4 ok_X4_variableNumber (x_recv b hE (ci := 4) rfl (by decide) t5) ⟨Nat.le_of_ble_eq_true rfl, Nat.le_of_ble_eq_true rfl⟩ rfl hl.1 rfl (k_room _ (by exact Nat.le_of_ble_eq_true rfl)) ⟨Nat.le_refl _, Nat.le_refl _⟩ dX4_term_21 (fun H locs hE => ?_)
    refine lv_istore_n (lv' := [(2, .int r23), (1, .int y6), (0, .ref (ad x0))]) b.1 b.2.1 dX4_term_24 rfl hl (by decide) rfl (fun ls hl => ?_)
    have hl := lv_sub (l' := [(2, .int r23), (0, .ref (ad x0))]) hl [0, 2] rfl
    refine lv_iload_n b.1 b.2.1 dX4_term_25 rfl (lv_at hl 0 rfl) ?_
    refine lv_iconst (v := (-1)) b.1 b.2.1 dX4_term_26 (by decide) ?_
    refine lv_icmp_ne (tgt := 35) b.1 b.2.1 dX4_term_27 (by decide) (fun c25 => ?_) (fun c25 => ?_)
    · have hf := oI_f c25 hf
      exact wfX4_term_35 b hlk hr zs zk  hf hE (lv_sub hl [1, 0] rfl)
    · have hf := oI_t c25 hf
      refine lv_aload_n b.1 b.2.1 dX4_term_30 rfl (lv_at hl 1 rfl) ?_
      refine lv_iconst (v := 2) b.1 b.2.1 dX4_term_31 (by decide) ?_
      obtain ⟨t26, hf⟩ := oC_s hf
      have t26 := of_decide_eq_true t26
      obtain ⟨h28, hc27, hf⟩ := oB_s hf
      refine k_callV0 (C := RX4) b zs zk hE (CX4_stopAt l D aC ad zk hc27) mc_X4_stopAt (in2 183 rfl rfl) mi_X4_stopAt ms_X4_stopAt ini_RX4 ok_X4_stopAt (x_recv b hE (ci := 4) rfl (by decide) t26) ⟨Nat.le_of_ble_eq_true rfl, Nat.le_of_ble_eq_true rfl⟩ rfl hl.1 rfl (k_room _ (by exact Nat.le_of_ble_eq_true rfl)) ⟨Nat.le_refl _, Nat.le_refl _⟩ dX4_term_32 (fun H locs hE => ?_)
      exact wfX4_term_35 b hlk hr zs zk  hf hE (lv_sub hl [1, 0] rfl)
def fX4_term (h : PH) (x0 : Nat) : Option (PH × Int32) := fX4_term_0 h x0
set_option maxHeartbeats 4000000 in
theorem CX4_term (l : Launch) (D : va_G) (aC : Nat → ClassId) (ad : Nat → Nat) {Z : State → Prop} (zk : ZOK Z (Rg ad)) {h : PH} {x0 : Nat} {hz : PH} {rz : Int32} (hf : fX4_term h x0 = some (hz, rz)) : CM l D aC Z yX4_term cX4_term 3 (some .int) 2 43 0 0 (EX D aC ad h) [.ref (ad x0)] (EX D aC ad hz) (some (.int rz)) (Rg ad) := by
  refine CM.of rfl ?_
  intro p e s m below meth c b hr hlk hin2 zs hE
  refine k_ent (Nat.le_of_ble_eq_true rfl) (fun ls hl => ?_)
  exact wfX4_term_0 b hlk hr zs zk hf hE (lv_sub hl [0] rfl)
end
