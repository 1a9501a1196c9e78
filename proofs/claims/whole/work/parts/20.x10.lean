section
variable {p : Program} {l : Launch} {e : Env} {s : State} {m : MethodId} {below : List Frame} {meth : Method} {c : Code} {D : va_G} {aC : Nat → ClassId} {ad : Nat → Nat}
theorem dX4_resolveOver_0 : decode cX4_resolveOver 0 = .ok (.aload_n 0, 1) := by decide +kernel
theorem dX4_resolveOver_1 : decode cX4_resolveOver 1 = .ok (.getfield 25, 3) := by decide +kernel
theorem dX4_resolveOver_4 : decode cX4_resolveOver 4 = .ok (.getfield 95, 3) := by decide +kernel
theorem dX4_resolveOver_7 : decode cX4_resolveOver 7 = .ok (.aload_n 0, 1) := by decide +kernel
theorem dX4_resolveOver_8 : decode cX4_resolveOver 8 = .ok (.getfield 12, 3) := by decide +kernel
theorem dX4_resolveOver_11 : decode cX4_resolveOver 11 = .ok (.iload_n 1, 1) := by decide +kernel
theorem dX4_resolveOver_12 : decode cX4_resolveOver 12 = .ok (.invokevirtual 204, 3) := by decide +kernel
theorem dX4_resolveOver_15 : decode cX4_resolveOver 15 = .ok (.invokevirtual 176, 3) := by decide +kernel
theorem dX4_resolveOver_18 : decode cX4_resolveOver 18 = .ok (.istore_n 2, 1) := by decide +kernel
theorem dX4_resolveOver_19 : decode cX4_resolveOver 19 = .ok (.aload_n 0, 1) := by decide +kernel
theorem dX4_resolveOver_20 : decode cX4_resolveOver 20 = .ok (.getfield 25, 3) := by decide +kernel
theorem dX4_resolveOver_23 : decode cX4_resolveOver 23 = .ok (.getfield 95, 3) := by decide +kernel
theorem dX4_resolveOver_26 : decode cX4_resolveOver 26 = .ok (.aload_n 0, 1) := by decide +kernel
theorem dX4_resolveOver_27 : decode cX4_resolveOver 27 = .ok (.getfield 12, 3) := by decide +kernel
theorem dX4_resolveOver_30 : decode cX4_resolveOver 30 = .ok (.iload_n 1, 1) := by decide +kernel
theorem dX4_resolveOver_31 : decode cX4_resolveOver 31 = .ok (.iconst 1, 1) := by decide +kernel
theorem dX4_resolveOver_32 : decode cX4_resolveOver 32 = .ok (.iadd, 1) := by decide +kernel
theorem dX4_resolveOver_33 : decode cX4_resolveOver 33 = .ok (.invokevirtual 204, 3) := by decide +kernel
theorem dX4_resolveOver_36 : decode cX4_resolveOver 36 = .ok (.invokevirtual 176, 3) := by decide +kernel
theorem dX4_resolveOver_39 : decode cX4_resolveOver 39 = .ok (.istore_n 3, 1) := by decide +kernel
theorem dX4_resolveOver_40 : decode cX4_resolveOver 40 = .ok (.aload_n 0, 1) := by decide +kernel
theorem dX4_resolveOver_41 : decode cX4_resolveOver 41 = .ok (.iload_n 2, 1) := by decide +kernel
theorem dX4_resolveOver_42 : decode cX4_resolveOver 42 = .ok (.aload_n 0, 1) := by decide +kernel
theorem dX4_resolveOver_43 : decode cX4_resolveOver 43 = .ok (.getfield 12, 3) := by decide +kernel
theorem dX4_resolveOver_46 : decode cX4_resolveOver 46 = .ok (.iload_n 1, 1) := by decide +kernel
theorem dX4_resolveOver_47 : decode cX4_resolveOver 47 = .ok (.invokevirtual 208, 3) := by decide +kernel
theorem dX4_resolveOver_50 : decode cX4_resolveOver 50 = .ok (.invokevirtual 212, 3) := by decide +kernel
theorem dX4_resolveOver_53 : decode cX4_resolveOver 53 = .ok (.aload_n 0, 1) := by decide +kernel
theorem dX4_resolveOver_54 : decode cX4_resolveOver 54 = .ok (.iload_n 3, 1) := by decide +kernel
theorem dX4_resolveOver_55 : decode cX4_resolveOver 55 = .ok (.aload_n 0, 1) := by decide +kernel
theorem dX4_resolveOver_56 : decode cX4_resolveOver 56 = .ok (.getfield 12, 3) := by decide +kernel
theorem dX4_resolveOver_59 : decode cX4_resolveOver 59 = .ok (.iload_n 1, 1) := by decide +kernel
theorem dX4_resolveOver_60 : decode cX4_resolveOver 60 = .ok (.iconst 1, 1) := by decide +kernel
theorem dX4_resolveOver_61 : decode cX4_resolveOver 61 = .ok (.iadd, 1) := by decide +kernel
theorem dX4_resolveOver_62 : decode cX4_resolveOver 62 = .ok (.invokevirtual 208, 3) := by decide +kernel
theorem dX4_resolveOver_65 : decode cX4_resolveOver 65 = .ok (.invokevirtual 212, 3) := by decide +kernel
theorem dX4_resolveOver_68 : decode cX4_resolveOver 68 = .ok (.iload_n 2, 1) := by decide +kernel
theorem dX4_resolveOver_69 : decode cX4_resolveOver 69 = .ok (.iload_n 3, 1) := by decide +kernel
theorem dX4_resolveOver_70 : decode cX4_resolveOver 70 = .ok (.if_icmp .ne 23, 3) := by decide +kernel
theorem dX4_resolveOver_73 : decode cX4_resolveOver 73 = .ok (.iload_n 2, 1) := by decide +kernel
theorem dX4_resolveOver_74 : decode cX4_resolveOver 74 = .ok (.iconst (-1), 1) := by decide +kernel
theorem dX4_resolveOver_75 : decode cX4_resolveOver 75 = .ok (.if_icmp .eq 18, 3) := by decide +kernel
theorem dX4_resolveOver_78 : decode cX4_resolveOver 78 = .ok (.aload_n 0, 1) := by decide +kernel
theorem dX4_resolveOver_79 : decode cX4_resolveOver 79 = .ok (.iconst 5, 1) := by decide +kernel
theorem dX4_resolveOver_80 : decode cX4_resolveOver 80 = .ok (.aload_n 0, 1) := by decide +kernel
theorem dX4_resolveOver_81 : decode cX4_resolveOver 81 = .ok (.getfield 12, 3) := by decide +kernel
theorem dX4_resolveOver_84 : decode cX4_resolveOver 84 = .ok (.iload_n 1, 1) := by decide +kernel
theorem dX4_resolveOver_85 : decode cX4_resolveOver 85 = .ok (.iconst 1, 1) := by decide +kernel
theorem dX4_resolveOver_86 : decode cX4_resolveOver 86 = .ok (.iadd, 1) := by decide +kernel
theorem dX4_resolveOver_87 : decode cX4_resolveOver 87 = .ok (.invokevirtual 208, 3) := by decide +kernel
theorem dX4_resolveOver_90 : decode cX4_resolveOver 90 = .ok (.invokevirtual 166, 3) := by decide +kernel
theorem dX4_resolveOver_93 : decode cX4_resolveOver 93 = .ok (.aload_n 0, 1) := by decide +kernel
theorem dX4_resolveOver_94 : decode cX4_resolveOver 94 = .ok (.getfield 25, 3) := by decide +kernel
theorem dX4_resolveOver_97 : decode cX4_resolveOver 97 = .ok (.iload_n 2, 1) := by decide +kernel
theorem dX4_resolveOver_98 : decode cX4_resolveOver 98 = .ok (.iload_n 3, 1) := by decide +kernel
theorem dX4_resolveOver_99 : decode cX4_resolveOver 99 = .ok (.invokevirtual 215, 3) := by decide +kernel
theorem dX4_resolveOver_102 : decode cX4_resolveOver 102 = .ok (.return_, 1) := by decide +kernel
def fX4_resolveOver_93  (h : PH) (x0 : Nat) (x2 : Int32) (x3 : Int32) : Option (PH) :=
  oC (decide (hT h x0 = 5)) (oN (hR h 512 x0) (fun a2 => oC (decide (hT h a2 = 2)) (oB (fX1_addOver h a2 x2 x3) (fun h5 => some (h5)))))
set_option maxHeartbeats 4000000 in
theorem wfX4_resolveOver_93 {args : Array Value} (b : Bd p s m c cX4_resolveOver 4 RX4 D aC) (hlk : meth.locks = false) (hr : meth.sig.returnType = none) {Z : State → Prop} (zs : Z s) (zk : ZOK Z (Rg ad)) {hz : PH} {h : PH} {x0 : Nat} {x2 : Int32} {x3 : Int32}  {H : Heap} {locs : List Loc} {ls : Array Slot} (hf : fX4_resolveOver_93 h x0 x2 x3 = some hz) (hE : CE (EX D aC ad h) (Rg ad) s H locs) (hl : lv_has ls 4 [(0, .ref (ad x0)), (2, .int x2), (3, .int x3)]) : W p l e (RM 3 65 0 0) s m args below meth c H locs 0 0 (MQ below (PQ (EX D aC ad hz) (Rg ad) none) args s 0 0 (Rg ad)) (F0 m 93 ls []) := by
  unfold fX4_resolveOver_93 at hf
  refine lv_aload_n b.1 b.2.1 dX4_resolveOver_93 rfl (lv_at hl 0 rfl) ?_
  obtain ⟨t1, hf⟩ := oC_s hf
  have t1 := of_decide_eq_true t1
  refine gX4_25 (x := (some x0)) b hE rfl t1 dX4_resolveOver_94 ?_
  refine lv_iload_n b.1 b.2.1 dX4_resolveOver_97 rfl (lv_at hl 1 rfl) ?_
  refine lv_iload_n b.1 b.2.1 dX4_resolveOver_98 rfl (lv_at hl 2 rfl) ?_
  obtain ⟨a2, ea2, hf⟩ := oN_s hf
  obtain ⟨t3, hf⟩ := oC_s hf
  have t3 := of_decide_eq_true t3
  obtain ⟨h5, hc4, hf⟩ := oB_s hf
  refine k_stk [.int x3, .int x2] ea2 ?_
  refine k_callV0 (C := RX1) b zs zk hE (CX1_addOver l D aC ad zk hc4) mc_X1_addOver (in3 179 rfl rfl) mi_X1_addOver ms_X1_addOver ini_RX1 ok_X1_addOver (x_recv b hE (ci := 1) rfl (by decide) t3) ⟨Nat.le_of_ble_eq_true rfl, Nat.le_of_ble_eq_true rfl⟩ rfl hl.1 rfl (k_room _ (by exact Nat.le_of_ble_eq_true rfl)) ⟨Nat.le_refl _, Nat.le_refl _⟩ dX4_resolveOver_99 (fun H locs hE => ?_)
  cases hf
  exact k_vret b hlk hr hE (Nat.le_refl _) (Nat.le_refl _) dX4_resolveOver_102
def fX4_resolveOver_0  (h : PH) (x0 : Nat) (x1 : Int32) : Option (PH) :=
  oC (decide (hT h x0 = 5)) (oN (hR h 512 x0) (fun a7 => oC (decide (hT h a7 = 2)) (oN (hR h 513 x0) (fun a9 => oC (decide (hT h a9 = 11)) (oB (fX10_valueAt h a9 x1) (fun r12 => oN (hR h 132 a7) (fun a13 => oC (decide (hT h a13 = 8)) (oB (fX7_find h a13 r12) (fun r16 => oB (fX10_valueAt h a9 (x1 + 1)) (fun r18 => oB (fX7_find h a13 r18) (fun r20 => oB (fX10_startAt h a9 x1) (fun r22 => oB (fX4_noteRule h x0 r16 r22) (fun h24 => oC (decide (hT h24 x0 = 5)) (oN (hR h24 513 x0) (fun a26 => oC (decide (hT h24 a26 = 11)) (oB (fX10_startAt h24 a26 (x1 + 1)) (fun r29 => oB (fX4_noteRule h24 x0 r20 r29) (fun h31 => if r16 = r20 then (if r16 = (-1) then (fX4_resolveOver_93  h31 x0 r16 r20) else (oC (decide (hT h31 x0 = 5)) (oN (hR h31 513 x0) (fun a35 => oC (decide (hT h31 a35 = 11)) (oB (fX10_startAt h31 a35 (x1 + 1)) (fun r38 => oB (fX4_note h31 x0 5 r38) (fun h40 => fX4_resolveOver_93  h40 x0 r16 r20))))))) else (fX4_resolveOver_93  h31 x0 r16 r20)))))))))))))))))))
set_option maxHeartbeats 4000000 in
theorem wfX4_resolveOver_0 {args : Array Value} (b : Bd p s m c cX4_resolveOver 4 RX4 D aC) (hlk : meth.locks = false) (hr : meth.sig.returnType = none) {Z : State → Prop} (zs : Z s) (zk : ZOK Z (Rg ad)) {hz : PH} {h : PH} {x0 : Nat} {x1 : Int32}  {H : Heap} {locs : List Loc} {ls : Array Slot} (hf : fX4_resolveOver_0 h x0 x1 = some hz) (hE : CE (EX D aC ad h) (Rg ad) s H locs) (hl : lv_has ls 4 [(0, .ref (ad x0)), (1, .int x1)]) : W p l e (RM 3 65 0 0) s m args below meth c H locs 0 0 (MQ below (PQ (EX D aC ad hz) (Rg ad) none) args s 0 0 (Rg ad)) (F0 m 0 ls []) := by
  unfold fX4_resolveOver_0 at hf
  refine lv_aload_n b.1 b.2.1 dX4_resolveOver_0 rfl (lv_at hl 0 rfl) ?_
  obtain ⟨t6, hf⟩ := oC_s hf
  have t6 := of_decide_eq_true t6
  refine gX4_25 (x := (some x0)) b hE rfl t6 dX4_resolveOver_1 ?_
  obtain ⟨a7, ea7, hf⟩ := oN_s hf
  obtain ⟨t8, hf⟩ := oC_s hf
  have t8 := of_decide_eq_true t8
  refine gX4_95 (x := (hR h 512 x0)) b hE ea7 t8 dX4_resolveOver_4 ?_
  refine lv_aload_n b.1 b.2.1 dX4_resolveOver_7 rfl (lv_at hl 0 rfl) ?_
  refine gX4_12 (x := (some x0)) b hE rfl t6 dX4_resolveOver_8 ?_
  refine lv_iload_n b.1 b.2.1 dX4_resolveOver_11 rfl (lv_at hl 1 rfl) ?_
  obtain ⟨a9, ea9, hf⟩ := oN_s hf
  obtain ⟨t10, hf⟩ := oC_s hf
  have t10 := of_decide_eq_true t10
  obtain ⟨r12, hc11, hf⟩ := oB_s hf
  refine k_stk [.int x1] ea9 ?_
  refine k_callV0 (C := RX10) b zs zk hE (CX10_valueAt l D aC ad zk hc11) mc_X10_valueAt (in3 159 rfl rfl) mi_X10_valueAt ms_X10_valueAt ini_RX10 ok_X10_valueAt (x_recv b hE (ci := 10) rfl (by decide) t10) ⟨Nat.le_of_ble_eq_true rfl, Nat.le_of_ble_eq_true rfl⟩ rfl hl.1 rfl (k_room _ (by exact Nat.le_of_ble_eq_true rfl)) ⟨Nat.le_refl _, Nat.le_refl _⟩ dX4_resolveOver_12 (fun H locs hE => ?_)
  obtain ⟨a13, ea13, hf⟩ := oN_s hf
  obtain ⟨t14, hf⟩ := oC_s hf
  have t14 := of_decide_eq_true t14
  obtain ⟨r16, hc15, hf⟩ := oB_s hf
  refine k_stk [.long r12] ea13 ?_
  refine k_callV0 (C := RX7) b zs zk hE (CX7_find l D aC ad zk hc15) mc_X7_find (in2 195 rfl rfl) mi_X7_find ms_X7_find ini_RX7 ok_X7_find (x_recv b hE (ci := 7) rfl (by decide) t14) ⟨Nat.le_of_ble_eq_true rfl, Nat.le_of_ble_eq_true rfl⟩ rfl hl.1 rfl (k_room _ (by exact Nat.le_of_ble_eq_true rfl)) ⟨Nat.le_refl _, Nat.le_refl _⟩ dX4_resolveOver_15 (fun H locs hE => ?_)
  refine lv_istore_n (lv' := [(2, .int r16), (0, .ref (ad x0)), (1, .int x1)]) b.1 b.2.1 dX4_resolveOver_18 rfl hl (by decide) rfl (fun ls hl => ?_)
  refine lv_aload_n b.1 b.2.1 dX4_resolveOver_19 rfl (lv_at hl 1 rfl) ?_
  refine gX4_25 (x := (some x0)) b hE rfl t6 dX4_resolveOver_20 ?_
  refine gX4_95 (x := (hR h 512 x0)) b hE ea7 t8 dX4_resolveOver_23 ?_
  refine lv_aload_n b.1 b.2.1 dX4_resolveOver_26 rfl (lv_at hl 1 rfl) ?_
  refine gX4_12 (x := (some x0)) b hE rfl t6 dX4_resolveOver_27 ?_
  refine lv_iload_n b.1 b.2.1 dX4_resolveOver_30 rfl (lv_at hl 2 rfl) ?_
  refine lv_iconst (v := 1) b.1 b.2.1 dX4_resolveOver_31 (by decide) ?_
  refine lv_iadd b.1 b.2.1 dX4_resolveOver_32 ?_
  obtain ⟨r18, hc17, hf⟩ := oB_s hf
  refine k_stk [.int (x1 + 1)] ea9 ?_
  refine k_callV0 (C := RX10) b zs zk hE (CX10_valueAt l D aC ad zk hc17) mc_X10_valueAt (in3 159 rfl rfl) mi_X10_valueAt ms_X10_valueAt ini_RX10 ok_X10_valueAt (x_recv b hE (ci := 10) rfl (by decide) t10) ⟨Nat.le_of_ble_eq_true rfl, Nat.le_of_ble_eq_true rfl⟩ rfl hl.1 rfl (k_room _ (by exact Nat.le_of_ble_eq_true rfl)) ⟨Nat.le_refl _, Nat.le_refl _⟩ dX4_resolveOver_33 (fun H locs hE => ?_)
  obtain ⟨r20, hc19, hf⟩ := oB_s hf
  refine k_stk [.long r18] ea13 ?_
  refine k_callV0 (C := RX7) b zs zk hE (CX7_find l D aC ad zk hc19) mc_X7_find (in2 195 rfl rfl) mi_X7_find ms_X7_find ini_RX7 ok_X7_find (x_recv b hE (ci := 7) rfl (by decide) t14) ⟨Nat.le_of_ble_eq_true rfl, Nat.le_of_ble_eq_true rfl⟩ rfl hl.1 rfl (k_room _ (by exact Nat.le_of_ble_eq_true rfl)) ⟨Nat.le_refl _, Nat.le_refl _⟩ dX4_resolveOver_36 (fun H locs hE => ?_)
  refine lv_istore_n (lv' := [(3, .int r20), (2, .int r16), (0, .ref (ad x0)), (1, .int x1)]) b.1 b.2.1 dX4_resolveOver_39 rfl hl (by decide) rfl (fun ls hl => ?_)
  refine lv_aload_n b.1 b.2.1 dX4_resolveOver_40 rfl (lv_at hl 2 rfl) ?_
  refine lv_iload_n b.1 b.2.1 dX4_resolveOver_41 rfl (lv_at hl 1 rfl) ?_
  refine lv_aload_n b.1 b.2.1 dX4_resolveOver_42 rfl (lv_at hl 2 rfl) ?_
  refine gX4_12 (x := (some x0)) b hE rfl t6 dX4_resolveOver_43 ?_
  refine lv_iload_n b.1 b.2.1 dX4_resolveOver_46 rfl (lv_at hl 3 rfl) ?_
  obtain ⟨r22, hc21, hf⟩ := oB_s hf
  refine k_stk [.int x1] ea9 ?_
  refine k_callV0 (C := RX10) b zs zk hE (CX10_startAt l D aC ad zk hc21) mc_X10_startAt (in3 163 rfl rfl) mi_X10_startAt ms_X10_startAt ini_RX10 ok_X10_startAt (x_recv b hE (ci := 10) rfl (by decide) t10) ⟨Nat.le_of_ble_eq_true rfl, Nat.le_of_ble_eq_true rfl⟩ rfl hl.1 rfl (k_room _ (by exact Nat.le_of_ble_eq_true rfl)) ⟨Nat.le_refl _, Nat.le_refl _⟩ dX4_resolveOver_47 (fun H locs hE => ?_)
  obtain ⟨h24, hc23, hf⟩ := oB_s hf
  refine k_callV0 (C := RX4) b zs zk hE (CX4_noteRule l D aC ad zk hc23) mc_X4_noteRule (in3 167 rfl rfl) mi_X4_noteRule ms_X4_noteRule ini_RX4 ok_X4_noteRule (x_recv b hE (ci := 4) rfl (by decide) t6) ⟨Nat.le_of_ble_eq_true rfl, Nat.le_of_ble_eq_true rfl⟩ rfl hl.1 rfl (k_room _ (by exact Nat.le_of_ble_eq_true rfl)) ⟨Nat.le_refl _, Nat.le_refl _⟩ dX4_resolveOver_50 (fun H locs hE => ?_)
  refine lv_aload_n b.1 b.2.1 dX4_resolveOver_53 rfl (lv_at hl 2 rfl) ?_
  refine lv_iload_n b.1 b.2.1 dX4_resolveOver_54 rfl (lv_at hl 0 rfl) ?_
  refine lv_aload_n b.1 b.2.1 dX4_resolveOver_55 rfl (lv_at hl 2 rfl) ?_
  obtain ⟨t25, hf⟩ := oC_s hf
  have t25 := of_decide_eq_true t25
  refine gX4_12 (x := (some x0)) b hE rfl t25 dX4_resolveOver_56 ?_
  refine lv_iload_n b.1 b.2.1 dX4_resolveOver_59 rfl (lv_at hl 3 rfl) ?_
  refine lv_iconst (v := 1) b.1 b.2.1 dX4_resolveOver_60 (by decide) ?_
  refine lv_iadd b.1 b.2.1 dX4_resolveOver_61 ?_
  obtain ⟨a26, ea26, hf⟩ := oN_s hf
  obtain ⟨t27, hf⟩ := oC_s hf
  have t27 := of_decide_eq_true t27
  obtain ⟨r29, hc28, hf⟩ := oB_s hf
  refine k_stk [.int (x1 + 1)] ea26 ?_
  refine k_callV0 (C := RX10) b zs zk hE (CX10_startAt l D aC ad zk hc28) mc_X10_startAt (in3 163 rfl rfl) mi_X10_startAt ms_X10_startAt ini_RX10 ok_X10_startAt (x_recv b hE (ci := 10) rfl (by decide) t27) ⟨Nat.le_of_ble_eq_true rfl, Nat.le_of_ble_eq_true rfl⟩ rfl hl.1 rfl (k_room _ (by exact Nat.le_of_ble_eq_true rfl)) ⟨Nat.le_refl _, Nat.le_refl _⟩ dX4_resolveOver_62 (fun H locs hE => ?_)
  obtain ⟨h31, hc30, hf⟩ := oB_s hf
  refine k_callV0 (C := RX4) b zs zk hE (CX4_noteRule l D aC ad zk hc30) mc_X4_noteRule (in3 167 rfl rfl) mi_X4_noteRule ms_X4_noteRule ini_RX4 ok_X4_noteRule (x_recv b hE (ci := 4) rfl (by decide) t25) ⟨Nat.le_of_ble_eq_true rfl, Nat.le_of_ble_eq_true rfl⟩ rfl hl.1 rfl (k_room _ (by exact Nat.le_of_ble_eq_true rfl)) ⟨Nat.le_refl _, Nat.le_refl _⟩ dX4_resolveOver_65 (fun H locs hE => ?_)
  refine lv_iload_n b.1 b.2.1 dX4_resolveOver_68 rfl (lv_at hl 1 rfl) ?_
  refine lv_iload_n b.1 b.2.1 dX4_resolveOver_69 rfl (lv_at hl 0 rfl) ?_
  refine lv_icmp_ne (tgt := 93) b.1 b.2.1 dX4_resolveOver_70 (by decide) (fun c32 => ?_) (fun c32 => ?_)
  · have hf := oI_f c32 hf
    exact wfX4_resolveOver_93 b hlk hr zs zk  hf hE (lv_sub hl [2, 1, 0] rfl)
  · have hf := oI_t c32 hf
    refine lv_iload_n b.1 b.2.1 dX4_resolveOver_73 rfl (lv_at hl 1 rfl) ?_
    refine lv_iconst (v := (-1)) b.1 b.2.1 dX4_resolveOver_74 (by decide) ?_
    refine lv_icmp_eq (tgt := 93) b.1 b.2.1 dX4_resolveOver_75 (by decide) (fun c33 => ?_) (fun c33 => ?_)
    · have hf := oI_t c33 hf
      exact wfX4_resolveOver_93 b hlk hr zs zk  hf hE (lv_sub hl [2, 1, 0] rfl)
    · have hf := oI_f c33 hf
      refine lv_aload_n b.1 b.2.1 dX4_resolveOver_78 rfl (lv_at hl 2 rfl) ?_
      refine lv_iconst (v := 5) b.1 b.2.1 dX4_resolveOver_79 (by decide) ?_
      refine lv_aload_n b.1 b.2.1 dX4_resolveOver_80 rfl (lv_at hl 2 rfl) ?_
      obtain ⟨t34, hf⟩ := oC_s hf
      have t34 := of_decide_eq_true t34
      refine gX4_12 (x := (some x0)) b hE rfl t34 dX4_resolveOver_81 ?_
      refine lv_iload_n b.1 b.2.1 dX4_resolveOver_84 rfl (lv_at hl 3 rfl) ?_
      refine lv_iconst (v := 1) b.1 b.2.1 dX4_resolveOver_85 (by decide) ?_
      refine lv_iadd b.1 b.2.1 dX4_resolveOver_86 ?_
      obtain ⟨a35, ea35, hf⟩ := oN_s hf
      obtain ⟨t36, hf⟩ := oC_s hf
      have t36 := of_decide_eq_true t36
      obtain ⟨r38, hc37, hf⟩ := oB_s hf
      refine k_stk [.int (x1 + 1)] ea35 ?_
      refine k_callV0 (C := RX10) b zs zk hE (CX10_startAt l D aC ad zk hc37) mc_X10_startAt (in3 163 rfl rfl) mi_X10_startAt ms_X10_startAt ini_RX10 ok_X10_startAt (x_recv b hE (ci := 10) rfl (by decide) t36) ⟨Nat.le_of_ble_eq_true rfl, Nat.le_of_ble_eq_true rfl⟩ rfl hl.1 rfl (k_room _ (by exact Nat.le_of_ble_eq_true rfl)) ⟨Nat.le_refl _, Nat.le_refl _⟩ dX4_resolveOver_87 (fun H locs hE => ?_)
      obtain ⟨h40, hc39, hf⟩ := oB_s hf
      refine k_callV0 (C := RX4) b zs zk hE (CX4_note l D aC ad zk hc39) mc_X4_note (in2 199 rfl rfl) mi_X4_note ms_X4_note ini_RX4 ok_X4_note (x_recv b hE (ci := 4) rfl (by decide) t34) ⟨Nat.le_of_ble_eq_true rfl, Nat.le_of_ble_eq_true rfl⟩ rfl hl.1 rfl (k_room _ (by exact Nat.le_of_ble_eq_true rfl)) ⟨Nat.le_refl _, Nat.le_refl _⟩ dX4_resolveOver_90 (fun H locs hE => ?_)
      exact wfX4_resolveOver_93 b hlk hr zs zk  hf hE (lv_sub hl [2, 1, 0] rfl)
def fX4_resolveOver (h : PH) (x0 : Nat) (x1 : Int32) : Option (PH) := fX4_resolveOver_0 h x0 x1
set_option maxHeartbeats 4000000 in
theorem CX4_resolveOver (l : Launch) (D : va_G) (aC : Nat → ClassId) (ad : Nat → Nat) {Z : State → Prop} (zk : ZOK Z (Rg ad)) {h : PH} {x0 : Nat} {x1 : Int32} {hz : PH} (hf : fX4_resolveOver h x0 x1 = some hz) : CM l D aC Z yX4_resolveOver cX4_resolveOver 4 (none) 3 65 0 0 (EX D aC ad h) [.ref (ad x0), .int x1] (EX D aC ad hz) none (Rg ad) := by
  refine CM.of rfl ?_
  intro p e s m below meth c b hr hlk hin2 zs hE
  refine k_ent (Nat.le_of_ble_eq_true rfl) (fun ls hl => ?_)
  exact wfX4_resolveOver_0 b hlk hr zs zk hf hE (lv_sub hl [0, 1] rfl)
theorem dX4_finish_0 : decode cX4_finish 0 = .ok (.iconst 0, 1) := by decide +kernel
theorem dX4_finish_1 : decode cX4_finish 1 = .ok (.istore_n 1, 1) := by decide +kernel
theorem dX4_finish_2 : decode cX4_finish 2 = .ok (.iload_n 1, 1) := by decide +kernel
theorem dX4_finish_3 : decode cX4_finish 3 = .ok (.aload_n 0, 1) := by decide +kernel
theorem dX4_finish_4 : decode cX4_finish 4 = .ok (.getfield 37, 3) := by decide +kernel
theorem dX4_finish_7 : decode cX4_finish 7 = .ok (.if_icmp .ge 26, 3) := by decide +kernel
theorem dX4_finish_10 : decode cX4_finish 10 = .ok (.aload_n 0, 1) := by decide +kernel
theorem dX4_finish_11 : decode cX4_finish 11 = .ok (.getfield 44, 3) := by decide +kernel
theorem dX4_finish_14 : decode cX4_finish 14 = .ok (.ifCond .ne 19, 3) := by decide +kernel
theorem dX4_finish_17 : decode cX4_finish 17 = .ok (.aload_n 0, 1) := by decide +kernel
theorem dX4_finish_18 : decode cX4_finish 18 = .ok (.aload_n 0, 1) := by decide +kernel
theorem dX4_finish_19 : decode cX4_finish 19 = .ok (.getfield 22, 3) := by decide +kernel
theorem dX4_finish_22 : decode cX4_finish 22 = .ok (.iload_n 1, 1) := by decide +kernel
theorem dX4_finish_23 : decode cX4_finish 23 = .ok (.iaload, 1) := by decide +kernel
theorem dX4_finish_24 : decode cX4_finish 24 = .ok (.invokevirtual 134, 3) := by decide +kernel
theorem dX4_finish_27 : decode cX4_finish 27 = .ok (.iinc 1 1, 3) := by decide +kernel
theorem dX4_finish_30 : decode cX4_finish 30 = .ok (.goto (-28), 3) := by decide +kernel
theorem dX4_finish_33 : decode cX4_finish 33 = .ok (.aload_n 0, 1) := by decide +kernel
theorem dX4_finish_34 : decode cX4_finish 34 = .ok (.getfield 44, 3) := by decide +kernel
theorem dX4_finish_37 : decode cX4_finish 37 = .ok (.ifCond .eq 10, 3) := by decide +kernel
theorem dX4_finish_40 : decode cX4_finish 40 = .ok (.aload_n 0, 1) := by decide +kernel
theorem dX4_finish_41 : decode cX4_finish 41 = .ok (.getfield 44, 3) := by decide +kernel
theorem dX4_finish_44 : decode cX4_finish 44 = .ok (.goto 7, 3) := by decide +kernel
theorem dX4_finish_47 : decode cX4_finish 47 = .ok (.aload_n 0, 1) := by decide +kernel
theorem dX4_finish_48 : decode cX4_finish 48 = .ok (.getfield 50, 3) := by decide +kernel
theorem dX4_finish_51 : decode cX4_finish 51 = .ok (.istore_n 1, 1) := by decide +kernel
theorem dX4_finish_52 : decode cX4_finish 52 = .ok (.iload_n 1, 1) := by decide +kernel
theorem dX4_finish_53 : decode cX4_finish 53 = .ok (.ifCond .ne 13, 3) := by decide +kernel
theorem dX4_finish_56 : decode cX4_finish 56 = .ok (.aload_n 0, 1) := by decide +kernel
theorem dX4_finish_57 : decode cX4_finish 57 = .ok (.getfield 25, 3) := by decide +kernel
theorem dX4_finish_60 : decode cX4_finish 60 = .ok (.invokevirtual 137, 3) := by decide +kernel
theorem dX4_finish_63 : decode cX4_finish 63 = .ok (.goto 10, 3) := by decide +kernel
theorem dX4_finish_66 : decode cX4_finish 66 = .ok (.aload_n 0, 1) := by decide +kernel
theorem dX4_finish_67 : decode cX4_finish 67 = .ok (.getfield 25, 3) := by decide +kernel
theorem dX4_finish_70 : decode cX4_finish 70 = .ok (.invokevirtual 140, 3) := by decide +kernel
theorem dX4_finish_73 : decode cX4_finish 73 = .ok (.iload_n 1, 1) := by decide +kernel
theorem dX4_finish_74 : decode cX4_finish 74 = .ok (.ireturn, 1) := by decide +kernel
def fX4_finish_51  (h : PH) (x0 : Nat) (s0 : Int32) : Option (PH × Int32) :=
  if s0 = 0 then (oC (decide (hT h x0 = 5)) (oN (hR h 512 x0) (fun a8 => oC (decide (hT h a8 = 2)) (oB (fX1_keep h a8) (fun h11 => some (h11, s0)))))) else (oC (decide (hT h x0 = 5)) (oN (hR h 512 x0) (fun a3 => oC (decide (hT h a3 = 2)) (oB (fX1_drop h a3) (fun h6 => some (h6, s0))))))
set_option maxHeartbeats 4000000 in
theorem wfX4_finish_51 {args : Array Value} (b : Bd p s m c cX4_finish 2 RX4 D aC) (hlk : meth.locks = false) (hr : meth.sig.returnType = some .int) {Z : State → Prop} (zs : Z s) (zk : ZOK Z (Rg ad)) {hz : PH} {rz : Int32} {h : PH} {x0 : Nat} {s0 : Int32}  {H : Heap} {locs : List Loc} {ls : Array Slot} (hf : fX4_finish_51 h x0 s0 = some (hz, rz)) (hE : CE (EX D aC ad h) (Rg ad) s H locs) (hl : lv_has ls 2 [(0, .ref (ad x0))]) : W p l e (RM 4 88 0 0) s m args below meth c H locs 0 0 (MQ below (PQ (EX D aC ad hz) (Rg ad) (some (.int rz))) args s 0 0 (Rg ad)) (F0 m 51 ls [.int s0]) := by
  unfold fX4_finish_51 at hf
  refine lv_istore_n (lv' := [(1, .int s0), (0, .ref (ad x0))]) b.1 b.2.1 dX4_finish_51 rfl hl (by decide) rfl (fun ls hl => ?_)
  refine lv_iload_n b.1 b.2.1 dX4_finish_52 rfl (lv_at hl 0 rfl) ?_
  refine lv_if_ne (tgt := 66) b.1 b.2.1 dX4_finish_53 (by decide) (fun c1 => ?_) (fun c1 => ?_)
  · have hf := oI_f c1 hf
    refine lv_aload_n b.1 b.2.1 dX4_finish_66 rfl (lv_at hl 1 rfl) ?_
    obtain ⟨t2, hf⟩ := oC_s hf
    have t2 := of_decide_eq_true t2
    refine gX4_25 (x := (some x0)) b hE rfl t2 dX4_finish_67 ?_
    obtain ⟨a3, ea3, hf⟩ := oN_s hf
    obtain ⟨t4, hf⟩ := oC_s hf
    have t4 := of_decide_eq_true t4
    obtain ⟨h6, hc5, hf⟩ := oB_s hf
    refine k_stk [] ea3 ?_
    refine k_callV0 (C := RX1) b zs zk hE (CX1_drop l D aC ad zk hc5) mc_X1_drop (in3 187 rfl rfl) mi_X1_drop ms_X1_drop ini_RX1 ok_X1_drop (x_recv b hE (ci := 1) rfl (by decide) t4) ⟨Nat.le_of_ble_eq_true rfl, Nat.le_of_ble_eq_true rfl⟩ rfl hl.1 rfl (k_room _ (by exact Nat.le_of_ble_eq_true rfl)) ⟨Nat.le_refl _, Nat.le_refl _⟩ dX4_finish_70 (fun H locs hE => ?_)
    refine lv_iload_n b.1 b.2.1 dX4_finish_73 rfl (lv_at hl 0 rfl) ?_
    cases hf
    exact k_iret b hlk hr hE (Nat.le_refl _) (Nat.le_refl _) dX4_finish_74
  · have hf := oI_t c1 hf
    refine lv_aload_n b.1 b.2.1 dX4_finish_56 rfl (lv_at hl 1 rfl) ?_
    obtain ⟨t7, hf⟩ := oC_s hf
    have t7 := of_decide_eq_true t7
    refine gX4_25 (x := (some x0)) b hE rfl t7 dX4_finish_57 ?_
    obtain ⟨a8, ea8, hf⟩ := oN_s hf
    obtain ⟨t9, hf⟩ := oC_s hf
    have t9 := of_decide_eq_true t9
    obtain ⟨h11, hc10, hf⟩ := oB_s hf
    refine k_stk [] ea8 ?_
    refine k_callV0 (C := RX1) b zs zk hE (CX1_keep l D aC ad zk hc10) mc_X1_keep (in3 183 rfl rfl) mi_X1_keep ms_X1_keep ini_RX1 ok_X1_keep (x_recv b hE (ci := 1) rfl (by decide) t9) ⟨Nat.le_of_ble_eq_true rfl, Nat.le_of_ble_eq_true rfl⟩ rfl hl.1 rfl (k_room _ (by exact Nat.le_of_ble_eq_true rfl)) ⟨Nat.le_refl _, Nat.le_refl _⟩ dX4_finish_60 (fun H locs hE => ?_)
    refine lv_goto (tgt := 73) b.1 b.2.1 dX4_finish_63 (by decide) ?_
    refine lv_iload_n b.1 b.2.1 dX4_finish_73 rfl (lv_at hl 0 rfl) ?_
    cases hf
    exact k_iret b hlk hr hE (Nat.le_refl _) (Nat.le_refl _) dX4_finish_74
def fX4_finish_33  (h : PH) (x0 : Nat) : Option (PH × Int32) :=
  oC (decide (hT h x0 = 5)) (if (hI h 524 x0) = 0 then (fX4_finish_51  h x0 (hI h 526 x0)) else (fX4_finish_51  h x0 (hI h 524 x0)))
set_option maxHeartbeats 4000000 in
theorem wfX4_finish_33 {args : Array Value} (b : Bd p s m c cX4_finish 2 RX4 D aC) (hlk : meth.locks = false) (hr : meth.sig.returnType = some .int) {Z : State → Prop} (zs : Z s) (zk : ZOK Z (Rg ad)) {hz : PH} {rz : Int32} {h : PH} {x0 : Nat}  {H : Heap} {locs : List Loc} {ls : Array Slot} (hf : fX4_finish_33 h x0 = some (hz, rz)) (hE : CE (EX D aC ad h) (Rg ad) s H locs) (hl : lv_has ls 2 [(0, .ref (ad x0))]) : W p l e (RM 4 88 0 0) s m args below meth c H locs 0 0 (MQ below (PQ (EX D aC ad hz) (Rg ad) (some (.int rz))) args s 0 0 (Rg ad)) (F0 m 33 ls []) := by
  unfold fX4_finish_33 at hf
  refine lv_aload_n b.1 b.2.1 dX4_finish_33 rfl (lv_at hl 0 rfl) ?_
  obtain ⟨t12, hf⟩ := oC_s hf
  have t12 := of_decide_eq_true t12
  refine gX4_44 (x := (some x0)) b hE rfl t12 dX4_finish_34 ?_
  refine lv_if_eq (tgt := 47) b.1 b.2.1 dX4_finish_37 (by decide) (fun c13 => ?_) (fun c13 => ?_)
  · have hf := oI_t c13 hf
    refine lv_aload_n b.1 b.2.1 dX4_finish_47 rfl (lv_at hl 0 rfl) ?_
    refine gX4_50 (x := (some x0)) b hE rfl t12 dX4_finish_48 ?_
    exact wfX4_finish_51 b hlk hr zs zk  hf hE (lv_sub hl [0] rfl)
  · have hf := oI_f c13 hf
    refine lv_aload_n b.1 b.2.1 dX4_finish_40 rfl (lv_at hl 0 rfl) ?_
    refine gX4_44 (x := (some x0)) b hE rfl t12 dX4_finish_41 ?_
    refine lv_goto (tgt := 51) b.1 b.2.1 dX4_finish_44 (by decide) ?_
    exact wfX4_finish_51 b hlk hr zs zk  hf hE (lv_sub hl [0] rfl)
def fX4_finish_2F (k2 : PH → Nat → Int32 → Option (PH × Int32)) (h : PH) (x0 : Nat) (x1 : Int32) : Option (PH × Int32) :=
  oC (decide (hT h x0 = 5)) (if (hI h 517 x0) ≤ x1 then (fX4_finish_33  h x0) else (if (hI h 524 x0) = 0 then (oN (hR h 515 x0) (fun a17 => oC (decide (hT h a17 = 101)) (oC (ix x1 (hN h a17)) (oB (fX4_resolveOver h x0 (hA h a17 (Int32.toNatClampNeg x1))) (fun h21 => oL (x1 + 1) (fun y22 => k2 h21 x0 y22)))))) else (fX4_finish_33  h x0)))
set_option maxHeartbeats 4000000 in
theorem wfX4_finish_2F {args : Array Value} (b : Bd p s m c cX4_finish 2 RX4 D aC) (hlk : meth.locks = false) (hr : meth.sig.returnType = some .int) {Z : State → Prop} (zs : Z s) (zk : ZOK Z (Rg ad)) {hz : PH} {rz : Int32} {k2 : PH → Nat → Int32 → Option (PH × Int32)} (H2 : ∀ (h : PH) (x0 : Nat) (x1 : Int32), ∀ (H : Heap) (locs : List Loc) (ls : Array Slot), k2 h x0 x1 = some (hz, rz) → CE (EX D aC ad h) (Rg ad) s H locs → lv_has ls 2 [(0, .ref (ad x0)), (1, .int x1)] → W p l e (RM 4 88 0 0) s m args below meth c H locs 0 0 (MQ below (PQ (EX D aC ad hz) (Rg ad) (some (.int rz))) args s 0 0 (Rg ad)) (F0 m 2 ls [])) {h : PH} {x0 : Nat} {x1 : Int32}  {H : Heap} {locs : List Loc} {ls : Array Slot} (hf : fX4_finish_2F k2 h x0 x1 = some (hz, rz)) (hE : CE (EX D aC ad h) (Rg ad) s H locs) (hl : lv_has ls 2 [(0, .ref (ad x0)), (1, .int x1)]) : W p l e (RM 4 88 0 0) s m args below meth c H locs 0 0 (MQ below (PQ (EX D aC ad hz) (Rg ad) (some (.int rz))) args s 0 0 (Rg ad)) (F0 m 2 ls []) := by
  unfold fX4_finish_2F at hf
  refine lv_iload_n b.1 b.2.1 dX4_finish_2 rfl (lv_at hl 1 rfl) ?_
  refine lv_aload_n b.1 b.2.1 dX4_finish_3 rfl (lv_at hl 0 rfl) ?_
  obtain ⟨t14, hf⟩ := oC_s hf
  have t14 := of_decide_eq_true t14
  refine gX4_37 (x := (some x0)) b hE rfl t14 dX4_finish_4 ?_
  refine lv_icmp_ge (tgt := 33) b.1 b.2.1 dX4_finish_7 (by decide) (fun c15 => ?_) (fun c15 => ?_)
  · have hf := oI_t c15 hf
    exact wfX4_finish_33 b hlk hr zs zk  hf hE (lv_sub hl [0] rfl)
  · have hf := oI_f c15 hf
    refine lv_aload_n b.1 b.2.1 dX4_finish_10 rfl (lv_at hl 0 rfl) ?_
    refine gX4_44 (x := (some x0)) b hE rfl t14 dX4_finish_11 ?_
    refine lv_if_ne (tgt := 33) b.1 b.2.1 dX4_finish_14 (by decide) (fun c16 => ?_) (fun c16 => ?_)
    · have hf := oI_f c16 hf
      exact wfX4_finish_33 b hlk hr zs zk  hf hE (lv_sub hl [0] rfl)
    · have hf := oI_t c16 hf
      refine lv_aload_n b.1 b.2.1 dX4_finish_17 rfl (lv_at hl 0 rfl) ?_
      refine lv_aload_n b.1 b.2.1 dX4_finish_18 rfl (lv_at hl 0 rfl) ?_
      refine gX4_22 (x := (some x0)) b hE rfl t14 dX4_finish_19 ?_
      refine lv_iload_n b.1 b.2.1 dX4_finish_22 rfl (lv_at hl 1 rfl) ?_
      obtain ⟨a17, ea17, hf⟩ := oN_s hf
      obtain ⟨t18, hf⟩ := oC_s hf
      have t18 := of_decide_eq_true t18
      obtain ⟨g19, hf⟩ := oC_s hf
      refine q_iald (x := (hR h 515 x0)) b hE ea17 t18 g19 dX4_finish_23 ?_
      obtain ⟨h21, hc20, hf⟩ := oB_s hf
      refine k_callV0 (C := RX4) b zs zk hE (CX4_resolveOver l D aC ad zk hc20) mc_X4_resolveOver (in3 155 rfl rfl) mi_X4_resolveOver ms_X4_resolveOver ini_RX4 ok_X4_resolveOver (x_recv b hE (ci := 4) rfl (by decide) t14) ⟨Nat.le_of_ble_eq_true rfl, Nat.le_of_ble_eq_true rfl⟩ rfl hl.1 rfl (k_room _ (by exact Nat.le_of_ble_eq_true rfl)) ⟨Nat.le_refl _, Nat.le_refl _⟩ dX4_finish_24 (fun H locs hE => ?_)
      obtain ⟨y22, ey22, hf⟩ := oL_s hf
      refine lv_iinc (v := y22) (lv' := [(1, .int y22), (0, .ref (ad x0))]) b.1 b.2.1 dX4_finish_27 hl (k := 1) rfl (by rw [ey22]; rfl) (by decide) rfl (fun ls hl => ?_)
      refine lv_goto (tgt := 2) b.1 b.2.1 dX4_finish_30 (by decide) ?_
      exact H2 h21 x0 y22 _ _ _ hf hE (lv_sub hl [1, 0] rfl)
def fX4_finish_2  : Nat → PH → Nat → Int32 → Option (PH × Int32)
  | 0 => fun _ _ _ => none
  | n + 1 => fX4_finish_2F  (fX4_finish_2  n)
set_option maxHeartbeats 4000000 in
theorem wfX4_finish_2 {args : Array Value} (b : Bd p s m c cX4_finish 2 RX4 D aC) (hlk : meth.locks = false) (hr : meth.sig.returnType = some .int) {Z : State → Prop} (zs : Z s) (zk : ZOK Z (Rg ad)) {hz : PH} {rz : Int32} : ∀ n : Nat, ∀ (h : PH) (x0 : Nat) (x1 : Int32), ∀ (H : Heap) (locs : List Loc) (ls : Array Slot), fX4_finish_2  n h x0 x1 = some (hz, rz) → CE (EX D aC ad h) (Rg ad) s H locs → lv_has ls 2 [(0, .ref (ad x0)), (1, .int x1)] → W p l e (RM 4 88 0 0) s m args below meth c H locs 0 0 (MQ below (PQ (EX D aC ad hz) (Rg ad) (some (.int rz))) args s 0 0 (Rg ad)) (F0 m 2 ls []) := by
  intro n
  induction n with
  | zero =>
    intro h x0 x1 H locs ls hf
    have hf : (none : Option (PH × Int32)) = some _ := hf
    cases hf
  | succ n ih =>
    intro h x0 x1 H locs ls hf hE hl
    exact wfX4_finish_2F b hlk hr zs zk  ih hf hE hl
def fX4_finish_0  (h : PH) (x0 : Nat) : Option (PH × Int32) :=
  fX4_finish_2  FU h x0 0
set_option maxHeartbeats 4000000 in
theorem wfX4_finish_0 {args : Array Value} (b : Bd p s m c cX4_finish 2 RX4 D aC) (hlk : meth.locks = false) (hr : meth.sig.returnType = some .int) {Z : State → Prop} (zs : Z s) (zk : ZOK Z (Rg ad)) {hz : PH} {rz : Int32} {h : PH} {x0 : Nat}  {H : Heap} {locs : List Loc} {ls : Array Slot} (hf : fX4_finish_0 h x0 = some (hz, rz)) (hE : CE (EX D aC ad h) (Rg ad) s H locs) (hl : lv_has ls 2 [(0, .ref (ad x0))]) : W p l e (RM 4 88 0 0) s m args below meth c H locs 0 0 (MQ below (PQ (EX D aC ad hz) (Rg ad) (some (.int rz))) args s 0 0 (Rg ad)) (F0 m 0 ls []) := by
  unfold fX4_finish_0 at hf
  refine lv_iconst (v := 0) b.1 b.2.1 dX4_finish_0 (by decide) ?_
  refine lv_istore_n (lv' := [(1, .int 0), (0, .ref (ad x0))]) b.1 b.2.1 dX4_finish_1 rfl hl (by decide) rfl (fun ls hl => ?_)
  exact wfX4_finish_2 b hlk hr zs zk  FU h x0 0 _ _ _ hf hE (lv_sub hl [1, 0] rfl)
def fX4_finish (h : PH) (x0 : Nat) : Option (PH × Int32) := fX4_finish_0 h x0
set_option maxHeartbeats 4000000 in
theorem CX4_finish (l : Launch) (D : va_G) (aC : Nat → ClassId) (ad : Nat → Nat) {Z : State → Prop} (zk : ZOK Z (Rg ad)) {h : PH} {x0 : Nat} {hz : PH} {rz : Int32} (hf : fX4_finish h x0 = some (hz, rz)) : CM l D aC Z yX4_finish cX4_finish 2 (some .int) 4 88 0 0 (EX D aC ad h) [.ref (ad x0)] (EX D aC ad hz) (some (.int rz)) (Rg ad) := by
  refine CM.of rfl ?_
  intro p e s m below meth c b hr hlk hin2 zs hE
  refine k_ent (Nat.le_of_ble_eq_true rfl) (fun ls hl => ?_)
  exact wfX4_finish_0 b hlk hr zs zk hf hE (lv_sub hl [0] rfl)
theorem dX4_placeOfFault_0 : decode cX4_placeOfFault 0 = .ok (.aload_n 0, 1) := by decide +kernel
theorem dX4_placeOfFault_1 : decode cX4_placeOfFault 1 = .ok (.getfield 44, 3) := by decide +kernel
theorem dX4_placeOfFault_4 : decode cX4_placeOfFault 4 = .ok (.ifCond .eq 10, 3) := by decide +kernel
theorem dX4_placeOfFault_7 : decode cX4_placeOfFault 7 = .ok (.aload_n 0, 1) := by decide +kernel
theorem dX4_placeOfFault_8 : decode cX4_placeOfFault 8 = .ok (.getfield 47, 3) := by decide +kernel
theorem dX4_placeOfFault_11 : decode cX4_placeOfFault 11 = .ok (.goto 7, 3) := by decide +kernel
theorem dX4_placeOfFault_14 : decode cX4_placeOfFault 14 = .ok (.aload_n 0, 1) := by decide +kernel
theorem dX4_placeOfFault_15 : decode cX4_placeOfFault 15 = .ok (.getfield 53, 3) := by decide +kernel
theorem dX4_placeOfFault_18 : decode cX4_placeOfFault 18 = .ok (.ireturn, 1) := by decide +kernel
def fX4_placeOfFault_0  (h : PH) (x0 : Nat) : Option (Int32) :=
  oC (decide (hT h x0 = 5)) (if (hI h 524 x0) = 0 then (some ((hI h 527 x0))) else (some ((hI h 525 x0))))
set_option maxHeartbeats 4000000 in
theorem wfX4_placeOfFault_0 {args : Array Value} (b : Bd p s m c cX4_placeOfFault 1 RX4 D aC) (hlk : meth.locks = false) (hr : meth.sig.returnType = some .int) {Z : State → Prop} (zs : Z s) (zk : ZOK Z (Rg ad)) {rz : Int32} {h : PH} {x0 : Nat}  {H : Heap} {locs : List Loc} {ls : Array Slot} (hf : fX4_placeOfFault_0 h x0 = some rz) (hE : CE (EX D aC ad h) (Rg ad) s H locs) (hl : lv_has ls 1 [(0, .ref (ad x0))]) : W p l e (RM 0 0 0 0) s m args below meth c H locs 0 0 (MQ below (PQ (EX D aC ad h) (Rg ad) (some (.int rz))) args s 0 0 (Rg ad)) (F0 m 0 ls []) := by
  unfold fX4_placeOfFault_0 at hf
  refine lv_aload_n b.1 b.2.1 dX4_placeOfFault_0 rfl (lv_at hl 0 rfl) ?_
  obtain ⟨t1, hf⟩ := oC_s hf
  have t1 := of_decide_eq_true t1
  refine gX4_44 (x := (some x0)) b hE rfl t1 dX4_placeOfFault_1 ?_
  refine lv_if_eq (tgt := 14) b.1 b.2.1 dX4_placeOfFault_4 (by decide) (fun c2 => ?_) (fun c2 => ?_)
  · have hf := oI_t c2 hf
    refine lv_aload_n b.1 b.2.1 dX4_placeOfFault_14 rfl (lv_at hl 0 rfl) ?_
    refine gX4_53 (x := (some x0)) b hE rfl t1 dX4_placeOfFault_15 ?_
    cases hf
    exact k_iret b hlk hr hE (Nat.le_refl _) (Nat.le_refl _) dX4_placeOfFault_18
  · have hf := oI_f c2 hf
    refine lv_aload_n b.1 b.2.1 dX4_placeOfFault_7 rfl (lv_at hl 0 rfl) ?_
    refine gX4_47 (x := (some x0)) b hE rfl t1 dX4_placeOfFault_8 ?_
    refine lv_goto (tgt := 18) b.1 b.2.1 dX4_placeOfFault_11 (by decide) ?_
    cases hf
    exact k_iret b hlk hr hE (Nat.le_refl _) (Nat.le_refl _) dX4_placeOfFault_18
def fX4_placeOfFault (h : PH) (x0 : Nat) : Option (Int32) := fX4_placeOfFault_0 h x0
set_option maxHeartbeats 4000000 in
theorem CX4_placeOfFault (l : Launch) (D : va_G) (aC : Nat → ClassId) (ad : Nat → Nat) {Z : State → Prop} (zk : ZOK Z (Rg ad)) {h : PH} {x0 : Nat} {rz : Int32} (hf : fX4_placeOfFault h x0 = some rz) : CM l D aC Z yX4_placeOfFault cX4_placeOfFault 1 (some .int) 0 0 0 0 (EX D aC ad h) [.ref (ad x0)] (EX D aC ad h) (some (.int rz)) (Rg ad) := by
  refine CM.of rfl ?_
  intro p e s m below meth c b hr hlk hin2 zs hE
  refine k_ent (Nat.le_of_ble_eq_true rfl) (fun ls hl => ?_)
  exact wfX4_placeOfFault_0 b hlk hr zs zk hf hE (lv_sub hl [0] rfl)
theorem dX6_init_0 : decode cX6_init 0 = .ok (.aload_n 0, 1) := by decide +kernel
theorem dX6_init_1 : decode cX6_init 1 = .ok (.invokespecial 3, 3) := by decide +kernel
theorem dX6_init_4 : decode cX6_init 4 = .ok (.aload_n 0, 1) := by decide +kernel
theorem dX6_init_5 : decode cX6_init 5 = .ok (.bipush 8, 2) := by decide +kernel
theorem dX6_init_7 : decode cX6_init 7 = .ok (.newarray .int, 2) := by decide +kernel
theorem dX6_init_9 : decode cX6_init 9 = .ok (.putfield 9, 3) := by decide +kernel
theorem dX6_init_12 : decode cX6_init 12 = .ok (.aload_n 0, 1) := by decide +kernel
theorem dX6_init_13 : decode cX6_init 13 = .ok (.bipush 24, 2) := by decide +kernel
theorem dX6_init_15 : decode cX6_init 15 = .ok (.anewarray 15, 3) := by decide +kernel
theorem dX6_init_18 : decode cX6_init 18 = .ok (.putfield 17, 3) := by decide +kernel
theorem dX6_init_21 : decode cX6_init 21 = .ok (.aload_n 0, 1) := by decide +kernel
theorem dX6_init_22 : decode cX6_init 22 = .ok (.new 15, 3) := by decide +kernel
theorem dX6_init_25 : decode cX6_init 25 = .ok (.dup, 1) := by decide +kernel
theorem dX6_init_26 : decode cX6_init 26 = .ok (.invokespecial 21, 3) := by decide +kernel
theorem dX6_init_29 : decode cX6_init 29 = .ok (.putfield 22, 3) := by decide +kernel
theorem dX6_init_32 : decode cX6_init 32 = .ok (.aload_n 0, 1) := by decide +kernel
theorem dX6_init_33 : decode cX6_init 33 = .ok (.new 15, 3) := by decide +kernel
theorem dX6_init_36 : decode cX6_init 36 = .ok (.dup, 1) := by decide +kernel
theorem dX6_init_37 : decode cX6_init 37 = .ok (.invokespecial 21, 3) := by decide +kernel
theorem dX6_init_40 : decode cX6_init 40 = .ok (.putfield 26, 3) := by decide +kernel
theorem dX6_init_43 : decode cX6_init 43 = .ok (.aload_n 0, 1) := by decide +kernel
theorem dX6_init_44 : decode cX6_init 44 = .ok (.new 15, 3) := by decide +kernel
theorem dX6_init_47 : decode cX6_init 47 = .ok (.dup, 1) := by decide +kernel
theorem dX6_init_48 : decode cX6_init 48 = .ok (.invokespecial 21, 3) := by decide +kernel
theorem dX6_init_51 : decode cX6_init 51 = .ok (.putfield 29, 3) := by decide +kernel
theorem dX6_init_54 : decode cX6_init 54 = .ok (.aload_n 0, 1) := by decide +kernel
theorem dX6_init_55 : decode cX6_init 55 = .ok (.new 15, 3) := by decide +kernel
theorem dX6_init_58 : decode cX6_init 58 = .ok (.dup, 1) := by decide +kernel
theorem dX6_init_59 : decode cX6_init 59 = .ok (.invokespecial 21, 3) := by decide +kernel
theorem dX6_init_62 : decode cX6_init 62 = .ok (.putfield 32, 3) := by decide +kernel
theorem dX6_init_65 : decode cX6_init 65 = .ok (.aload_n 0, 1) := by decide +kernel
theorem dX6_init_66 : decode cX6_init 66 = .ok (.new 15, 3) := by decide +kernel
theorem dX6_init_69 : decode cX6_init 69 = .ok (.dup, 1) := by decide +kernel
theorem dX6_init_70 : decode cX6_init 70 = .ok (.invokespecial 21, 3) := by decide +kernel
theorem dX6_init_73 : decode cX6_init 73 = .ok (.putfield 35, 3) := by decide +kernel
theorem dX6_init_76 : decode cX6_init 76 = .ok (.aload_n 0, 1) := by decide +kernel
theorem dX6_init_77 : decode cX6_init 77 = .ok (.aload_n 1, 1) := by decide +kernel
theorem dX6_init_78 : decode cX6_init 78 = .ok (.putfield 38, 3) := by decide +kernel
theorem dX6_init_81 : decode cX6_init 81 = .ok (.iconst 0, 1) := by decide +kernel
theorem dX6_init_82 : decode cX6_init 82 = .ok (.istore_n 2, 1) := by decide +kernel
theorem dX6_init_83 : decode cX6_init 83 = .ok (.iload_n 2, 1) := by decide +kernel
theorem dX6_init_84 : decode cX6_init 84 = .ok (.iconst 5, 1) := by decide +kernel
theorem dX6_init_85 : decode cX6_init 85 = .ok (.if_icmp .ge 16, 3) := by decide +kernel
theorem dX6_init_88 : decode cX6_init 88 = .ok (.aload_n 0, 1) := by decide +kernel
theorem dX6_init_89 : decode cX6_init 89 = .ok (.getfield 9, 3) := by decide +kernel
theorem dX6_init_92 : decode cX6_init 92 = .ok (.iload_n 2, 1) := by decide +kernel
theorem dX6_init_93 : decode cX6_init 93 = .ok (.iload_n 2, 1) := by decide +kernel
theorem dX6_init_94 : decode cX6_init 94 = .ok (.iastore, 1) := by decide +kernel
theorem dX6_init_95 : decode cX6_init 95 = .ok (.iinc 2 1, 3) := by decide +kernel
theorem dX6_init_98 : decode cX6_init 98 = .ok (.goto (-15), 3) := by decide +kernel
theorem dX6_init_101 : decode cX6_init 101 = .ok (.iconst 0, 1) := by decide +kernel
theorem dX6_init_102 : decode cX6_init 102 = .ok (.istore_n 2, 1) := by decide +kernel
theorem dX6_init_103 : decode cX6_init 103 = .ok (.iload_n 2, 1) := by decide +kernel
theorem dX6_init_104 : decode cX6_init 104 = .ok (.bipush 24, 2) := by decide +kernel
theorem dX6_init_106 : decode cX6_init 106 = .ok (.if_icmp .ge 22, 3) := by decide +kernel
theorem dX6_init_109 : decode cX6_init 109 = .ok (.aload_n 0, 1) := by decide +kernel
theorem dX6_init_110 : decode cX6_init 110 = .ok (.getfield 17, 3) := by decide +kernel
theorem dX6_init_113 : decode cX6_init 113 = .ok (.iload_n 2, 1) := by decide +kernel
theorem dX6_init_114 : decode cX6_init 114 = .ok (.new 15, 3) := by decide +kernel
theorem dX6_init_117 : decode cX6_init 117 = .ok (.dup, 1) := by decide +kernel
theorem dX6_init_118 : decode cX6_init 118 = .ok (.invokespecial 21, 3) := by decide +kernel
theorem dX6_init_121 : decode cX6_init 121 = .ok (.aastore, 1) := by decide +kernel
theorem dX6_init_122 : decode cX6_init 122 = .ok (.iinc 2 1, 3) := by decide +kernel
theorem dX6_init_125 : decode cX6_init 125 = .ok (.goto (-22), 3) := by decide +kernel
theorem dX6_init_128 : decode cX6_init 128 = .ok (.return_, 1) := by decide +kernel
def fX6_init_103F (k103 : PH → Nat → Int32 → Option (PH × Nat × Nat)) (h : PH) (x0 : Nat) (x2 : Int32) : Option (PH × Nat × Nat) :=
  if 24 ≤ x2 then (some (h, 0, 0)) else (oC (decide (hT h x0 = 7)) (oL (nO h 4) (fun h5 => oK3 1 3 (oB (fX3_init h5 (hZ h)) (fun h9 => oN (hR h 770 x0) (fun a10 => oC (decide (hT h9 a10 = 107)) (oC (decide (hT h9 (hZ h) = 4)) (oC (ix x2 (hN h9 a10)) (oL (sC h9 a10 (Int32.toNatClampNeg x2) (some (hZ h))) (fun h14 => oL (x2 + 1) (fun y15 => k103 h14 x0 y15)))))))))))
set_option maxHeartbeats 4000000 in
theorem wfX6_init_103F {mc ms cells slots : Nat} {args : Array Value} (b : Bd p s m c cX6_init 3 RX6 D aC) (hlk : meth.locks = false) (hr : meth.sig.returnType = none) {Z : State → Prop} (zs : Z s) (zk : ZOK Z (Rg ad)) (hin2 : meth.name = "<init>") {hz : PH} {k103 : PH → Nat → Int32 → Option (PH × Nat × Nat)} (H103 : ∀ (h : PH) (x0 : Nat) (x2 : Int32), ∀ (cells slots kz mz : Nat) (H : Heap) (locs : List Loc) (ls : Array Slot), k103 h x0 x2 = some (hz, kz, mz) → cells + kz ≤ mc → slots + mz ≤ ms → CE (EX D aC ad h) (Rg ad) s H locs → lv_has ls 3 [(0, .ref (ad x0)), (2, .int x2)] → W p l e (RM 2 44 mc ms) s m args below meth c H locs cells slots (MQ below (PQ (EX D aC ad hz) (Rg ad) none) args s mc ms (Rg ad)) (F0 m 103 ls [])) {h : PH} {x0 : Nat} {x2 : Int32} {kz : Nat} {mz : Nat}  {H : Heap} {locs : List Loc} {ls : Array Slot} (hf : fX6_init_103F k103 h x0 x2 = some (hz, kz, mz)) (hk : cells + kz ≤ mc) (hs : slots + mz ≤ ms) (hE : CE (EX D aC ad h) (Rg ad) s H locs) (hl : lv_has ls 3 [(0, .ref (ad x0)), (2, .int x2)]) : W p l e (RM 2 44 mc ms) s m args below meth c H locs cells slots (MQ below (PQ (EX D aC ad hz) (Rg ad) none) args s mc ms (Rg ad)) (F0 m 103 ls []) := by
  unfold fX6_init_103F at hf
  refine lv_iload_n b.1 b.2.1 dX6_init_103 rfl (lv_at hl 1 rfl) ?_
  refine lv_bipush (v := 24) b.1 b.2.1 dX6_init_104 (by decide) ?_
  refine lv_icmp_ge (tgt := 128) b.1 b.2.1 dX6_init_106 (by decide) (fun c1 => ?_) (fun c1 => ?_)
  · have hf := oI_t c1 hf
    cases hf
    exact k_vret b hlk hr hE (le_c hk) (le_c hs) dX6_init_128
  · have hf := oI_f c1 hf
    refine lv_aload_n b.1 b.2.1 dX6_init_109 rfl (lv_at hl 0 rfl) ?_
    obtain ⟨t2, hf⟩ := oC_s hf
    have t2 := of_decide_eq_true t2
    refine gX6_17 (x := (some x0)) b hE rfl t2 dX6_init_110 ?_
    refine lv_iload_n b.1 b.2.1 dX6_init_113 rfl (lv_at hl 1 rfl) ?_
    obtain ⟨h5, eh5, hf⟩ := oL_s hf
    obtain ⟨i3, j4, ei3, ej4, hf⟩ := oK3_s hf
    have t6 := tg_nO (t := 6) hE eh5 t2
    have t7 := tg_nO0 eh5
    refine nX6_15 b hE (le_room hk ei3) (le_room hs ej4) eh5 dX6_init_114 (fun H hE => ?_)
    have hk := le_step hk ei3
    have hs := le_step hs ej4
    refine lv_dup b.1 b.2.1 dX6_init_117 rfl ?_
    obtain ⟨h9, hc8, hf⟩ := oB_s hf
    refine k_callIN0 b zs zk hE (CX3_init l D aC ad zk hc8) mc_X3_init (in4 26 rfl rfl) mi_X3_init ini_RX3 rfl ok_X3_init ⟨Nat.le_of_ble_eq_true rfl, Nat.le_of_ble_eq_true rfl⟩ rfl hl.1 rfl (k_room _ (by exact Nat.le_of_ble_eq_true rfl)) ⟨le_0 hk, le_0 hs⟩ dX6_init_118 (fun H locs hE => ?_)
    obtain ⟨a10, ea10, hf⟩ := oN_s hf
    obtain ⟨t11, hf⟩ := oC_s hf
    have t11 := of_decide_eq_true t11
    obtain ⟨t12, hf⟩ := oC_s hf
    have t12 := of_decide_eq_true t12
    obtain ⟨g13, hf⟩ := oC_s hf
    obtain ⟨h14, eh14, hf⟩ := oL_s hf
    refine q_aast7 (x := (hR h 770 x0)) (y := (some (hZ h))) b hE ea10 rfl t12 t11 g13 eh14 dX6_init_121 (fun H locs hE => ?_)
    obtain ⟨y15, ey15, hf⟩ := oL_s hf
    refine lv_iinc (v := y15) (lv' := [(2, .int y15), (0, .ref (ad x0))]) b.1 b.2.1 dX6_init_122 hl (k := 1) rfl (by rw [ey15]; rfl) (by decide) rfl (fun ls hl => ?_)
    refine lv_goto (tgt := 103) b.1 b.2.1 dX6_init_125 (by decide) ?_
    exact H103 h14 x0 y15 _ _ _ _ _ _ _ hf hk hs hE (lv_sub hl [1, 0] rfl)
def fX6_init_103  : Nat → PH → Nat → Int32 → Option (PH × Nat × Nat)
  | 0 => fun _ _ _ => none
  | n + 1 => fX6_init_103F  (fX6_init_103  n)
set_option maxHeartbeats 4000000 in
theorem wfX6_init_103 {mc ms : Nat} {args : Array Value} (b : Bd p s m c cX6_init 3 RX6 D aC) (hlk : meth.locks = false) (hr : meth.sig.returnType = none) {Z : State → Prop} (zs : Z s) (zk : ZOK Z (Rg ad)) (hin2 : meth.name = "<init>") {hz : PH} : ∀ n : Nat, ∀ (h : PH) (x0 : Nat) (x2 : Int32), ∀ (cells slots kz mz : Nat) (H : Heap) (locs : List Loc) (ls : Array Slot), fX6_init_103  n h x0 x2 = some (hz, kz, mz) → cells + kz ≤ mc → slots + mz ≤ ms → CE (EX D aC ad h) (Rg ad) s H locs → lv_has ls 3 [(0, .ref (ad x0)), (2, .int x2)] → W p l e (RM 2 44 mc ms) s m args below meth c H locs cells slots (MQ below (PQ (EX D aC ad hz) (Rg ad) none) args s mc ms (Rg ad)) (F0 m 103 ls []) := by
  intro n
  induction n with
  | zero =>
    intro h x0 x2 cells slots kz mz H locs ls hf
    have hf : (none : Option (PH × Nat × Nat)) = some _ := hf
    cases hf
  | succ n ih =>
    intro h x0 x2 cells slots kz mz H locs ls hf hk hs hE hl
    exact wfX6_init_103F b hlk hr zs zk hin2  ih hf hk hs hE hl
def fX6_init_83F (k83 : PH → Nat → Int32 → Option (PH × Nat × Nat)) (h : PH) (x0 : Nat) (x2 : Int32) : Option (PH × Nat × Nat) :=
  if 5 ≤ x2 then (fX6_init_103  FU h x0 0) else (oC (decide (hT h x0 = 7)) (oN (hR h 769 x0) (fun a18 => oC (decide (hT h a18 = 101)) (oC (ix x2 (hN h a18)) (oL (sA h a18 (Int32.toNatClampNeg x2) x2) (fun h21 => oL (x2 + 1) (fun y22 => k83 h21 x0 y22)))))))
set_option maxHeartbeats 4000000 in
theorem wfX6_init_83F {mc ms cells slots : Nat} {args : Array Value} (b : Bd p s m c cX6_init 3 RX6 D aC) (hlk : meth.locks = false) (hr : meth.sig.returnType = none) {Z : State → Prop} (zs : Z s) (zk : ZOK Z (Rg ad)) (hin2 : meth.name = "<init>") {hz : PH} {k83 : PH → Nat → Int32 → Option (PH × Nat × Nat)} (H83 : ∀ (h : PH) (x0 : Nat) (x2 : Int32), ∀ (cells slots kz mz : Nat) (H : Heap) (locs : List Loc) (ls : Array Slot), k83 h x0 x2 = some (hz, kz, mz) → cells + kz ≤ mc → slots + mz ≤ ms → CE (EX D aC ad h) (Rg ad) s H locs → lv_has ls 3 [(0, .ref (ad x0)), (2, .int x2)] → W p l e (RM 2 44 mc ms) s m args below meth c H locs cells slots (MQ below (PQ (EX D aC ad hz) (Rg ad) none) args s mc ms (Rg ad)) (F0 m 83 ls [])) {h : PH} {x0 : Nat} {x2 : Int32} {kz : Nat} {mz : Nat}  {H : Heap} {locs : List Loc} {ls : Array Slot} (hf : fX6_init_83F k83 h x0 x2 = some (hz, kz, mz)) (hk : cells + kz ≤ mc) (hs : slots + mz ≤ ms) (hE : CE (EX D aC ad h) (Rg ad) s H locs) (hl : lv_has ls 3 [(0, .ref (ad x0)), (2, .int x2)]) : W p l e (RM 2 44 mc ms) s m args below meth c H locs cells slots (MQ below (PQ (EX D aC ad hz) (Rg ad) none) args s mc ms (Rg ad)) (F0 m 83 ls []) := by
  unfold fX6_init_83F at hf
  refine lv_iload_n b.1 b.2.1 dX6_init_83 rfl (lv_at hl 1 rfl) ?_
  refine lv_iconst (v := 5) b.1 b.2.1 dX6_init_84 (by decide) ?_
  refine lv_icmp_ge (tgt := 101) b.1 b.2.1 dX6_init_85 (by decide) (fun c16 => ?_) (fun c16 => ?_)
  · have hf := oI_t c16 hf
    refine lv_iconst (v := 0) b.1 b.2.1 dX6_init_101 (by decide) ?_
    refine lv_istore_n (lv' := [(2, .int 0), (0, .ref (ad x0))]) b.1 b.2.1 dX6_init_102 rfl hl (by decide) rfl (fun ls hl => ?_)
    exact wfX6_init_103 b hlk hr zs zk hin2  FU h x0 0 _ _ _ _ _ _ _ hf hk hs hE (lv_sub hl [1, 0] rfl)
  · have hf := oI_f c16 hf
    refine lv_aload_n b.1 b.2.1 dX6_init_88 rfl (lv_at hl 0 rfl) ?_
    obtain ⟨t17, hf⟩ := oC_s hf
    have t17 := of_decide_eq_true t17
    refine gX6_9 (x := (some x0)) b hE rfl t17 dX6_init_89 ?_
    refine lv_iload_n b.1 b.2.1 dX6_init_92 rfl (lv_at hl 1 rfl) ?_
    refine lv_iload_n b.1 b.2.1 dX6_init_93 rfl (lv_at hl 1 rfl) ?_
    obtain ⟨a18, ea18, hf⟩ := oN_s hf
    obtain ⟨t19, hf⟩ := oC_s hf
    have t19 := of_decide_eq_true t19
    obtain ⟨g20, hf⟩ := oC_s hf
    obtain ⟨h21, eh21, hf⟩ := oL_s hf
    refine q_iast (x := (hR h 769 x0)) b hE ea18 t19 g20 eh21 dX6_init_94 (fun H locs hE => ?_)
    obtain ⟨y22, ey22, hf⟩ := oL_s hf
    refine lv_iinc (v := y22) (lv' := [(2, .int y22), (0, .ref (ad x0))]) b.1 b.2.1 dX6_init_95 hl (k := 1) rfl (by rw [ey22]; rfl) (by decide) rfl (fun ls hl => ?_)
    refine lv_goto (tgt := 83) b.1 b.2.1 dX6_init_98 (by decide) ?_
    exact H83 h21 x0 y22 _ _ _ _ _ _ _ hf hk hs hE (lv_sub hl [1, 0] rfl)
def fX6_init_83  : Nat → PH → Nat → Int32 → Option (PH × Nat × Nat)
  | 0 => fun _ _ _ => none
  | n + 1 => fX6_init_83F  (fX6_init_83  n)
set_option maxHeartbeats 4000000 in
theorem wfX6_init_83 {mc ms : Nat} {args : Array Value} (b : Bd p s m c cX6_init 3 RX6 D aC) (hlk : meth.locks = false) (hr : meth.sig.returnType = none) {Z : State → Prop} (zs : Z s) (zk : ZOK Z (Rg ad)) (hin2 : meth.name = "<init>") {hz : PH} : ∀ n : Nat, ∀ (h : PH) (x0 : Nat) (x2 : Int32), ∀ (cells slots kz mz : Nat) (H : Heap) (locs : List Loc) (ls : Array Slot), fX6_init_83  n h x0 x2 = some (hz, kz, mz) → cells + kz ≤ mc → slots + mz ≤ ms → CE (EX D aC ad h) (Rg ad) s H locs → lv_has ls 3 [(0, .ref (ad x0)), (2, .int x2)] → W p l e (RM 2 44 mc ms) s m args below meth c H locs cells slots (MQ below (PQ (EX D aC ad hz) (Rg ad) none) args s mc ms (Rg ad)) (F0 m 83 ls []) := by
  intro n
  induction n with
  | zero =>
    intro h x0 x2 cells slots kz mz H locs ls hf
    have hf : (none : Option (PH × Nat × Nat)) = some _ := hf
    cases hf
  | succ n ih =>
    intro h x0 x2 cells slots kz mz H locs ls hf hk hs hE hl
    exact wfX6_init_83F b hlk hr zs zk hin2  ih hf hk hs hE hl
def fX6_init_0  (h : PH) (x0 : Nat) (x1 : Option Nat) : Option (PH × Nat × Nat) :=
  oL (nA h 101 (Int32.toNatClampNeg 8)) (fun h25 => oK3 1 (Int32.toNatClampNeg 8) (oC (decide (hT h25 x0 = 7)) (oL (sR h25 769 x0 (some (hZ h))) (fun h28 => oL (nA h28 107 (Int32.toNatClampNeg 24)) (fun h33 => oK3 1 (Int32.toNatClampNeg 24) (oL (sR h33 770 x0 (some (hZ h28))) (fun h37 => oL (nO h37 4) (fun h43 => oK3 1 3 (oB (fX3_init h43 (hZ h37)) (fun h49 => oC (decide (hT h49 x0 = 7)) (oL (sR h49 771 x0 (some (hZ h37))) (fun h51 => oL (nO h51 4) (fun h55 => oK3 1 3 (oB (fX3_init h55 (hZ h51)) (fun h59 => oC (decide (hT h59 x0 = 7)) (oL (sR h59 772 x0 (some (hZ h51))) (fun h61 => oL (nO h61 4) (fun h65 => oK3 1 3 (oB (fX3_init h65 (hZ h61)) (fun h69 => oC (decide (hT h69 x0 = 7)) (oL (sR h69 773 x0 (some (hZ h61))) (fun h71 => oL (nO h71 4) (fun h75 => oK3 1 3 (oB (fX3_init h75 (hZ h71)) (fun h79 => oC (decide (hT h79 x0 = 7)) (oL (sR h79 774 x0 (some (hZ h71))) (fun h81 => oL (nO h81 4) (fun h85 => oK3 1 3 (oB (fX3_init h85 (hZ h81)) (fun h89 => oC (decide (hT h89 x0 = 7)) (oL (sR h89 775 x0 (some (hZ h81))) (fun h91 => oL (sR h91 768 x0 x1) (fun h93 => fX6_init_83  FU h93 x0 0)))))))))))))))))))))))))))))))))
set_option maxHeartbeats 4000000 in
theorem wfX6_init_0 {mc ms cells slots : Nat} {args : Array Value} (b : Bd p s m c cX6_init 3 RX6 D aC) (hlk : meth.locks = false) (hr : meth.sig.returnType = none) {Z : State → Prop} (zs : Z s) (zk : ZOK Z (Rg ad)) (hin2 : meth.name = "<init>") {hz : PH} {h : PH} {x0 : Nat} {x1 : Option Nat} {kz : Nat} {mz : Nat}  {H : Heap} {locs : List Loc} {ls : Array Slot} (hf : fX6_init_0 h x0 x1 = some (hz, kz, mz)) (hk : cells + kz ≤ mc) (hs : slots + mz ≤ ms) (hE : CE (EX D aC ad h) (Rg ad) s H locs) (hl : lv_has ls 3 [(0, .ref (ad x0)), (1, va_rf (Option.map ad x1))]) : W p l e (RM 2 44 mc ms) s m args below meth c H locs cells slots (MQ below (PQ (EX D aC ad hz) (Rg ad) none) args s mc ms (Rg ad)) (F0 m 0 ls []) := by
  unfold fX6_init_0 at hf
  refine lv_aload_n b.1 b.2.1 dX6_init_0 rfl (lv_at hl 0 rfl) ?_
  refine k_objInit b (in4 22 rfl rfl) objI objC hl.1 ⟨Nat.le_of_ble_eq_true rfl, Nat.le_of_ble_eq_true rfl⟩ (Nat.le_of_ble_eq_true rfl) dX6_init_1 ?_
  refine lv_aload_n b.1 b.2.1 dX6_init_4 rfl (lv_at hl 0 rfl) ?_
  refine lv_bipush (v := 8) b.1 b.2.1 dX6_init_5 (by decide) ?_
  obtain ⟨h25, eh25, hf⟩ := oL_s hf
  obtain ⟨i23, j24, ei23, ej24, hf⟩ := oK3_s hf
  have t26 := tg_nA0 eh25
  refine q_newa1 b hE (in1 147 rfl rfl) (by decide) (by decide) (le_room hk ei23) (le_room hs ej24) eh25 dX6_init_7 (fun H hE => ?_)
  have hk := le_step hk ei23
  have hs := le_step hs ej24
  obtain ⟨t27, hf⟩ := oC_s hf
  have t27 := of_decide_eq_true t27
  obtain ⟨h28, eh28, hf⟩ := oL_s hf
  refine pX6_9 (x := (some x0)) (v := (some (hZ h))) b hin2 hE rfl t27 eh28 dX6_init_9 (fun H locs hE => ?_)
  refine lv_aload_n b.1 b.2.1 dX6_init_12 rfl (lv_at hl 0 rfl) ?_
  refine lv_bipush (v := 24) b.1 b.2.1 dX6_init_13 (by decide) ?_
  have t29 := tg_sR eh28 t26
  have t30 := tg_sR eh28 t27
  obtain ⟨h33, eh33, hf⟩ := oL_s hf
  obtain ⟨i31, j32, ei31, ej32, hf⟩ := oK3_s hf
  have t34 := tg_nA (t := 100) hE eh33 t29
  have t35 := tg_nA (t := 6) hE eh33 t30
  have t36 := tg_nA0 eh33
  refine q_newq7 b hE (in4 23 rfl rfl) (by decide) (by decide) (le_room hk ei31) (le_room hs ej32) eh33 dX6_init_15 (fun H hE => ?_)
  have hk := le_step hk ei31
  have hs := le_step hs ej32
  obtain ⟨h37, eh37, hf⟩ := oL_s hf
  refine pX6_17 (x := (some x0)) (v := (some (hZ h28))) b hin2 hE rfl t35 eh37 dX6_init_18 (fun H locs hE => ?_)
  refine lv_aload_n b.1 b.2.1 dX6_init_21 rfl (lv_at hl 0 rfl) ?_
  have t38 := tg_sR eh37 t34
  have t39 := tg_sR eh37 t35
  have t40 := tg_sR eh37 t36
  obtain ⟨h43, eh43, hf⟩ := oL_s hf
  obtain ⟨i41, j42, ei41, ej42, hf⟩ := oK3_s hf
  have t44 := tg_nO (t := 100) hE eh43 t38
  have t45 := tg_nO (t := 6) hE eh43 t39
  have t46 := tg_nO (t := 106) hE eh43 t40
  have t47 := tg_nO0 eh43
  refine nX6_15 b hE (le_room hk ei41) (le_room hs ej42) eh43 dX6_init_22 (fun H hE => ?_)
  have hk := le_step hk ei41
  have hs := le_step hs ej42
  refine lv_dup b.1 b.2.1 dX6_init_25 rfl ?_
  obtain ⟨h49, hc48, hf⟩ := oB_s hf
  refine k_callIN0 b zs zk hE (CX3_init l D aC ad zk hc48) mc_X3_init (in4 26 rfl rfl) mi_X3_init ini_RX3 rfl ok_X3_init ⟨Nat.le_of_ble_eq_true rfl, Nat.le_of_ble_eq_true rfl⟩ rfl hl.1 rfl (k_room _ (by exact Nat.le_of_ble_eq_true rfl)) ⟨le_0 hk, le_0 hs⟩ dX6_init_26 (fun H locs hE => ?_)
  obtain ⟨t50, hf⟩ := oC_s hf
  have t50 := of_decide_eq_true t50
  obtain ⟨h51, eh51, hf⟩ := oL_s hf
  refine pX6_22 (x := (some x0)) (v := (some (hZ h37))) b hin2 hE rfl t50 eh51 dX6_init_29 (fun H locs hE => ?_)
  refine lv_aload_n b.1 b.2.1 dX6_init_32 rfl (lv_at hl 0 rfl) ?_
  have t52 := tg_sR eh51 t50
  obtain ⟨h55, eh55, hf⟩ := oL_s hf
  obtain ⟨i53, j54, ei53, ej54, hf⟩ := oK3_s hf
  have t56 := tg_nO (t := 6) hE eh55 t52
  have t57 := tg_nO0 eh55
  refine nX6_15 b hE (le_room hk ei53) (le_room hs ej54) eh55 dX6_init_33 (fun H hE => ?_)
  have hk := le_step hk ei53
  have hs := le_step hs ej54
  refine lv_dup b.1 b.2.1 dX6_init_36 rfl ?_
  obtain ⟨h59, hc58, hf⟩ := oB_s hf
  refine k_callIN0 b zs zk hE (CX3_init l D aC ad zk hc58) mc_X3_init (in4 26 rfl rfl) mi_X3_init ini_RX3 rfl ok_X3_init ⟨Nat.le_of_ble_eq_true rfl, Nat.le_of_ble_eq_true rfl⟩ rfl hl.1 rfl (k_room _ (by exact Nat.le_of_ble_eq_true rfl)) ⟨le_0 hk, le_0 hs⟩ dX6_init_37 (fun H locs hE => ?_)
  obtain ⟨t60, hf⟩ := oC_s hf
  have t60 := of_decide_eq_true t60
  obtain ⟨h61, eh61, hf⟩ := oL_s hf
  refine pX6_26 (x := (some x0)) (v := (some (hZ h51))) b hin2 hE rfl t60 eh61 dX6_init_40 (fun H locs hE => ?_)
  refine lv_aload_n b.1 b.2.1 dX6_init_43 rfl (lv_at hl 0 rfl) ?_
  have t62 := tg_sR eh61 t60
  obtain ⟨h65, eh65, hf⟩ := oL_s hf
  obtain ⟨i63, j64, ei63, ej64, hf⟩ := oK3_s hf
  have t66 := tg_nO (t := 6) hE eh65 t62
  have t67 := tg_nO0 eh65
  refine nX6_15 b hE (le_room hk ei63) (le_room hs ej64) eh65 dX6_init_44 (fun H hE => ?_)
  have hk := le_step hk ei63
  have hs := le_step hs ej64
  refine lv_dup b.1 b.2.1 dX6_init_47 rfl ?_
  obtain ⟨h69, hc68, hf⟩ := oB_s hf
  refine k_callIN0 b zs zk hE (CX3_init l D aC ad zk hc68) mc_X3_init (in4 26 rfl rfl) mi_X3_init ini_RX3 rfl ok_X3_init ⟨Nat.le_of_ble_eq_true rfl, Nat.le_of_ble_eq_true rfl⟩ rfl hl.1 rfl (k_room _ (by exact Nat.le_of_ble_eq_true rfl)) ⟨le_0 hk, le_0 hs⟩ dX6_init_48 (fun H locs hE => ?_)
  obtain ⟨t70, hf⟩ := oC_s hf
  have t70 := of_decide_eq_true t70
  obtain ⟨h71, eh71, hf⟩ := oL_s hf
  refine pX6_29 (x := (some x0)) (v := (some (hZ h61))) b hin2 hE rfl t70 eh71 dX6_init_51 (fun H locs hE => ?_)
  refine lv_aload_n b.1 b.2.1 dX6_init_54 rfl (lv_at hl 0 rfl) ?_
  have t72 := tg_sR eh71 t70
  obtain ⟨h75, eh75, hf⟩ := oL_s hf
  obtain ⟨i73, j74, ei73, ej74, hf⟩ := oK3_s hf
  have t76 := tg_nO (t := 6) hE eh75 t72
  have t77 := tg_nO0 eh75
  refine nX6_15 b hE (le_room hk ei73) (le_room hs ej74) eh75 dX6_init_55 (fun H hE => ?_)
  have hk := le_step hk ei73
  have hs := le_step hs ej74
  refine lv_dup b.1 b.2.1 dX6_init_58 rfl ?_
  obtain ⟨h79, hc78, hf⟩ := oB_s hf
  refine k_callIN0 b zs zk hE (CX3_init l D aC ad zk hc78) mc_X3_init (in4 26 rfl rfl) mi_X3_init ini_RX3 rfl ok_X3_init ⟨Nat.le_of_ble_eq_true rfl, Nat.le_of_ble_eq_true rfl⟩ rfl hl.1 rfl (k_room _ (by exact Nat.le_of_ble_eq_true rfl)) ⟨le_0 hk, le_0 hs⟩ dX6_init_59 (fun H locs hE => ?_)
  obtain ⟨t80, hf⟩ := oC_s hf
  have t80 := of_decide_eq_true t80
  obtain ⟨h81, eh81, hf⟩ := oL_s hf
  refine pX6_32 (x := (some x0)) (v := (some (hZ h71))) b hin2 hE rfl t80 eh81 dX6_init_62 (fun H locs hE => ?_)
  refine lv_aload_n b.1 b.2.1 dX6_init_65 rfl (lv_at hl 0 rfl) ?_
  have t82 := tg_sR eh81 t80
  obtain ⟨h85, eh85, hf⟩ := oL_s hf
  obtain ⟨i83, j84, ei83, ej84, hf⟩ := oK3_s hf
  have t86 := tg_nO (t := 6) hE eh85 t82
  have t87 := tg_nO0 eh85
  refine nX6_15 b hE (le_room hk ei83) (le_room hs ej84) eh85 dX6_init_66 (fun H hE => ?_)
  have hk := le_step hk ei83
  have hs := le_step hs ej84
  refine lv_dup b.1 b.2.1 dX6_init_69 rfl ?_
  obtain ⟨h89, hc88, hf⟩ := oB_s hf
  refine k_callIN0 b zs zk hE (CX3_init l D aC ad zk hc88) mc_X3_init (in4 26 rfl rfl) mi_X3_init ini_RX3 rfl ok_X3_init ⟨Nat.le_of_ble_eq_true rfl, Nat.le_of_ble_eq_true rfl⟩ rfl hl.1 rfl (k_room _ (by exact Nat.le_of_ble_eq_true rfl)) ⟨le_0 hk, le_0 hs⟩ dX6_init_70 (fun H locs hE => ?_)
  obtain ⟨t90, hf⟩ := oC_s hf
  have t90 := of_decide_eq_true t90
  obtain ⟨h91, eh91, hf⟩ := oL_s hf
  refine pX6_35 (x := (some x0)) (v := (some (hZ h81))) b hin2 hE rfl t90 eh91 dX6_init_73 (fun H locs hE => ?_)
  refine lv_aload_n b.1 b.2.1 dX6_init_76 rfl (lv_at hl 0 rfl) ?_
  refine k_aload_n (x := Option.map ad x1) b dX6_init_77 rfl (lv_at hl 1 rfl) ?_
  have t92 := tg_sR eh91 t90
  obtain ⟨h93, eh93, hf⟩ := oL_s hf
  refine pX6_38 (x := (some x0)) (v := x1) b hin2 hE rfl t92 eh93 dX6_init_78 (fun H locs hE => ?_)
  refine lv_iconst (v := 0) b.1 b.2.1 dX6_init_81 (by decide) ?_
  refine lv_istore_n (lv' := [(2, .int 0), (0, .ref (ad x0)), (1, va_rf (Option.map ad x1))]) b.1 b.2.1 dX6_init_82 rfl hl (by decide) (by cases x1 <;> rfl) (fun ls hl => ?_)
  have hl := lv_sub (l' := [(2, .int 0), (0, .ref (ad x0))]) hl [0, 1] rfl
  exact wfX6_init_83 b hlk hr zs zk hin2  FU h93 x0 0 _ _ _ _ _ _ _ hf hk hs hE (lv_sub hl [1, 0] rfl)
def fX6_init (h : PH) (x0 : Nat) (x1 : Option Nat) : Option (PH × Nat × Nat) := fX6_init_0 h x0 x1
set_option maxHeartbeats 4000000 in
theorem CX6_init (l : Launch) (D : va_G) (aC : Nat → ClassId) (ad : Nat → Nat) {Z : State → Prop} (zk : ZOK Z (Rg ad)) {h : PH} {x0 : Nat} {x1 : Option Nat} {hz : PH} {kz : Nat} {mz : Nat} (hf : fX6_init h x0 x1 = some (hz, kz, mz)) : CM l D aC Z yX6_init cX6_init 3 (none) 2 44 kz mz (EX D aC ad h) [.ref (ad x0), va_rf (Option.map ad x1)] (EX D aC ad hz) none (Rg ad) := by
  refine CM.of rfl ?_
  intro p e s m below meth c b hr hlk hin2 zs hE
  cases x1 <;> (
    refine k_ent (Nat.le_of_ble_eq_true rfl) (fun ls hl => ?_)
    exact wfX6_init_0 b hlk hr zs zk hin2 hf (by omega) (by omega) hE (lv_sub hl [0, 1] rfl))
theorem dX5_init_0 : decode cX5_init 0 = .ok (.aload_n 0, 1) := by decide +kernel
theorem dX5_init_1 : decode cX5_init 1 = .ok (.invokespecial 3, 3) := by decide +kernel
theorem dX5_init_4 : decode cX5_init 4 = .ok (.aload_n 0, 1) := by decide +kernel
theorem dX5_init_5 : decode cX5_init 5 = .ok (.sipush 600, 3) := by decide +kernel
theorem dX5_init_8 : decode cX5_init 8 = .ok (.newarray .int, 2) := by decide +kernel
theorem dX5_init_10 : decode cX5_init 10 = .ok (.putfield 9, 3) := by decide +kernel
theorem dX5_init_13 : decode cX5_init 13 = .ok (.aload_n 0, 1) := by decide +kernel
theorem dX5_init_14 : decode cX5_init 14 = .ok (.sipush 600, 3) := by decide +kernel
theorem dX5_init_17 : decode cX5_init 17 = .ok (.newarray .byte, 2) := by decide +kernel
theorem dX5_init_19 : decode cX5_init 19 = .ok (.putfield 15, 3) := by decide +kernel
theorem dX5_init_22 : decode cX5_init 22 = .ok (.aload_n 0, 1) := by decide +kernel
theorem dX5_init_23 : decode cX5_init 23 = .ok (.sipush 600, 3) := by decide +kernel
theorem dX5_init_26 : decode cX5_init 26 = .ok (.newarray .int, 2) := by decide +kernel
theorem dX5_init_28 : decode cX5_init 28 = .ok (.putfield 19, 3) := by decide +kernel
theorem dX5_init_31 : decode cX5_init 31 = .ok (.aload_n 0, 1) := by decide +kernel
theorem dX5_init_32 : decode cX5_init 32 = .ok (.sipush 600, 3) := by decide +kernel
theorem dX5_init_35 : decode cX5_init 35 = .ok (.newarray .int, 2) := by decide +kernel
theorem dX5_init_37 : decode cX5_init 37 = .ok (.putfield 22, 3) := by decide +kernel
theorem dX5_init_40 : decode cX5_init 40 = .ok (.aload_n 0, 1) := by decide +kernel
theorem dX5_init_41 : decode cX5_init 41 = .ok (.sipush 600, 3) := by decide +kernel
theorem dX5_init_44 : decode cX5_init 44 = .ok (.newarray .int, 2) := by decide +kernel
theorem dX5_init_46 : decode cX5_init 46 = .ok (.putfield 25, 3) := by decide +kernel
theorem dX5_init_49 : decode cX5_init 49 = .ok (.aload_n 0, 1) := by decide +kernel
theorem dX5_init_50 : decode cX5_init 50 = .ok (.bipush 30, 2) := by decide +kernel
theorem dX5_init_52 : decode cX5_init 52 = .ok (.newarray .int, 2) := by decide +kernel
theorem dX5_init_54 : decode cX5_init 54 = .ok (.putfield 28, 3) := by decide +kernel
theorem dX5_init_57 : decode cX5_init 57 = .ok (.aload_n 0, 1) := by decide +kernel
theorem dX5_init_58 : decode cX5_init 58 = .ok (.bipush 32, 2) := by decide +kernel
theorem dX5_init_60 : decode cX5_init 60 = .ok (.newarray .int, 2) := by decide +kernel
theorem dX5_init_62 : decode cX5_init 62 = .ok (.putfield 31, 3) := by decide +kernel
theorem dX5_init_65 : decode cX5_init 65 = .ok (.aload_n 0, 1) := by decide +kernel
theorem dX5_init_66 : decode cX5_init 66 = .ok (.bipush 32, 2) := by decide +kernel
theorem dX5_init_68 : decode cX5_init 68 = .ok (.newarray .int, 2) := by decide +kernel
theorem dX5_init_70 : decode cX5_init 70 = .ok (.putfield 34, 3) := by decide +kernel
theorem dX5_init_73 : decode cX5_init 73 = .ok (.aload_n 0, 1) := by decide +kernel
theorem dX5_init_74 : decode cX5_init 74 = .ok (.bipush 32, 2) := by decide +kernel
theorem dX5_init_76 : decode cX5_init 76 = .ok (.newarray .byte, 2) := by decide +kernel
theorem dX5_init_78 : decode cX5_init 78 = .ok (.putfield 37, 3) := by decide +kernel
theorem dX5_init_81 : decode cX5_init 81 = .ok (.aload_n 0, 1) := by decide +kernel
theorem dX5_init_82 : decode cX5_init 82 = .ok (.iconst 4, 1) := by decide +kernel
theorem dX5_init_83 : decode cX5_init 83 = .ok (.newarray .int, 2) := by decide +kernel
theorem dX5_init_85 : decode cX5_init 85 = .ok (.putfield 40, 3) := by decide +kernel
theorem dX5_init_88 : decode cX5_init 88 = .ok (.aload_n 0, 1) := by decide +kernel
theorem dX5_init_89 : decode cX5_init 89 = .ok (.bipush 20, 2) := by decide +kernel
theorem dX5_init_91 : decode cX5_init 91 = .ok (.newarray .int, 2) := by decide +kernel
theorem dX5_init_93 : decode cX5_init 93 = .ok (.putfield 43, 3) := by decide +kernel
theorem dX5_init_96 : decode cX5_init 96 = .ok (.aload_n 0, 1) := by decide +kernel
theorem dX5_init_97 : decode cX5_init 97 = .ok (.bipush 40, 2) := by decide +kernel
theorem dX5_init_99 : decode cX5_init 99 = .ok (.newarray .long, 2) := by decide +kernel
theorem dX5_init_101 : decode cX5_init 101 = .ok (.putfield 46, 3) := by decide +kernel
theorem dX5_init_104 : decode cX5_init 104 = .ok (.aload_n 0, 1) := by decide +kernel
theorem dX5_init_105 : decode cX5_init 105 = .ok (.aload_n 1, 1) := by decide +kernel
theorem dX5_init_106 : decode cX5_init 106 = .ok (.putfield 50, 3) := by decide +kernel
theorem dX5_init_109 : decode cX5_init 109 = .ok (.aload_n 0, 1) := by decide +kernel
theorem dX5_init_110 : decode cX5_init 110 = .ok (.new 54, 3) := by decide +kernel
theorem dX5_init_113 : decode cX5_init 113 = .ok (.dup, 1) := by decide +kernel
theorem dX5_init_114 : decode cX5_init 114 = .ok (.aload_n 1, 1) := by decide +kernel
theorem dX5_init_115 : decode cX5_init 115 = .ok (.invokespecial 56, 3) := by decide +kernel
theorem dX5_init_118 : decode cX5_init 118 = .ok (.putfield 59, 3) := by decide +kernel
theorem dX5_init_121 : decode cX5_init 121 = .ok (.return_, 1) := by decide +kernel
def fX5_init_0  (h : PH) (x0 : Nat) (x1 : Option Nat) : Option (PH × Nat × Nat) :=
  oL (nA h 101 (Int32.toNatClampNeg 600)) (fun h3 => oK3 1 (Int32.toNatClampNeg 600) (oC (decide (hT h3 x0 = 6)) (oL (sR h3 645 x0 (some (hZ h))) (fun h6 => oL (nA h6 100 (Int32.toNatClampNeg 600)) (fun h11 => oK3 1 (Int32.toNatClampNeg 600) (oL (sR h11 646 x0 (some (hZ h6))) (fun h15 => oL (nA h15 101 (Int32.toNatClampNeg 600)) (fun h21 => oK3 1 (Int32.toNatClampNeg 600) (oL (sR h21 647 x0 (some (hZ h15))) (fun h26 => oL (nA h26 101 (Int32.toNatClampNeg 600)) (fun h33 => oK3 1 (Int32.toNatClampNeg 600) (oL (sR h33 648 x0 (some (hZ h26))) (fun h39 => oL (nA h39 101 (Int32.toNatClampNeg 600)) (fun h47 => oK3 1 (Int32.toNatClampNeg 600) (oL (sR h47 649 x0 (some (hZ h39))) (fun h54 => oL (nA h54 101 (Int32.toNatClampNeg 30)) (fun h63 => oK3 1 (Int32.toNatClampNeg 30) (oL (sR h63 650 x0 (some (hZ h54))) (fun h71 => oL (nA h71 101 (Int32.toNatClampNeg 32)) (fun h81 => oK3 1 (Int32.toNatClampNeg 32) (oL (sR h81 652 x0 (some (hZ h71))) (fun h90 => oL (nA h90 101 (Int32.toNatClampNeg 32)) (fun h101 => oK3 1 (Int32.toNatClampNeg 32) (oL (sR h101 653 x0 (some (hZ h90))) (fun h111 => oL (nA h111 100 (Int32.toNatClampNeg 32)) (fun h123 => oK3 1 (Int32.toNatClampNeg 32) (oL (sR h123 654 x0 (some (hZ h111))) (fun h134 => oL (nA h134 101 (Int32.toNatClampNeg 4)) (fun h147 => oK3 1 (Int32.toNatClampNeg 4) (oL (sR h147 656 x0 (some (hZ h134))) (fun h159 => oL (nA h159 101 (Int32.toNatClampNeg 20)) (fun h173 => oK3 1 (Int32.toNatClampNeg 20) (oL (sR h173 657 x0 (some (hZ h159))) (fun h186 => oL (nA h186 102 (Int32.toNatClampNeg 40)) (fun h201 => oK3 1 (Int32.toNatClampNeg 40) (oL (sR h201 658 x0 (some (hZ h186))) (fun h215 => oL (sR h215 640 x0 x1) (fun h217 => oL (nO h217 7) (fun h245 => oK3 1 10 (oB3 (fX6_init h245 (hZ h217) x1) (fun h261 i262 j263 => oK3 i262 j263 (oC (decide (hT h261 x0 = 6)) (oL (sR h261 641 x0 (some (hZ h217))) (fun h267 => some (h267, 0, 0)))))))))))))))))))))))))))))))))))))))))))))
set_option maxHeartbeats 4000000 in
theorem wfX5_init_0 {mc ms cells slots : Nat} {args : Array Value} (b : Bd p s m c cX5_init 2 RX5 D aC) (hlk : meth.locks = false) (hr : meth.sig.returnType = none) {Z : State → Prop} (zs : Z s) (zk : ZOK Z (Rg ad)) (hin2 : meth.name = "<init>") {hz : PH} {h : PH} {x0 : Nat} {x1 : Option Nat} {kz : Nat} {mz : Nat}  {H : Heap} {locs : List Loc} {ls : Array Slot} (hf : fX5_init_0 h x0 x1 = some (hz, kz, mz)) (hk : cells + kz ≤ mc) (hs : slots + mz ≤ ms) (hE : CE (EX D aC ad h) (Rg ad) s H locs) (hl : lv_has ls 2 [(0, .ref (ad x0)), (1, va_rf (Option.map ad x1))]) : W p l e (RM 3 66 mc ms) s m args below meth c H locs cells slots (MQ below (PQ (EX D aC ad hz) (Rg ad) none) args s mc ms (Rg ad)) (F0 m 0 ls []) := by
  unfold fX5_init_0 at hf
  refine lv_aload_n b.1 b.2.1 dX5_init_0 rfl (lv_at hl 0 rfl) ?_
  refine k_objInit b (in4 16 rfl rfl) objI objC hl.1 ⟨Nat.le_of_ble_eq_true rfl, Nat.le_of_ble_eq_true rfl⟩ (Nat.le_of_ble_eq_true rfl) dX5_init_1 ?_
  refine lv_aload_n b.1 b.2.1 dX5_init_4 rfl (lv_at hl 0 rfl) ?_
  refine lv_sipush (v := 600) b.1 b.2.1 dX5_init_5 (by decide) ?_
  obtain ⟨h3, eh3, hf⟩ := oL_s hf
  obtain ⟨i1, j2, ei1, ej2, hf⟩ := oK3_s hf
  have t4 := tg_nA0 eh3
  refine q_newa1 b hE (in1 147 rfl rfl) (by decide) (by decide) (le_room hk ei1) (le_room hs ej2) eh3 dX5_init_8 (fun H hE => ?_)
  have hk := le_step hk ei1
  have hs := le_step hs ej2
  obtain ⟨t5, hf⟩ := oC_s hf
  have t5 := of_decide_eq_true t5
  obtain ⟨h6, eh6, hf⟩ := oL_s hf
  refine pX5_9 (x := (some x0)) (v := (some (hZ h))) b hin2 hE rfl t5 eh6 dX5_init_10 (fun H locs hE => ?_)
  refine lv_aload_n b.1 b.2.1 dX5_init_13 rfl (lv_at hl 0 rfl) ?_
  refine lv_sipush (v := 600) b.1 b.2.1 dX5_init_14 (by decide) ?_
  have t7 := tg_sR eh6 t4
  have t8 := tg_sR eh6 t5
  obtain ⟨h11, eh11, hf⟩ := oL_s hf
  obtain ⟨i9, j10, ei9, ej10, hf⟩ := oK3_s hf
  have t12 := tg_nA (t := 100) hE eh11 t7
  have t13 := tg_nA (t := 5) hE eh11 t8
  have t14 := tg_nA0 eh11
  refine q_newa0 b hE (in1 45 rfl rfl) (by decide) (by decide) (le_room hk ei9) (le_room hs ej10) eh11 dX5_init_17 (fun H hE => ?_)
  have hk := le_step hk ei9
  have hs := le_step hs ej10
  obtain ⟨h15, eh15, hf⟩ := oL_s hf
  refine pX5_15 (x := (some x0)) (v := (some (hZ h6))) b hin2 hE rfl t13 eh15 dX5_init_19 (fun H locs hE => ?_)
  refine lv_aload_n b.1 b.2.1 dX5_init_22 rfl (lv_at hl 0 rfl) ?_
  refine lv_sipush (v := 600) b.1 b.2.1 dX5_init_23 (by decide) ?_
  have t16 := tg_sR eh15 t12
  have t17 := tg_sR eh15 t13
  have t18 := tg_sR eh15 t14
  obtain ⟨h21, eh21, hf⟩ := oL_s hf
  obtain ⟨i19, j20, ei19, ej20, hf⟩ := oK3_s hf
  have t22 := tg_nA (t := 100) hE eh21 t16
  have t23 := tg_nA (t := 5) hE eh21 t17
  have t24 := tg_nA (t := 99) hE eh21 t18
  have t25 := tg_nA0 eh21
  refine q_newa1 b hE (in1 147 rfl rfl) (by decide) (by decide) (le_room hk ei19) (le_room hs ej20) eh21 dX5_init_26 (fun H hE => ?_)
  have hk := le_step hk ei19
  have hs := le_step hs ej20
  obtain ⟨h26, eh26, hf⟩ := oL_s hf
  refine pX5_19 (x := (some x0)) (v := (some (hZ h15))) b hin2 hE rfl t23 eh26 dX5_init_28 (fun H locs hE => ?_)
  refine lv_aload_n b.1 b.2.1 dX5_init_31 rfl (lv_at hl 0 rfl) ?_
  refine lv_sipush (v := 600) b.1 b.2.1 dX5_init_32 (by decide) ?_
  have t27 := tg_sR eh26 t22
  have t28 := tg_sR eh26 t23
  have t29 := tg_sR eh26 t24
  have t30 := tg_sR eh26 t25
  obtain ⟨h33, eh33, hf⟩ := oL_s hf
  obtain ⟨i31, j32, ei31, ej32, hf⟩ := oK3_s hf
  have t34 := tg_nA (t := 100) hE eh33 t27
  have t35 := tg_nA (t := 5) hE eh33 t28
  have t36 := tg_nA (t := 99) hE eh33 t29
  have t37 := tg_nA (t := 100) hE eh33 t30
  have t38 := tg_nA0 eh33
  refine q_newa1 b hE (in1 147 rfl rfl) (by decide) (by decide) (le_room hk ei31) (le_room hs ej32) eh33 dX5_init_35 (fun H hE => ?_)
  have hk := le_step hk ei31
  have hs := le_step hs ej32
  obtain ⟨h39, eh39, hf⟩ := oL_s hf
  refine pX5_22 (x := (some x0)) (v := (some (hZ h26))) b hin2 hE rfl t35 eh39 dX5_init_37 (fun H locs hE => ?_)
  refine lv_aload_n b.1 b.2.1 dX5_init_40 rfl (lv_at hl 0 rfl) ?_
  refine lv_sipush (v := 600) b.1 b.2.1 dX5_init_41 (by decide) ?_
  have t40 := tg_sR eh39 t34
  have t41 := tg_sR eh39 t35
  have t42 := tg_sR eh39 t36
  have t43 := tg_sR eh39 t37
  have t44 := tg_sR eh39 t38
  obtain ⟨h47, eh47, hf⟩ := oL_s hf
  obtain ⟨i45, j46, ei45, ej46, hf⟩ := oK3_s hf
  have t48 := tg_nA (t := 100) hE eh47 t40
  have t49 := tg_nA (t := 5) hE eh47 t41
  have t50 := tg_nA (t := 99) hE eh47 t42
  have t51 := tg_nA (t := 100) hE eh47 t43
  have t52 := tg_nA (t := 100) hE eh47 t44
  have t53 := tg_nA0 eh47
  refine q_newa1 b hE (in1 147 rfl rfl) (by decide) (by decide) (le_room hk ei45) (le_room hs ej46) eh47 dX5_init_44 (fun H hE => ?_)
  have hk := le_step hk ei45
  have hs := le_step hs ej46
  obtain ⟨h54, eh54, hf⟩ := oL_s hf
  refine pX5_25 (x := (some x0)) (v := (some (hZ h39))) b hin2 hE rfl t49 eh54 dX5_init_46 (fun H locs hE => ?_)
  refine lv_aload_n b.1 b.2.1 dX5_init_49 rfl (lv_at hl 0 rfl) ?_
  refine lv_bipush (v := 30) b.1 b.2.1 dX5_init_50 (by decide) ?_
  have t55 := tg_sR eh54 t48
  have t56 := tg_sR eh54 t49
  have t57 := tg_sR eh54 t50
  have t58 := tg_sR eh54 t51
  have t59 := tg_sR eh54 t52
  have t60 := tg_sR eh54 t53
  obtain ⟨h63, eh63, hf⟩ := oL_s hf
  obtain ⟨i61, j62, ei61, ej62, hf⟩ := oK3_s hf
  have t64 := tg_nA (t := 100) hE eh63 t55
  have t65 := tg_nA (t := 5) hE eh63 t56
  have t66 := tg_nA (t := 99) hE eh63 t57
  have t67 := tg_nA (t := 100) hE eh63 t58
  have t68 := tg_nA (t := 100) hE eh63 t59
  have t69 := tg_nA (t := 100) hE eh63 t60
  have t70 := tg_nA0 eh63
  refine q_newa1 b hE (in1 147 rfl rfl) (by decide) (by decide) (le_room hk ei61) (le_room hs ej62) eh63 dX5_init_52 (fun H hE => ?_)
  have hk := le_step hk ei61
  have hs := le_step hs ej62
  obtain ⟨h71, eh71, hf⟩ := oL_s hf
  refine pX5_28 (x := (some x0)) (v := (some (hZ h54))) b hin2 hE rfl t65 eh71 dX5_init_54 (fun H locs hE => ?_)
  refine lv_aload_n b.1 b.2.1 dX5_init_57 rfl (lv_at hl 0 rfl) ?_
  refine lv_bipush (v := 32) b.1 b.2.1 dX5_init_58 (by decide) ?_
  have t72 := tg_sR eh71 t64
  have t73 := tg_sR eh71 t65
  have t74 := tg_sR eh71 t66
  have t75 := tg_sR eh71 t67
  have t76 := tg_sR eh71 t68
  have t77 := tg_sR eh71 t69
  have t78 := tg_sR eh71 t70
  obtain ⟨h81, eh81, hf⟩ := oL_s hf
  obtain ⟨i79, j80, ei79, ej80, hf⟩ := oK3_s hf
  have t82 := tg_nA (t := 100) hE eh81 t72
  have t83 := tg_nA (t := 5) hE eh81 t73
  have t84 := tg_nA (t := 99) hE eh81 t74
  have t85 := tg_nA (t := 100) hE eh81 t75
  have t86 := tg_nA (t := 100) hE eh81 t76
  have t87 := tg_nA (t := 100) hE eh81 t77
  have t88 := tg_nA (t := 100) hE eh81 t78
  have t89 := tg_nA0 eh81
  refine q_newa1 b hE (in1 147 rfl rfl) (by decide) (by decide) (le_room hk ei79) (le_room hs ej80) eh81 dX5_init_60 (fun H hE => ?_)
  have hk := le_step hk ei79
  have hs := le_step hs ej80
  obtain ⟨h90, eh90, hf⟩ := oL_s hf
  refine pX5_31 (x := (some x0)) (v := (some (hZ h71))) b hE rfl t83 eh90 dX5_init_62 (fun H locs hE => ?_)
  refine lv_aload_n b.1 b.2.1 dX5_init_65 rfl (lv_at hl 0 rfl) ?_
  refine lv_bipush (v := 32) b.1 b.2.1 dX5_init_66 (by decide) ?_
  have t91 := tg_sR eh90 t82
  have t92 := tg_sR eh90 t83
  have t93 := tg_sR eh90 t84
  have t94 := tg_sR eh90 t85
  have t95 := tg_sR eh90 t86
  have t96 := tg_sR eh90 t87
  have t97 := tg_sR eh90 t88
  have t98 := tg_sR eh90 t89
  obtain ⟨h101, eh101, hf⟩ := oL_s hf
  obtain ⟨i99, j100, ei99, ej100, hf⟩ := oK3_s hf
  have t102 := tg_nA (t := 100) hE eh101 t91
  have t103 := tg_nA (t := 5) hE eh101 t92
  have t104 := tg_nA (t := 99) hE eh101 t93
  have t105 := tg_nA (t := 100) hE eh101 t94
  have t106 := tg_nA (t := 100) hE eh101 t95
  have t107 := tg_nA (t := 100) hE eh101 t96
  have t108 := tg_nA (t := 100) hE eh101 t97
  have t109 := tg_nA (t := 100) hE eh101 t98
  have t110 := tg_nA0 eh101
  refine q_newa1 b hE (in1 147 rfl rfl) (by decide) (by decide) (le_room hk ei99) (le_room hs ej100) eh101 dX5_init_68 (fun H hE => ?_)
  have hk := le_step hk ei99
  have hs := le_step hs ej100
  obtain ⟨h111, eh111, hf⟩ := oL_s hf
  refine pX5_34 (x := (some x0)) (v := (some (hZ h90))) b hE rfl t103 eh111 dX5_init_70 (fun H locs hE => ?_)
  refine lv_aload_n b.1 b.2.1 dX5_init_73 rfl (lv_at hl 0 rfl) ?_
  refine lv_bipush (v := 32) b.1 b.2.1 dX5_init_74 (by decide) ?_
  have t112 := tg_sR eh111 t102
  have t113 := tg_sR eh111 t103
  have t114 := tg_sR eh111 t104
  have t115 := tg_sR eh111 t105
  have t116 := tg_sR eh111 t106
  have t117 := tg_sR eh111 t107
  have t118 := tg_sR eh111 t108
  have t119 := tg_sR eh111 t109
  have t120 := tg_sR eh111 t110
  obtain ⟨h123, eh123, hf⟩ := oL_s hf
  obtain ⟨i121, j122, ei121, ej122, hf⟩ := oK3_s hf
  have t124 := tg_nA (t := 100) hE eh123 t112
  have t125 := tg_nA (t := 5) hE eh123 t113
  have t126 := tg_nA (t := 99) hE eh123 t114
  have t127 := tg_nA (t := 100) hE eh123 t115
  have t128 := tg_nA (t := 100) hE eh123 t116
  have t129 := tg_nA (t := 100) hE eh123 t117
  have t130 := tg_nA (t := 100) hE eh123 t118
  have t131 := tg_nA (t := 100) hE eh123 t119
  have t132 := tg_nA (t := 100) hE eh123 t120
  have t133 := tg_nA0 eh123
  refine q_newa0 b hE (in1 45 rfl rfl) (by decide) (by decide) (le_room hk ei121) (le_room hs ej122) eh123 dX5_init_76 (fun H hE => ?_)
  have hk := le_step hk ei121
  have hs := le_step hs ej122
  obtain ⟨h134, eh134, hf⟩ := oL_s hf
  refine pX5_37 (x := (some x0)) (v := (some (hZ h111))) b hE rfl t125 eh134 dX5_init_78 (fun H locs hE => ?_)
  refine lv_aload_n b.1 b.2.1 dX5_init_81 rfl (lv_at hl 0 rfl) ?_
  refine lv_iconst (v := 4) b.1 b.2.1 dX5_init_82 (by decide) ?_
  have t135 := tg_sR eh134 t124
  have t136 := tg_sR eh134 t125
  have t137 := tg_sR eh134 t126
  have t138 := tg_sR eh134 t127
  have t139 := tg_sR eh134 t128
  have t140 := tg_sR eh134 t129
  have t141 := tg_sR eh134 t130
  have t142 := tg_sR eh134 t131
  have t143 := tg_sR eh134 t132
  have t144 := tg_sR eh134 t133
  obtain ⟨h147, eh147, hf⟩ := oL_s hf
  obtain ⟨i145, j146, ei145, ej146, hf⟩ := oK3_s hf
  have t148 := tg_nA (t := 100) hE eh147 t135
  have t149 := tg_nA (t := 5) hE eh147 t136
  have t150 := tg_nA (t := 99) hE eh147 t137
  have t151 := tg_nA (t := 100) hE eh147 t138
  have t152 := tg_nA (t := 100) hE eh147 t139
  have t153 := tg_nA (t := 100) hE eh147 t140
  have t154 := tg_nA (t := 100) hE eh147 t141
  have t155 := tg_nA (t := 100) hE eh147 t142
  have t156 := tg_nA (t := 100) hE eh147 t143
  have t157 := tg_nA (t := 99) hE eh147 t144
  have t158 := tg_nA0 eh147
  refine q_newa1 b hE (in1 147 rfl rfl) (by decide) (by decide) (le_room hk ei145) (le_room hs ej146) eh147 dX5_init_83 (fun H hE => ?_)
  have hk := le_step hk ei145
  have hs := le_step hs ej146
  obtain ⟨h159, eh159, hf⟩ := oL_s hf
  refine pX5_40 (x := (some x0)) (v := (some (hZ h134))) b hin2 hE rfl t149 eh159 dX5_init_85 (fun H locs hE => ?_)
  refine lv_aload_n b.1 b.2.1 dX5_init_88 rfl (lv_at hl 0 rfl) ?_
  refine lv_bipush (v := 20) b.1 b.2.1 dX5_init_89 (by decide) ?_
  have t160 := tg_sR eh159 t148
  have t161 := tg_sR eh159 t149
  have t162 := tg_sR eh159 t150
  have t163 := tg_sR eh159 t151
  have t164 := tg_sR eh159 t152
  have t165 := tg_sR eh159 t153
  have t166 := tg_sR eh159 t154
  have t167 := tg_sR eh159 t155
  have t168 := tg_sR eh159 t156
  have t169 := tg_sR eh159 t157
  have t170 := tg_sR eh159 t158
  obtain ⟨h173, eh173, hf⟩ := oL_s hf
  obtain ⟨i171, j172, ei171, ej172, hf⟩ := oK3_s hf
  have t174 := tg_nA (t := 100) hE eh173 t160
  have t175 := tg_nA (t := 5) hE eh173 t161
  have t176 := tg_nA (t := 99) hE eh173 t162
  have t177 := tg_nA (t := 100) hE eh173 t163
  have t178 := tg_nA (t := 100) hE eh173 t164
  have t179 := tg_nA (t := 100) hE eh173 t165
  have t180 := tg_nA (t := 100) hE eh173 t166
  have t181 := tg_nA (t := 100) hE eh173 t167
  have t182 := tg_nA (t := 100) hE eh173 t168
  have t183 := tg_nA (t := 99) hE eh173 t169
  have t184 := tg_nA (t := 100) hE eh173 t170
  have t185 := tg_nA0 eh173
  refine q_newa1 b hE (in1 147 rfl rfl) (by decide) (by decide) (le_room hk ei171) (le_room hs ej172) eh173 dX5_init_91 (fun H hE => ?_)
  have hk := le_step hk ei171
  have hs := le_step hs ej172
  obtain ⟨h186, eh186, hf⟩ := oL_s hf
  refine pX5_43 (x := (some x0)) (v := (some (hZ h159))) b hin2 hE rfl t175 eh186 dX5_init_93 (fun H locs hE => ?_)
  refine lv_aload_n b.1 b.2.1 dX5_init_96 rfl (lv_at hl 0 rfl) ?_
  refine lv_bipush (v := 40) b.1 b.2.1 dX5_init_97 (by decide) ?_
  have t187 := tg_sR eh186 t174
  have t188 := tg_sR eh186 t175
  have t189 := tg_sR eh186 t176
  have t190 := tg_sR eh186 t177
  have t191 := tg_sR eh186 t178
  have t192 := tg_sR eh186 t179
  have t193 := tg_sR eh186 t180
  have t194 := tg_sR eh186 t181
  have t195 := tg_sR eh186 t182
  have t196 := tg_sR eh186 t183
  have t197 := tg_sR eh186 t184
  have t198 := tg_sR eh186 t185
  obtain ⟨h201, eh201, hf⟩ := oL_s hf
  obtain ⟨i199, j200, ei199, ej200, hf⟩ := oK3_s hf
  have t202 := tg_nA (t := 100) hE eh201 t187
  have t203 := tg_nA (t := 5) hE eh201 t188
  have t204 := tg_nA (t := 99) hE eh201 t189
  have t205 := tg_nA (t := 100) hE eh201 t190
  have t206 := tg_nA (t := 100) hE eh201 t191
  have t207 := tg_nA (t := 100) hE eh201 t192
  have t208 := tg_nA (t := 100) hE eh201 t193
  have t209 := tg_nA (t := 100) hE eh201 t194
  have t210 := tg_nA (t := 100) hE eh201 t195
  have t211 := tg_nA (t := 99) hE eh201 t196
  have t212 := tg_nA (t := 100) hE eh201 t197
  have t213 := tg_nA (t := 100) hE eh201 t198
  have t214 := tg_nA0 eh201
  refine q_newa2 b hE (in1 74 rfl rfl) (by decide) (by decide) (le_room hk ei199) (le_room hs ej200) eh201 dX5_init_99 (fun H hE => ?_)
  have hk := le_step hk ei199
  have hs := le_step hs ej200
  obtain ⟨h215, eh215, hf⟩ := oL_s hf
  refine pX5_46 (x := (some x0)) (v := (some (hZ h186))) b hin2 hE rfl t203 eh215 dX5_init_101 (fun H locs hE => ?_)
  refine lv_aload_n b.1 b.2.1 dX5_init_104 rfl (lv_at hl 0 rfl) ?_
  refine k_aload_n (x := Option.map ad x1) b dX5_init_105 rfl (lv_at hl 1 rfl) ?_
  have t216 := tg_sR eh215 t203
  obtain ⟨h217, eh217, hf⟩ := oL_s hf
  refine pX5_50 (x := (some x0)) (v := x1) b hin2 hE rfl t216 eh217 dX5_init_106 (fun H locs hE => ?_)
  refine lv_aload_n b.1 b.2.1 dX5_init_109 rfl (lv_at hl 0 rfl) ?_
  have t218 := tg_sR eh215 t202
  have t219 := tg_sR eh217 t218
  have t220 := tg_sR eh217 t216
  have t221 := tg_sR eh215 t204
  have t222 := tg_sR eh217 t221
  have t223 := tg_sR eh215 t205
  have t224 := tg_sR eh217 t223
  have t225 := tg_sR eh215 t206
  have t226 := tg_sR eh217 t225
  have t227 := tg_sR eh215 t207
  have t228 := tg_sR eh217 t227
  have t229 := tg_sR eh215 t208
  have t230 := tg_sR eh217 t229
  have t231 := tg_sR eh215 t209
  have t232 := tg_sR eh217 t231
  have t233 := tg_sR eh215 t210
  have t234 := tg_sR eh217 t233
  have t235 := tg_sR eh215 t211
  have t236 := tg_sR eh217 t235
  have t237 := tg_sR eh215 t212
  have t238 := tg_sR eh217 t237
  have t239 := tg_sR eh215 t213
  have t240 := tg_sR eh217 t239
  have t241 := tg_sR eh215 t214
  have t242 := tg_sR eh217 t241
  obtain ⟨h245, eh245, hf⟩ := oL_s hf
  obtain ⟨i243, j244, ei243, ej244, hf⟩ := oK3_s hf
  have t246 := tg_nO (t := 100) hE eh245 t219
  have t247 := tg_nO (t := 5) hE eh245 t220
  have t248 := tg_nO (t := 99) hE eh245 t222
  have t249 := tg_nO (t := 100) hE eh245 t224
  have t250 := tg_nO (t := 100) hE eh245 t226
  have t251 := tg_nO (t := 100) hE eh245 t228
  have t252 := tg_nO (t := 100) hE eh245 t230
  have t253 := tg_nO (t := 100) hE eh245 t232
  have t254 := tg_nO (t := 100) hE eh245 t234
  have t255 := tg_nO (t := 99) hE eh245 t236
  have t256 := tg_nO (t := 100) hE eh245 t238
  have t257 := tg_nO (t := 100) hE eh245 t240
  have t258 := tg_nO (t := 101) hE eh245 t242
  have t259 := tg_nO0 eh245
  refine nX5_54 b hE (le_room hk ei243) (le_room hs ej244) eh245 dX5_init_110 (fun H hE => ?_)
  have hk := le_step hk ei243
  have hs := le_step hs ej244
  refine lv_dup b.1 b.2.1 dX5_init_113 rfl ?_
  refine k_aload_n (x := Option.map ad x1) b dX5_init_114 rfl (lv_at hl 1 rfl) ?_
  obtain ⟨h261, i262, j263, hc260, hf⟩ := oB3_s hf
  obtain ⟨i264, j265, ei264, ej265, hf⟩ := oK3_s hf
  refine k_callI b zs zk hE (CX6_init l D aC ad zk hc260) mc_X6_init (in4 19 rfl rfl) mi_X6_init ini_RX6 rfl ok_X6_init ⟨Nat.le_of_ble_eq_true rfl, Nat.le_of_ble_eq_true rfl⟩ rfl hl.1 rfl (k_room _ (by exact Nat.le_of_ble_eq_true rfl)) ⟨le_room hk ei264, le_room hs ej265⟩ dX5_init_115 (fun H locs hE => ?_)
  have hk := le_step hk ei264
  have hs := le_step hs ej265
  obtain ⟨t266, hf⟩ := oC_s hf
  have t266 := of_decide_eq_true t266
  obtain ⟨h267, eh267, hf⟩ := oL_s hf
  refine pX5_59 (x := (some x0)) (v := (some (hZ h217))) b hin2 hE rfl t266 eh267 dX5_init_118 (fun H locs hE => ?_)
  cases hf
  exact k_vret b hlk hr hE (le_c hk) (le_c hs) dX5_init_121
def fX5_init (h : PH) (x0 : Nat) (x1 : Option Nat) : Option (PH × Nat × Nat) := fX5_init_0 h x0 x1
set_option maxHeartbeats 4000000 in
theorem CX5_init (l : Launch) (D : va_G) (aC : Nat → ClassId) (ad : Nat → Nat) {Z : State → Prop} (zk : ZOK Z (Rg ad)) {h : PH} {x0 : Nat} {x1 : Option Nat} {hz : PH} {kz : Nat} {mz : Nat} (hf : fX5_init h x0 x1 = some (hz, kz, mz)) : CM l D aC Z yX5_init cX5_init 2 (none) 3 66 kz mz (EX D aC ad h) [.ref (ad x0), va_rf (Option.map ad x1)] (EX D aC ad hz) none (Rg ad) := by
  refine CM.of rfl ?_
  intro p e s m below meth c b hr hlk hin2 zs hE
  cases x1 <;> (
    refine k_ent (Nat.le_of_ble_eq_true rfl) (fun ls hl => ?_)
    exact wfX5_init_0 b hlk hr zs zk hin2 hf (by omega) (by omega) hE (lv_sub hl [0, 1] rfl))
theorem dX5_wordOf_0 : decode cX5_wordOf 0 = .ok (.iload_n 0, 1) := by decide +kernel
theorem dX5_wordOf_1 : decode cX5_wordOf 1 = .ok (.bipush 50, 2) := by decide +kernel
theorem dX5_wordOf_3 : decode cX5_wordOf 3 = .ok (.idiv, 1) := by decide +kernel
theorem dX5_wordOf_4 : decode cX5_wordOf 4 = .ok (.ireturn, 1) := by decide +kernel
def fX5_wordOf_0  (x0 : Int32) : Option (Int32) :=
  some ((x0 / 50))
set_option maxHeartbeats 4000000 in
theorem wfX5_wordOf_0 {E : Heap → Prop} {A : Nat → Prop} {args : Array Value} (b : Bd p s m c cX5_wordOf 1 RX5 D aC) (hlk : meth.locks = false) (hr : meth.sig.returnType = some .int) {Z : State → Prop} (zs : Z s) (zk : ZOK Z A) {rz : Int32} {x0 : Int32}  {H : Heap} {locs : List Loc} {ls : Array Slot} (hf : fX5_wordOf_0 x0 = some rz) (hE : CE E A s H locs) (hl : lv_has ls 1 [(0, .int x0)]) : W p l e (RM 0 0 0 0) s m args below meth c H locs 0 0 (MQ below (PQ E A (some (.int rz))) args s 0 0 A) (F0 m 0 ls []) := by
  unfold fX5_wordOf_0 at hf
  refine lv_iload_n b.1 b.2.1 dX5_wordOf_0 rfl (lv_at hl 0 rfl) ?_
  refine lv_bipush (v := 50) b.1 b.2.1 dX5_wordOf_1 (by decide) ?_
  refine lv_idiv b.1 b.2.1 dX5_wordOf_3 (by decide) ?_
  cases hf
  exact k_iret b hlk hr hE (Nat.le_refl _) (Nat.le_refl _) dX5_wordOf_4
def fX5_wordOf (x0 : Int32) : Option (Int32) := fX5_wordOf_0 x0
set_option maxHeartbeats 4000000 in
theorem CX5_wordOf (l : Launch) (D : va_G) (aC : Nat → ClassId) {E : Heap → Prop} {A : Nat → Prop} {Z : State → Prop} (zk : ZOK Z A) {x0 : Int32} {rz : Int32} (hf : fX5_wordOf x0 = some rz) : CM l D aC Z yX5_wordOf cX5_wordOf 1 (some .int) 0 0 0 0 E [.int x0] E (some (.int rz)) A := by
  refine CM.of rfl ?_
  intro p e s m below meth c b hr hlk hin2 zs hE
  refine k_ent (Nat.le_of_ble_eq_true rfl) (fun ls hl => ?_)
  exact wfX5_wordOf_0 b hlk hr zs zk hf hE (lv_sub hl [0] rfl)
theorem dX5_firstOf_0 : decode cX5_firstOf 0 = .ok (.iload_n 0, 1) := by decide +kernel
theorem dX5_firstOf_1 : decode cX5_firstOf 1 = .ok (.bipush 10, 2) := by decide +kernel
theorem dX5_firstOf_3 : decode cX5_firstOf 3 = .ok (.idiv, 1) := by decide +kernel
theorem dX5_firstOf_4 : decode cX5_firstOf 4 = .ok (.iconst 5, 1) := by decide +kernel
theorem dX5_firstOf_5 : decode cX5_firstOf 5 = .ok (.irem, 1) := by decide +kernel
theorem dX5_firstOf_6 : decode cX5_firstOf 6 = .ok (.ireturn, 1) := by decide +kernel
def fX5_firstOf_0  (x0 : Int32) : Option (Int32) :=
  some (((x0 / 10) - (x0 / 10) / 5 * 5))
set_option maxHeartbeats 4000000 in
theorem wfX5_firstOf_0 {E : Heap → Prop} {A : Nat → Prop} {args : Array Value} (b : Bd p s m c cX5_firstOf 1 RX5 D aC) (hlk : meth.locks = false) (hr : meth.sig.returnType = some .int) {Z : State → Prop} (zs : Z s) (zk : ZOK Z A) {rz : Int32} {x0 : Int32}  {H : Heap} {locs : List Loc} {ls : Array Slot} (hf : fX5_firstOf_0 x0 = some rz) (hE : CE E A s H locs) (hl : lv_has ls 1 [(0, .int x0)]) : W p l e (RM 0 0 0 0) s m args below meth c H locs 0 0 (MQ below (PQ E A (some (.int rz))) args s 0 0 A) (F0 m 0 ls []) := by
  unfold fX5_firstOf_0 at hf
  refine lv_iload_n b.1 b.2.1 dX5_firstOf_0 rfl (lv_at hl 0 rfl) ?_
  refine lv_bipush (v := 10) b.1 b.2.1 dX5_firstOf_1 (by decide) ?_
  refine lv_idiv b.1 b.2.1 dX5_firstOf_3 (by decide) ?_
  refine lv_iconst (v := 5) b.1 b.2.1 dX5_firstOf_4 (by decide) ?_
  refine lv_irem b.1 b.2.1 dX5_firstOf_5 (by decide) ?_
  cases hf
  exact k_iret b hlk hr hE (Nat.le_refl _) (Nat.le_refl _) dX5_firstOf_6
def fX5_firstOf (x0 : Int32) : Option (Int32) := fX5_firstOf_0 x0
set_option maxHeartbeats 4000000 in
theorem CX5_firstOf (l : Launch) (D : va_G) (aC : Nat → ClassId) {E : Heap → Prop} {A : Nat → Prop} {Z : State → Prop} (zk : ZOK Z A) {x0 : Int32} {rz : Int32} (hf : fX5_firstOf x0 = some rz) : CM l D aC Z yX5_firstOf cX5_firstOf 1 (some .int) 0 0 0 0 E [.int x0] E (some (.int rz)) A := by
  refine CM.of rfl ?_
  intro p e s m below meth c b hr hlk hin2 zs hE
  refine k_ent (Nat.le_of_ble_eq_true rfl) (fun ls hl => ?_)
  exact wfX5_firstOf_0 b hlk hr zs zk hf hE (lv_sub hl [0] rfl)
theorem dX5_secondOf_0 : decode cX5_secondOf 0 = .ok (.iload_n 0, 1) := by decide +kernel
theorem dX5_secondOf_1 : decode cX5_secondOf 1 = .ok (.iconst 2, 1) := by decide +kernel
theorem dX5_secondOf_2 : decode cX5_secondOf 2 = .ok (.idiv, 1) := by decide +kernel
theorem dX5_secondOf_3 : decode cX5_secondOf 3 = .ok (.iconst 5, 1) := by decide +kernel
theorem dX5_secondOf_4 : decode cX5_secondOf 4 = .ok (.irem, 1) := by decide +kernel
theorem dX5_secondOf_5 : decode cX5_secondOf 5 = .ok (.ireturn, 1) := by decide +kernel
def fX5_secondOf_0  (x0 : Int32) : Option (Int32) :=
  some (((x0 / 2) - (x0 / 2) / 5 * 5))
set_option maxHeartbeats 4000000 in
theorem wfX5_secondOf_0 {E : Heap → Prop} {A : Nat → Prop} {args : Array Value} (b : Bd p s m c cX5_secondOf 1 RX5 D aC) (hlk : meth.locks = false) (hr : meth.sig.returnType = some .int) {Z : State → Prop} (zs : Z s) (zk : ZOK Z A) {rz : Int32} {x0 : Int32}  {H : Heap} {locs : List Loc} {ls : Array Slot} (hf : fX5_secondOf_0 x0 = some rz) (hE : CE E A s H locs) (hl : lv_has ls 1 [(0, .int x0)]) : W p l e (RM 0 0 0 0) s m args below meth c H locs 0 0 (MQ below (PQ E A (some (.int rz))) args s 0 0 A) (F0 m 0 ls []) := by
  unfold fX5_secondOf_0 at hf
  refine lv_iload_n b.1 b.2.1 dX5_secondOf_0 rfl (lv_at hl 0 rfl) ?_
  refine lv_iconst (v := 2) b.1 b.2.1 dX5_secondOf_1 (by decide) ?_
  refine lv_idiv b.1 b.2.1 dX5_secondOf_2 (by decide) ?_
  refine lv_iconst (v := 5) b.1 b.2.1 dX5_secondOf_3 (by decide) ?_
  refine lv_irem b.1 b.2.1 dX5_secondOf_4 (by decide) ?_
  cases hf
  exact k_iret b hlk hr hE (Nat.le_refl _) (Nat.le_refl _) dX5_secondOf_5
def fX5_secondOf (x0 : Int32) : Option (Int32) := fX5_secondOf_0 x0
set_option maxHeartbeats 4000000 in
theorem CX5_secondOf (l : Launch) (D : va_G) (aC : Nat → ClassId) {E : Heap → Prop} {A : Nat → Prop} {Z : State → Prop} (zk : ZOK Z A) {x0 : Int32} {rz : Int32} (hf : fX5_secondOf x0 = some rz) : CM l D aC Z yX5_secondOf cX5_secondOf 1 (some .int) 0 0 0 0 E [.int x0] E (some (.int rz)) A := by
  refine CM.of rfl ?_
  intro p e s m below meth c b hr hlk hin2 zs hE
  refine k_ent (Nat.le_of_ble_eq_true rfl) (fun ls hl => ?_)
  exact wfX5_secondOf_0 b hlk hr zs zk hf hE (lv_sub hl [0] rfl)
end
