section
variable {p : Program} {l : Launch} {e : Env} {s : State} {m : MethodId} {below : List Frame} {meth : Method} {c : Code} {D : va_G} {aC : Nat → ClassId} {ad : Nat → Nat}
theorem dX4_noteRule_0 : decode cX4_noteRule 0 = .ok (.iload_n 1, 1) := by decide +kernel
theorem dX4_noteRule_1 : decode cX4_noteRule 1 = .ok (.iconst (-1), 1) := by decide +kernel
theorem dX4_noteRule_2 : decode cX4_noteRule 2 = .ok (.if_icmp .ne 12, 3) := by decide +kernel
theorem dX4_noteRule_5 : decode cX4_noteRule 5 = .ok (.aload_n 0, 1) := by decide +kernel
theorem dX4_noteRule_6 : decode cX4_noteRule 6 = .ok (.iconst 4, 1) := by decide +kernel
theorem dX4_noteRule_7 : decode cX4_noteRule 7 = .ok (.iload_n 2, 1) := by decide +kernel
theorem dX4_noteRule_8 : decode cX4_noteRule 8 = .ok (.invokevirtual 166, 3) := by decide +kernel
theorem dX4_noteRule_11 : decode cX4_noteRule 11 = .ok (.goto 20, 3) := by decide +kernel
theorem dX4_noteRule_14 : decode cX4_noteRule 14 = .ok (.aload_n 0, 1) := by decide +kernel
theorem dX4_noteRule_15 : decode cX4_noteRule 15 = .ok (.getfield 25, 3) := by decide +kernel
theorem dX4_noteRule_18 : decode cX4_noteRule 18 = .ok (.iload_n 1, 1) := by decide +kernel
theorem dX4_noteRule_19 : decode cX4_noteRule 19 = .ok (.invokevirtual 218, 3) := by decide +kernel
theorem dX4_noteRule_22 : decode cX4_noteRule 22 = .ok (.ifCond .ne 9, 3) := by decide +kernel
theorem dX4_noteRule_25 : decode cX4_noteRule 25 = .ok (.aload_n 0, 1) := by decide +kernel
theorem dX4_noteRule_26 : decode cX4_noteRule 26 = .ok (.iconst 5, 1) := by decide +kernel
theorem dX4_noteRule_27 : decode cX4_noteRule 27 = .ok (.iload_n 2, 1) := by decide +kernel
theorem dX4_noteRule_28 : decode cX4_noteRule 28 = .ok (.invokevirtual 166, 3) := by decide +kernel
theorem dX4_noteRule_31 : decode cX4_noteRule 31 = .ok (.return_, 1) := by decide +kernel
def fX4_noteRule_0  (h : PH) (x0 : Nat) (x1 : Int32) (x2 : Int32) : Option (PH) :=
  if x1 = (-1) then (oC (decide (hT h x0 = 5)) (oB (fX4_note h x0 4 x2) (fun h12 => some (h12)))) else (oC (decide (hT h x0 = 5)) (oN (hR h 512 x0) (fun a3 => oC (decide (hT h a3 = 2)) (oB (fX1_isRanked h a3 x1) (fun r6 => if r6 = 0 then (oB (fX4_note h x0 5 x2) (fun h9 => some (h9))) else (some (h)))))))
set_option maxHeartbeats 4000000 in
theorem wfX4_noteRule_0 {args : Array Value} (b : Bd p s m c cX4_noteRule 3 RX4 D aC) (hlk : meth.locks = false) (hr : meth.sig.returnType = none) {Z : State → Prop} (zs : Z s) (zk : ZOK Z (Rg ad)) {hz : PH} {h : PH} {x0 : Nat} {x1 : Int32} {x2 : Int32}  {H : Heap} {locs : List Loc} {ls : Array Slot} (hf : fX4_noteRule_0 h x0 x1 x2 = some hz) (hE : CE (EX D aC ad h) (Rg ad) s H locs) (hl : lv_has ls 3 [(0, .ref (ad x0)), (1, .int x1), (2, .int x2)]) : W p l e (RM 2 43 0 0) s m args below meth c H locs 0 0 (MQ below (PQ (EX D aC ad hz) (Rg ad) none) args s 0 0 (Rg ad)) (F0 m 0 ls []) := by
  unfold fX4_noteRule_0 at hf
  refine lv_iload_n b.1 b.2.1 dX4_noteRule_0 rfl (lv_at hl 1 rfl) ?_
  refine lv_iconst (v := (-1)) b.1 b.2.1 dX4_noteRule_1 (by decide) ?_
  refine lv_icmp_ne (tgt := 14) b.1 b.2.1 dX4_noteRule_2 (by decide) (fun c1 => ?_) (fun c1 => ?_)
  · have hf := oI_f c1 hf
    refine lv_aload_n b.1 b.2.1 dX4_noteRule_14 rfl (lv_at hl 0 rfl) ?_
    obtain ⟨t2, hf⟩ := oC_s hf
    have t2 := of_decide_eq_true t2
    refine gX4_25 (x := (some x0)) b hE rfl t2 dX4_noteRule_15 ?_
    refine lv_iload_n b.1 b.2.1 dX4_noteRule_18 rfl (lv_at hl 1 rfl) ?_
    obtain ⟨a3, ea3, hf⟩ := oN_s hf
    obtain ⟨t4, hf⟩ := oC_s hf
    have t4 := of_decide_eq_true t4
    obtain ⟨r6, hc5, hf⟩ := oB_s hf
    refine k_stk [.int x1] ea3 ?_
    refine k_callV0 (C := RX1) b zs zk hE (CX1_isRanked l D aC ad zk hc5) mc_X1_isRanked (in3 171 rfl rfl) mi_X1_isRanked ms_X1_isRanked ini_RX1 ok_X1_isRanked (x_recv b hE (ci := 1) rfl (by decide) t4) ⟨Nat.le_of_ble_eq_true rfl, Nat.le_of_ble_eq_true rfl⟩ rfl hl.1 rfl (k_room _ (by exact Nat.le_of_ble_eq_true rfl)) ⟨Nat.le_refl _, Nat.le_refl _⟩ dX4_noteRule_19 (fun H locs hE => ?_)
    refine lv_if_ne (tgt := 31) b.1 b.2.1 dX4_noteRule_22 (by decide) (fun c7 => ?_) (fun c7 => ?_)
    · have hf := oI_f c7 hf
      cases hf
      exact k_vret b hlk hr hE (Nat.le_refl _) (Nat.le_refl _) dX4_noteRule_31
    · have hf := oI_t c7 hf
      refine lv_aload_n b.1 b.2.1 dX4_noteRule_25 rfl (lv_at hl 0 rfl) ?_
      refine lv_iconst (v := 5) b.1 b.2.1 dX4_noteRule_26 (by decide) ?_
      refine lv_iload_n b.1 b.2.1 dX4_noteRule_27 rfl (lv_at hl 2 rfl) ?_
      obtain ⟨h9, hc8, hf⟩ := oB_s hf
      refine k_callV0 (C := RX4) b zs zk hE (CX4_note l D aC ad zk hc8) mc_X4_note (in2 199 rfl rfl) mi_X4_note ms_X4_note ini_RX4 ok_X4_note (x_recv b hE (ci := 4) rfl (by decide) t2) ⟨Nat.le_of_ble_eq_true rfl, Nat.le_of_ble_eq_true rfl⟩ rfl hl.1 rfl (k_room _ (by exact Nat.le_of_ble_eq_true rfl)) ⟨Nat.le_refl _, Nat.le_refl _⟩ dX4_noteRule_28 (fun H locs hE => ?_)
      cases hf
      exact k_vret b hlk hr hE (Nat.le_refl _) (Nat.le_refl _) dX4_noteRule_31
  · have hf := oI_t c1 hf
    refine lv_aload_n b.1 b.2.1 dX4_noteRule_5 rfl (lv_at hl 0 rfl) ?_
    refine lv_iconst (v := 4) b.1 b.2.1 dX4_noteRule_6 (by decide) ?_
    refine lv_iload_n b.1 b.2.1 dX4_noteRule_7 rfl (lv_at hl 2 rfl) ?_
    obtain ⟨t10, hf⟩ := oC_s hf
    have t10 := of_decide_eq_true t10
    obtain ⟨h12, hc11, hf⟩ := oB_s hf
    refine k_callV0 (C := RX4) b zs zk hE (CX4_note l D aC ad zk hc11) mc_X4_note (in2 199 rfl rfl) mi_X4_note ms_X4_note ini_RX4 ok_X4_note (x_recv b hE (ci := 4) rfl (by decide) t10) ⟨Nat.le_of_ble_eq_true rfl, Nat.le_of_ble_eq_true rfl⟩ rfl hl.1 rfl (k_room _ (by exact Nat.le_of_ble_eq_true rfl)) ⟨Nat.le_refl _, Nat.le_refl _⟩ dX4_noteRule_8 (fun H locs hE => ?_)
    refine lv_goto (tgt := 31) b.1 b.2.1 dX4_noteRule_11 (by decide) ?_
    cases hf
    exact k_vret b hlk hr hE (Nat.le_refl _) (Nat.le_refl _) dX4_noteRule_31
def fX4_noteRule (h : PH) (x0 : Nat) (x1 : Int32) (x2 : Int32) : Option (PH) := fX4_noteRule_0 h x0 x1 x2
set_option maxHeartbeats 4000000 in
theorem CX4_noteRule (l : Launch) (D : va_G) (aC : Nat → ClassId) (ad : Nat → Nat) {Z : State → Prop} (zk : ZOK Z (Rg ad)) {h : PH} {x0 : Nat} {x1 : Int32} {x2 : Int32} {hz : PH} (hf : fX4_noteRule h x0 x1 x2 = some hz) : CM l D aC Z yX4_noteRule cX4_noteRule 3 (none) 2 43 0 0 (EX D aC ad h) [.ref (ad x0), .int x1, .int x2] (EX D aC ad hz) none (Rg ad) := by
  refine CM.of rfl ?_
  intro p e s m below meth c b hr hlk hin2 zs hE
  refine k_ent (Nat.le_of_ble_eq_true rfl) (fun ls hl => ?_)
  exact wfX4_noteRule_0 b hlk hr zs zk hf hE (lv_sub hl [0, 1, 2] rfl)
theorem dX4_resolveOver_0 : decode cX4_resolveOver 0 = .ok (.aload_n 0, 1) := by decide +kernel
theorem dX4_resolveOver_1 : decode cX4_resolveOver 1 = .ok (.getfield 25, 3) := by decide +kernel
theorem dX4_resolveOver_4 : decode cX4_resolveOver 4 = .ok (.getfield 95, 3) := by decide +kernel
theorem dX4_resolveOver_7 : decode cX4_resolveOver 7 = .ok (.aload_n 0, 1) := by decide +kernel
theorem dX4_resolveOver_8 : decode cX4_resolveOver 8 = .ok (.getfield 12, 3) := by decide +kernel
theorem dX4_resolveOver_11 : decode cX4_resolveOver 11 = .ok (.iload_n 1, 1) := by decide +kernel
theorem dX4_resolveOver_12 : decode cX4_resolveOver 12 = .ok (.invokevirtual 204, 3) := by decide +kernel
theorem dX4_resolveOver_15 : decode cX4_resolveOver 15 = .ok (.invokevirtual 176, 3) := by decide +kernel
theorem dX4_resolveOver_18 : decode cX4_resolveOver 18 = .ok (.istore_n 2, 1) := by decide +kernel
theorem dX4_resolveOver_19 : decode cX4_resolveOver 19 = .ok (.aload_n 0, 1) := by decide +kernel
theorem dX4_resolveOver_20 : decode cX4_resolveOver 20 = .ok (.getfield 25, 3) := by decide +kernel
theorem dX4_resolveOver_23 : decode cX4_resolveOver 23 = .ok (.getfield 95, 3) := by decide +kernel
theorem dX4_resolveOver_26 : decode cX4_resolveOver 26 = .ok (.aload_n 0, 1) := by decide +kernel
theorem dX4_resolveOver_27 : decode cX4_resolveOver 27 = .ok (.getfield 12, 3) := by decide +kernel
theorem dX4_resolveOver_30 : decode cX4_resolveOver 30 = .ok (.iload_n 1, 1) := by decide +kernel
theorem dX4_resolveOver_31 : decode cX4_resolveOver 31 = .ok (.iconst 1, 1) := by decide +kernel
theorem dX4_resolveOver_32 : decode cX4_resolveOver 32 = .ok (.iadd, 1) := by decide +kernel
theorem dX4_resolveOver_33 : decode cX4_resolveOver 33 = .ok (.invokevirtual 204, 3) := by decide +kernel
theorem dX4_resolveOver_36 : decode cX4_resolveOver 36 = .ok (.invokevirtual 176, 3) := by decide +kernel
theorem dX4_resolveOver_39 : decode cX4_resolveOver 39 = .ok (.istore_n 3, 1) := by decide +kernel
theorem dX4_resolveOver_40 : decode cX4_resolveOver 40 = .ok (.aload_n 0, 1) := by decide +kernel
theorem dX4_resolveOver_41 : decode cX4_resolveOver 41 = .ok (.iload_n 2, 1) := by decide +kernel
theorem dX4_resolveOver_42 : decode cX4_resolveOver 42 = .ok (.aload_n 0, 1) := by decide +kernel
theorem dX4_resolveOver_43 : decode cX4_resolveOver 43 = .ok (.getfield 12, 3) := by decide +kernel
theorem dX4_resolveOver_46 : decode cX4_resolveOver 46 = .ok (.iload_n 1, 1) := by decide +kernel
theorem dX4_resolveOver_47 : decode cX4_resolveOver 47 = .ok (.invokevirtual 208, 3) := by decide +kernel
theorem dX4_resolveOver_50 : decode cX4_resolveOver 50 = .ok (.invokevirtual 212, 3) := by decide +kernel
theorem dX4_resolveOver_53 : decode cX4_resolveOver 53 = .ok (.aload_n 0, 1) := by decide +kernel
theorem dX4_resolveOver_54 : decode cX4_resolveOver 54 = .ok (.iload_n 3, 1) := by decide +kernel
theorem dX4_resolveOver_55 : decode cX4_resolveOver 55 = .ok (.aload_n 0, 1) := by decide +kernel
theorem dX4_resolveOver_56 : decode cX4_resolveOver 56 = .ok (.getfield 12, 3) := by decide +kernel
theorem dX4_resolveOver_59 : decode cX4_resolveOver 59 = .ok (.iload_n 1, 1) := by decide +kernel
theorem dX4_resolveOver_60 : decode cX4_resolveOver 60 = .ok (.iconst 1, 1) := by decide +kernel
theorem dX4_resolveOver_61 : decode cX4_resolveOver 61 = .ok (.iadd, 1) := by decide +kernel
theorem dX4_resolveOver_62 : decode cX4_resolveOver 62 = .ok (.invokevirtual 208, 3) := by decide +kernel
theorem dX4_resolveOver_65 : decode cX4_resolveOver 65 = .ok (.invokevirtual 212, 3) := by decide +kernel
theorem dX4_resolveOver_68 : decode cX4_resolveOver 68 = .ok (.iload_n 2, 1) := by decide +kernel
theorem dX4_resolveOver_69 : decode cX4_resolveOver 69 = .ok (.iload_n 3, 1) := by decide +kernel
theorem dX4_resolveOver_70 : decode cX4_resolveOver 70 = .ok (.if_icmp .ne 23, 3) := by decide +kernel
theorem dX4_resolveOver_73 : decode cX4_resolveOver 73 = .ok (.iload_n 2, 1) := by decide +kernel
theorem dX4_resolveOver_74 : decode cX4_resolveOver 74 = .ok (.iconst (-1), 1) := by decide +kernel
theorem dX4_resolveOver_75 : decode cX4_resolveOver 75 = .ok (.if_icmp .eq 18, 3) := by decide +kernel
theorem dX4_resolveOver_78 : decode cX4_resolveOver 78 = .ok (.aload_n 0, 1) := by decide +kernel
theorem dX4_resolveOver_79 : decode cX4_resolveOver 79 = .ok (.iconst 5, 1) := by decide +kernel
theorem dX4_resolveOver_80 : decode cX4_resolveOver 80 = .ok (.aload_n 0, 1) := by decide +kernel
theorem dX4_resolveOver_81 : decode cX4_resolveOver 81 = .ok (.getfield 12, 3) := by decide +kernel
theorem dX4_resolveOver_84 : decode cX4_resolveOver 84 = .ok (.iload_n 1, 1) := by decide +kernel
theorem dX4_resolveOver_85 : decode cX4_resolveOver 85 = .ok (.iconst 1, 1) := by decide +kernel
theorem dX4_resolveOver_86 : decode cX4_resolveOver 86 = .ok (.iadd, 1) := by decide +kernel
theorem dX4_resolveOver_87 : decode cX4_resolveOver 87 = .ok (.invokevirtual 208, 3) := by decide +kernel
theorem dX4_resolveOver_90 : decode cX4_resolveOver 90 = .ok (.invokevirtual 166, 3) := by decide +kernel
theorem dX4_resolveOver_93 : decode cX4_resolveOver 93 = .ok (.aload_n 0, 1) := by decide +kernel
theorem dX4_resolveOver_94 : decode cX4_resolveOver 94 = .ok (.getfield 25, 3) := by decide +kernel
theorem dX4_resolveOver_97 : decode cX4_resolveOver 97 = .ok (.iload_n 2, 1) := by decide +kernel
theorem dX4_resolveOver_98 : decode cX4_resolveOver 98 = .ok (.iload_n 3, 1) := by decide +kernel
theorem dX4_resolveOver_99 : decode cX4_resolveOver 99 = .ok (.invokevirtual 215, 3) := by decide +kernel
theorem dX4_resolveOver_102 : decode cX4_resolveOver 102 = .ok (.return_, 1) := by decide +kernel
def fX4_resolveOver_93  (h : PH) (x0 : Nat) (x2 : Int32) (x3 : Int32) : Option (PH) :=
  oC (decide (hT h x0 = 5)) (oN (hR h 512 x0) (fun a2 => oC (decide (hT h a2 = 2)) (oB (fX1_addOver h a2 x2 x3) (fun h5 => some (h5)))))
set_option maxHeartbeats 4000000 in
theorem wfX4_resolveOver_93 {args : Array Value} (b : Bd p s m c cX4_resolveOver 4 RX4 D aC) (hlk : meth.locks = false) (hr : meth.sig.returnType = none) {Z : State → Prop} (zs : Z s) (zk : ZOK Z (Rg ad)) {hz : PH} {h : PH} {x0 : Nat} {x2 : Int32} {x3 : Int32}  {H : Heap} {locs : List Loc} {ls : Array Slot} (hf : fX4_resolveOver_93 h x0 x2 x3 = some hz) (hE : CE (EX D aC ad h) (Rg ad) s H locs) (hl : lv_has ls 4 [(0, .ref (ad x0)), (2, .int x2), (3, .int x3)]) : W p l e (RM 3 65 0 0) s m args below meth c H locs 0 0 (MQ below (PQ (EX D aC ad hz) (Rg ad) none) args s 0 0 (Rg ad)) (F0 m 93 ls []) := by
  unfold fX4_resolveOver_93 at hf
  refine lv_aload_n b.1 b.2.1 dX4_resolveOver_93 rfl (lv_at hl 0 rfl) ?_
  obtain ⟨t1, hf⟩ := oC_s hf
  have t1 := of_decide_eq_true t1
  refine gX4_25 (x := (some x0)) b hE rfl t1 dX4_resolveOver_94 ?_
  refine lv_iload_n b.1 b.2.1 dX4_resolveOver_97 rfl (lv_at hl 1 rfl) ?_
  refine lv_iload_n b.1 b.2.1 dX4_resolveOver_98 rfl (lv_at hl 2 rfl) ?_
  obtain ⟨a2, ea2, hf⟩ := oN_s hf
  obtain ⟨t3, hf⟩ := oC_s hf
  have t3 := of_decide_eq_true t3
  obtain ⟨h5, hc4, hf⟩ := oB_s hf
  refine k_stk [.int x3, .int x2] ea2 ?_
  refine k_callV0 (C := RX1) b zs zk hE (CX1_addOver l D aC ad zk hc4) mc_X1_addOver (in3 179 rfl rfl) mi_X1_addOver ms_X1_addOver ini_RX1 ok_X1_addOver (x_recv b hE (ci := 1) rfl (by decide) t3) ⟨Nat.le_of_ble_eq_true rfl, Nat.le_of_ble_eq_true rfl⟩ rfl hl.1 rfl (k_room _ (by exact Nat.le_of_ble_eq_true rfl)) ⟨Nat.le_refl _, Nat.le_refl _⟩ dX4_resolveOver_99 (fun H locs hE => ?_)
  cases hf
  exact k_vret b hlk hr hE (Nat.le_refl _) (Nat.le_refl _) dX4_resolveOver_102
def fX4_resolveOver_0  (h : PH) (x0 : Nat) (x1 : Int32) : Option (PH) :=
  oC (decide (hT h x0 = 5)) (oN (hR h 512 x0) (fun a7 => oC (decide (hT h a7 = 2)) (oN (hR h 513 x0) (fun a9 => oC (decide (hT h a9 = 11)) (oB (fX10_valueAt h a9 x1) (fun r12 => oN (hR h 132 a7) (fun a13 => oC (decide (hT h a13 = 8)) (oB (fX7_find h a13 r12) (fun r16 => oB (fX10_valueAt h a9 (x1 + 1)) (fun r18 => oB (fX7_find h a13 r18) (fun r20 => oB (fX10_startAt h a9 x1) (fun r22 => oB (fX4_noteRule h x0 r16 r22) (fun h24 => oC (decide (hT h24 x0 = 5)) (oN (hR h24 513 x0) (fun a26 => oC (decide (hT h24 a26 = 11)) (oB (fX10_startAt h24 a26 (x1 + 1)) (fun r29 => oB (fX4_noteRule h24 x0 r20 r29) (fun h31 => if r16 = r20 then (if r16 = (-1) then (fX4_resolveOver_93  h31 x0 r16 r20) else (oC (decide (hT h31 x0 = 5)) (oN (hR h31 513 x0) (fun a35 => oC (decide (hT h31 a35 = 11)) (oB (fX10_startAt h31 a35 (x1 + 1)) (fun r38 => oB (fX4_note h31 x0 5 r38) (fun h40 => fX4_resolveOver_93  h40 x0 r16 r20))))))) else (fX4_resolveOver_93  h31 x0 r16 r20)))))))))))))))))))
set_option maxHeartbeats 4000000 in
theorem wfX4_resolveOver_0 {args : Array Value} (b : Bd p s m c cX4_resolveOver 4 RX4 D aC) (hlk : meth.locks = false) (hr : meth.sig.returnType = none) {Z : State → Prop} (zs : Z s) (zk : ZOK Z (Rg ad)) {hz : PH} {h : PH} {x0 : Nat} {x1 : Int32}  {H : Heap} {locs : List Loc} {ls : Array Slot} (hf : fX4_resolveOver_0 h x0 x1 = some hz) (hE : CE (EX D aC ad h) (Rg ad) s H locs) (hl : lv_has ls 4 [(0, .ref (ad x0)), (1, .int x1)]) : W p l e (RM 3 65 0 0) s m args below meth c H locs 0 0 (MQ below (PQ (EX D aC ad hz) (Rg ad) none) args s 0 0 (Rg ad)) (F0 m 0 ls []) := by
  unfold fX4_resolveOver_0 at hf
  refine lv_aload_n b.1 b.2.1 dX4_resolveOver_0 rfl (lv_at hl 0 rfl) ?_
  obtain ⟨t6, hf⟩ := oC_s hf
  have t6 := of_decide_eq_true t6
  refine gX4_25 (x := (some x0)) b hE rfl t6 dX4_resolveOver_1 ?_
  obtain ⟨a7, ea7, hf⟩ := oN_s hf
  obtain ⟨t8, hf⟩ := oC_s hf
  have t8 := of_decide_eq_true t8
  refine gX4_95 (x := (hR h 512 x0)) b hE ea7 t8 dX4_resolveOver_4 ?_
  refine lv_aload_n b.1 b.2.1 dX4_resolveOver_7 rfl (lv_at hl 0 rfl) ?_
  refine gX4_12 (x := (some x0)) b hE rfl t6 dX4_resolveOver_8 ?_
  refine lv_iload_n b.1 b.2.1 dX4_resolveOver_11 rfl (lv_at hl 1 rfl) ?_
  obtain ⟨a9, ea9, hf⟩ := oN_s hf
  obtain ⟨t10, hf⟩ := oC_s hf
  have t10 := of_decide_eq_true t10
  obtain ⟨r12, hc11, hf⟩ := oB_s hf
  refine k_stk [.int x1] ea9 ?_
  refine k_callV0 (C := RX10) b zs zk hE (CX10_valueAt l D aC ad zk hc11) mc_X10_valueAt (in3 159 rfl rfl) mi_X10_valueAt ms_X10_valueAt ini_RX10 ok_X10_valueAt (x_recv b hE (ci := 10) rfl (by decide) t10) ⟨Nat.le_of_ble_eq_true rfl, Nat.le_of_ble_eq_true rfl⟩ rfl hl.1 rfl (k_room _ (by exact Nat.le_of_ble_eq_true rfl)) ⟨Nat.le_refl _, Nat.le_refl _⟩ dX4_resolveOver_12 (fun H locs hE => ?_)
  obtain ⟨a13, ea13, hf⟩ := oN_s hf
  obtain ⟨t14, hf⟩ := oC_s hf
  have t14 := of_decide_eq_true t14
  obtain ⟨r16, hc15, hf⟩ := oB_s hf
  refine k_stk [.long r12] ea13 ?_
  refine k_callV0 (C := RX7) b zs zk hE (CX7_find l D aC ad zk hc15) mc_X7_find (in2 195 rfl rfl) mi_X7_find ms_X7_find ini_RX7 ok_X7_find (x_recv b hE (ci := 7) rfl (by decide) t14) ⟨Nat.le_of_ble_eq_true rfl, Nat.le_of_ble_eq_true rfl⟩ rfl hl.1 rfl (k_room _ (by exact Nat.le_of_ble_eq_true rfl)) ⟨Nat.le_refl _, Nat.le_refl _⟩ dX4_resolveOver_15 (fun H locs hE => ?_)
  refine lv_istore_n (lv' := [(2, .int r16), (0, .ref (ad x0)), (1, .int x1)]) b.1 b.2.1 dX4_resolveOver_18 rfl hl (by decide) rfl (fun ls hl => ?_)
  refine lv_aload_n b.1 b.2.1 dX4_resolveOver_19 rfl (lv_at hl 1 rfl) ?_
  refine gX4_25 (x := (some x0)) b hE rfl t6 dX4_resolveOver_20 ?_
  refine gX4_95 (x := (hR h 512 x0)) b hE ea7 t8 dX4_resolveOver_23 ?_
  refine lv_aload_n b.1 b.2.1 dX4_resolveOver_26 rfl (lv_at hl 1 rfl) ?_
  refine gX4_12 (x := (some x0)) b hE rfl t6 dX4_resolveOver_27 ?_
  refine lv_iload_n b.1 b.2.1 dX4_resolveOver_30 rfl (lv_at hl 2 rfl) ?_
  refine lv_iconst (v := 1) b.1 b.2.1 dX4_resolveOver_31 (by decide) ?_
  refine lv_iadd b.1 b.2.1 dX4_resolveOver_32 ?_
  obtain ⟨r18, hc17, hf⟩ := oB_s hf
  refine k_stk [.int (x1 + 1)] ea9 ?_
  refine k_callV0 (C := RX10) b zs zk hE (CX10_valueAt l D aC ad zk hc17) mc_X10_valueAt (in3 159 rfl rfl) mi_X10_valueAt ms_X10_valueAt ini_RX10 ok_X10_valueAt (x_recv b hE (ci := 10) rfl (by decide) t10) ⟨Nat.le_of_ble_eq_true rfl, Nat.le_of_ble_eq_true rfl⟩ rfl hl.1 rfl (k_room _ (by exact Nat.le_of_ble_eq_true rfl)) ⟨Nat.le_refl _, Nat.le_refl _⟩ dX4_resolveOver_33 (fun H locs hE => ?_)
  obtain ⟨r20, hc19, hf⟩ := oB_s hf
  refine k_stk [.long r18] ea13 ?_
  refine k_callV0 (C := RX7) b zs zk hE (CX7_find l D aC ad zk hc19) mc_X7_find (in2 195 rfl rfl) mi_X7_find ms_X7_find ini_RX7 ok_X7_find (x_recv b hE (ci := 7) rfl (by decide) t14) ⟨Nat.le_of_ble_eq_true rfl, Nat.le_of_ble_eq_true rfl⟩ rfl hl.1 rfl (k_room _ (by exact Nat.le_of_ble_eq_true rfl)) ⟨Nat.le_refl _, Nat.le_refl _⟩ dX4_resolveOver_36 (fun H locs hE => ?_)
  refine lv_istore_n (lv' := [(3, .int r20), (2, .int r16), (0, .ref (ad x0)), (1, .int x1)]) b.1 b.2.1 dX4_resolveOver_39 rfl hl (by decide) rfl (fun ls hl => ?_)
  refine lv_aload_n b.1 b.2.1 dX4_resolveOver_40 rfl (lv_at hl 2 rfl) ?_
  refine lv_iload_n b.1 b.2.1 dX4_resolveOver_41 rfl (lv_at hl 1 rfl) ?_
  refine lv_aload_n b.1 b.2.1 dX4_resolveOver_42 rfl (lv_at hl 2 rfl) ?_
  refine gX4_12 (x := (some x0)) b hE rfl t6 dX4_resolveOver_43 ?_
  refine lv_iload_n b.1 b.2.1 dX4_resolveOver_46 rfl (lv_at hl 3 rfl) ?_
  obtain ⟨r22, hc21, hf⟩ := oB_s hf
  refine k_stk [.int x1] ea9 ?_
  refine k_callV0 (C := RX10) b zs zk hE (CX10_startAt l D aC ad zk hc21) mc_X10_startAt (in3 163 rfl rfl) mi_X10_startAt ms_X10_startAt ini_RX10 ok_X10_startAt (x_recv b hE (ci := 10) rfl (by decide) t10) ⟨Nat.le_of_ble_eq_true rfl, Nat.le_of_ble_eq_true rfl⟩ rfl hl.1 rfl (k_room _ (by exact Nat.le_of_ble_eq_true rfl)) ⟨Nat.le_refl _, Nat.le_refl _⟩ dX4_resolveOver_47 (fun H locs hE => ?_)
  obtain ⟨h24, hc23, hf⟩ := oB_s hf
  refine k_callV0 (C := RX4) b zs zk hE (CX4_noteRule l D aC ad zk hc23) mc_X4_noteRule (in3 167 rfl rfl) mi_X4_noteRule ms_X4_noteRule ini_RX4 ok_X4_noteRule (x_recv b hE (ci := 4) rfl (by decide) t6) ⟨Nat.le_of_ble_eq_true rfl, Nat.le_of_ble_eq_true rfl⟩ rfl hl.1 rfl (k_room _ (by exact Nat.le_of_ble_eq_true rfl)) ⟨Nat.le_refl _, Nat.le_refl _⟩ dX4_resolveOver_50 (fun H locs hE => ?_)
  refine lv_aload_n b.1 b.2.1 dX4_resolveOver_53 rfl (lv_at hl 2 rfl) ?_
  refine lv_iload_n b.1 b.2.1 dX4_resolveOver_54 rfl (lv_at hl 0 rfl) ?_
  refine lv_aload_n b.1 b.2.1 dX4_resolveOver_55 rfl (lv_at hl 2 rfl) ?_
  obtain ⟨t25, hf⟩ := oC_s hf
  have t25 := of_decide_eq_true t25
  refine gX4_12 (x := (some x0)) b hE rfl t25 dX4_resolveOver_56 ?_
  refine lv_iload_n b.1 b.2.1 dX4_resolveOver_59 rfl (lv_at hl 3 rfl) ?_
  refine lv_iconst (v := 1) b.1 b.2.1 dX4_resolveOver_60 (by decide) ?_
  refine lv_iadd b.1 b.2.1 dX4_resolveOver_61 ?_
  obtain ⟨a26, ea26, hf⟩ := oN_s hf
  obtain ⟨t27, hf⟩ := oC_s hf
  have t27 := of_decide_eq_true t27
  obtain ⟨r29, hc28, hf⟩ := oB_s hf
  refine k_stk [.int (x1 + 1)] ea26 ?_
  refine k_callV0 (C := RX10) b zs zk hE (CX10_startAt l D aC ad zk hc28) mc_X10_startAt (in3 163 rfl rfl) mi_X10_startAt ms_X10_startAt ini_RX10 ok_X10_startAt (x_recv b hE (ci := 10) rfl (by decide) t27) ⟨Nat.le_of_ble_eq_true rfl, Nat.le_of_ble_eq_true rfl⟩ rfl hl.1 rfl (k_room _ (by exact Nat.le_of_ble_eq_true rfl)) ⟨Nat.le_refl _, Nat.le_refl _⟩ dX4_resolveOver_62 (fun H locs hE => ?_)
  obtain ⟨h31, hc30, hf⟩ := oB_s hf
  refine k_callV0 (C := RX4) b zs zk hE (CX4_noteRule l D aC ad zk hc30) mc_X4_noteRule (in3 167 rfl rfl) mi_X4_noteRule ms_X4_noteRule ini_RX4 ok_X4_noteRule (x_recv b hE (ci := 4) rfl (by decide) t25) ⟨Nat.le_of_ble_eq_true rfl, Nat.le_of_ble_eq_true rfl⟩ rfl hl.1 rfl (k_room _ (by exact Nat.le_of_ble_eq_true rfl)) ⟨Nat.le_refl _, Nat.le_refl _⟩ dX4_resolveOver_65 (fun H locs hE => ?_)
  refine lv_iload_n b.1 b.2.1 dX4_resolveOver_68 rfl (lv_at hl 1 rfl) ?_
  refine lv_iload_n b.1 b.2.1 dX4_resolveOver_69 rfl (lv_at hl 0 rfl) ?_
  refine lv_icmp_ne (tgt := 93) b.1 b.2.1 dX4_resolveOver_70 (by decide) (fun c32 => ?_) (fun c32 => ?_)
  · have hf := oI_f c32 hf
    exact wfX4_resolveOver_93 b hlk hr zs zk  hf hE (lv_sub hl [2, 1, 0] rfl)
  · have hf := oI_t c32 hf
    refine lv_iload_n b.1 b.2.1 dX4_resolveOver_73 rfl (lv_at hl 1 rfl) ?_
    refine lv_iconst (v := (-1)) b.1 b.2.1 dX4_resolveOver_74 (by decide) ?_
    refine lv_icmp_eq (tgt := 93) b.1 b.2.1 dX4_resolveOver_75 (by decide) (fun c33 => ?_) (fun c33 => ?_)
    · have hf := oI_t c33 hf
      exact wfX4_resolveOver_93 b hlk hr zs zk  hf hE (lv_sub hl [2, 1, 0] rfl)
    · have hf := oI_f c33 hf
      refine lv_aload_n b.1 b.2.1 dX4_resolveOver_78 rfl (lv_at hl 2 rfl) ?_
      refine lv_iconst (v := 5) b.1 b.2.1 dX4_resolveOver_79 (by decide) ?_
      refine lv_aload_n b.1 b.2.1 dX4_resolveOver_80 rfl (lv_at hl 2 rfl) ?_
      obtain ⟨t34, hf⟩ := oC_s hf
      have t34 := of_decide_eq_true t34
      refine gX4_12 (x := (some x0)) b hE rfl t34 dX4_resolveOver_81 ?_
      refine lv_iload_n b.1 b.2.1 dX4_resolveOver_84 rfl (lv_at hl 3 rfl) ?_
      refine lv_iconst (v := 1) b.1 b.2.1 dX4_resolveOver_85 (by decide) ?_
      refine lv_iadd b.1 b.2.1 dX4_resolveOver_86 ?_
      obtain ⟨a35, ea35, hf⟩ := oN_s hf
      obtain ⟨t36, hf⟩ := oC_s hf
      have t36 := of_decide_eq_true t36
      obtain ⟨r38, hc37, hf⟩ := oB_s hf
      refine k_stk [.int (x1 + 1)] ea35 ?_
      refine k_callV0 (C := RX10) b zs zk hE (CX10_startAt l D aC ad zk hc37) mc_X10_startAt (in3 163 rfl rfl) mi_X10_startAt ms_X10_startAt ini_RX10 ok_X10_startAt (x_recv b hE (ci := 10) rfl (by decide) t36) ⟨Nat.le_of_ble_eq_true rfl, Nat.le_of_ble_eq_true rfl⟩ rfl hl.1 rfl (k_room _ (by exact Nat.le_of_ble_eq_true rfl)) ⟨Nat.le_refl _, Nat.le_refl _⟩ dX4_resolveOver_87 (fun H locs hE => ?_)
      obtain ⟨h40, hc39, hf⟩ := oB_s hf
      refine k_callV0 (C := RX4) b zs zk hE (CX4_note l D aC ad zk hc39) mc_X4_note (in2 199 rfl rfl) mi_X4_note ms_X4_note ini_RX4 ok_X4_note (x_recv b hE (ci := 4) rfl (by decide) t34) ⟨Nat.le_of_ble_eq_true rfl, Nat.le_of_ble_eq_true rfl⟩ rfl hl.1 rfl (k_room _ (by exact Nat.le_of_ble_eq_true rfl)) ⟨Nat.le_refl _, Nat.le_refl _⟩ dX4_resolveOver_90 (fun H locs hE => ?_)
      exact wfX4_resolveOver_93 b hlk hr zs zk  hf hE (lv_sub hl [2, 1, 0] rfl)
def fX4_resolveOver (h : PH) (x0 : Nat) (x1 : Int32) : Option (PH) := fX4_resolveOver_0 h x0 x1
set_option maxHeartbeats 4000000 in
theorem CX4_resolveOver (l : Launch) (D : va_G) (aC : Nat → ClassId) (ad : Nat → Nat) {Z : State → Prop} (zk : ZOK Z (Rg ad)) {h : PH} {x0 : Nat} {x1 : Int32} {hz : PH} (hf : fX4_resolveOver h x0 x1 = some hz) : CM l D aC Z yX4_resolveOver cX4_resolveOver 4 (none) 3 65 0 0 (EX D aC ad h) [.ref (ad x0), .int x1] (EX D aC ad hz) none (Rg ad) := by
  refine CM.of rfl ?_
  intro p e s m below meth c b hr hlk hin2 zs hE
  refine k_ent (Nat.le_of_ble_eq_true rfl) (fun ls hl => ?_)
  exact wfX4_resolveOver_0 b hlk hr zs zk hf hE (lv_sub hl [0, 1] rfl)
theorem dX4_finish_0 : decode cX4_finish 0 = .ok (.iconst 0, 1) := by decide +kernel
theorem dX4_finish_1 : decode cX4_finish 1 = .ok (.istore_n 1, 1) := by decide +kernel
theorem dX4_finish_2 : decode cX4_finish 2 = .ok (.iload_n 1, 1) := by decide +kernel
theorem dX4_finish_3 : decode cX4_finish 3 = .ok (.aload_n 0, 1) := by decide +kernel
theorem dX4_finish_4 : decode cX4_finish 4 = .ok (.getfield 37, 3) := by decide +kernel
theorem dX4_finish_7 : decode cX4_finish 7 = .ok (.if_icmp .ge 26, 3) := by decide +kernel
theorem dX4_finish_10 : decode cX4_finish 10 = .ok (.aload_n 0, 1) := by decide +kernel
theorem dX4_finish_11 : decode cX4_finish 11 = .ok (.getfield 44, 3) := by decide +kernel
theorem dX4_finish_14 : decode cX4_finish 14 = .ok (.ifCond .ne 19, 3) := by decide +kernel
theorem dX4_finish_17 : decode cX4_finish 17 = .ok (.aload_n 0, 1) := by decide +kernel
theorem dX4_finish_18 : decode cX4_finish 18 = .ok (.aload_n 0, 1) := by decide +kernel
theorem dX4_finish_19 : decode cX4_finish 19 = .ok (.getfield 22, 3) := by decide +kernel
theorem dX4_finish_22 : decode cX4_finish 22 = .ok (.iload_n 1, 1) := by decide +kernel
theorem dX4_finish_23 : decode cX4_finish 23 = .ok (.iaload, 1) := by decide +kernel
theorem dX4_finish_24 : decode cX4_finish 24 = .ok (.invokevirtual 134, 3) := by decide +kernel
theorem dX4_finish_27 : decode cX4_finish 27 = .ok (.iinc 1 1, 3) := by decide +kernel
theorem dX4_finish_30 : decode cX4_finish 30 = .ok (.goto (-28), 3) := by decide +kernel
theorem dX4_finish_33 : decode cX4_finish 33 = .ok (.aload_n 0, 1) := by decide +kernel
theorem dX4_finish_34 : decode cX4_finish 34 = .ok (.getfield 44, 3) := by decide +kernel
theorem dX4_finish_37 : decode cX4_finish 37 = .ok (.ifCond .eq 10, 3) := by decide +kernel
theorem dX4_finish_40 : decode cX4_finish 40 = .ok (.aload_n 0, 1) := by decide +kernel
theorem dX4_finish_41 : decode cX4_finish 41 = .ok (.getfield 44, 3) := by decide +kernel
theorem dX4_finish_44 : decode cX4_finish 44 = .ok (.goto 7, 3) := by decide +kernel
theorem dX4_finish_47 : decode cX4_finish 47 = .ok (.aload_n 0, 1) := by decide +kernel
theorem dX4_finish_48 : decode cX4_finish 48 = .ok (.getfield 50, 3) := by decide +kernel
theorem dX4_finish_51 : decode cX4_finish 51 = .ok (.istore_n 1, 1) := by decide +kernel
theorem dX4_finish_52 : decode cX4_finish 52 = .ok (.iload_n 1, 1) := by decide +kernel
theorem dX4_finish_53 : decode cX4_finish 53 = .ok (.ifCond .ne 13, 3) := by decide +kernel
theorem dX4_finish_56 : decode cX4_finish 56 = .ok (.aload_n 0, 1) := by decide +kernel
theorem dX4_finish_57 : decode cX4_finish 57 = .ok (.getfield 25, 3) := by decide +kernel
theorem dX4_finish_60 : decode cX4_finish 60 = .ok (.invokevirtual 137, 3) := by decide +kernel
theorem dX4_finish_63 : decode cX4_finish 63 = .ok (.goto 10, 3) := by decide +kernel
theorem dX4_finish_66 : decode cX4_finish 66 = .ok (.aload_n 0, 1) := by decide +kernel
theorem dX4_finish_67 : decode cX4_finish 67 = .ok (.getfield 25, 3) := by decide +kernel
theorem dX4_finish_70 : decode cX4_finish 70 = .ok (.invokevirtual 140, 3) := by decide +kernel
theorem dX4_finish_73 : decode cX4_finish 73 = .ok (.iload_n 1, 1) := by decide +kernel
theorem dX4_finish_74 : decode cX4_finish 74 = .ok (.ireturn, 1) := by decide +kernel
def fX4_finish_51  (h : PH) (x0 : Nat) (s0 : Int32) : Option (PH × Int32) :=
  if s0 = 0 then (oC (decide (hT h x0 = 5)) (oN (hR h 512 x0) (fun a8 => oC (decide (hT h a8 = 2)) (oB (fX1_keep h a8) (fun h11 => some (h11, s0)))))) else (oC (decide (hT h x0 = 5)) (oN (hR h 512 x0) (fun a3 => oC (decide (hT h a3 = 2)) (oB (fX1_drop h a3) (fun h6 => some (h6, s0))))))
set_option maxHeartbeats 4000000 in
theorem wfX4_finish_51 {args : Array Value} (b : Bd p s m c cX4_finish 2 RX4 D aC) (hlk : meth.locks = false) (hr : meth.sig.returnType = some .int) {Z : State → Prop} (zs : Z s) (zk : ZOK Z (Rg ad)) {hz : PH} {rz : Int32} {h : PH} {x0 : Nat} {s0 : Int32}  {H : Heap} {locs : List Loc} {ls : Array Slot} (hf : fX4_finish_51 h x0 s0 = some (hz, rz)) (hE : CE (EX D aC ad h) (Rg ad) s H locs) (hl : lv_has ls 2 [(0, .ref (ad x0))]) : W p l e (RM 4 88 0 0) s m args below meth c H locs 0 0 (MQ below (PQ (EX D aC ad hz) (Rg ad) (some (.int rz))) args s 0 0 (Rg ad)) (F0 m 51 ls [.int s0]) := by
  unfold fX4_finish_51 at hf
  refine lv_istore_n (lv' := [(1, .int s0), (0, .ref (ad x0))]) b.1 b.2.1 dX4_finish_51 rfl hl (by decide) rfl (fun ls hl => ?_)
  refine lv_iload_n b.1 b.2.1 dX4_finish_52 rfl (lv_at hl 0 rfl) ?_
  refine lv_if_ne (tgt := 66) b.1 b.2.1 dX4_finish_53 (by decide) (fun c1 => ?_) (fun c1 => ?_)
  · have hf := oI_f c1 hf
    refine lv_aload_n b.1 b.2.1 dX4_finish_66 rfl (lv_at hl 1 rfl) ?_
    obtain ⟨t2, hf⟩ := oC_s hf
    have t2 := of_decide_eq_true t2
    refine gX4_25 (x := (some x0)) b hE rfl t2 dX4_finish_67 ?_
    obtain ⟨a3, ea3, hf⟩ := oN_s hf
    obtain ⟨t4, hf⟩ := oC_s hf
    have t4 := of_decide_eq_true t4
    obtain ⟨h6, hc5, hf⟩ := oB_s hf
    refine k_stk [] ea3 ?_
    refine k_callV0 (C := RX1) b zs zk hE (CX1_drop l D aC ad zk hc5) mc_X1_drop (in3 187 rfl rfl) mi_X1_drop ms_X1_drop ini_RX1 ok_X1_drop (x_recv b hE (ci := 1) rfl (by decide) t4) ⟨Nat.le_of_ble_eq_true rfl, Nat.le_of_ble_eq_true rfl⟩ rfl hl.1 rfl (k_room _ (by exact Nat.le_of_ble_eq_true rfl)) ⟨Nat.le_refl _, Nat.le_refl _⟩ dX4_finish_70 (fun H locs hE => ?_)
    refine lv_iload_n b.1 b.2.1 dX4_finish_73 rfl (lv_at hl 0 rfl) ?_
    cases hf
    exact k_iret b hlk hr hE (Nat.le_refl _) (Nat.le_refl _) dX4_finish_74
  · have hf := oI_t c1 hf
    refine lv_aload_n b.1 b.2.1 dX4_finish_56 rfl (lv_at hl 1 rfl) ?_
    obtain ⟨t7, hf⟩ := oC_s hf
    have t7 := of_decide_eq_true t7
    refine gX4_25 (x := (some x0)) b hE rfl t7 dX4_finish_57 ?_
    obtain ⟨a8, ea8, hf⟩ := oN_s hf
    obtain ⟨t9, hf⟩ := oC_s hf
    have t9 := of_decide_eq_true t9
    obtain ⟨h11, hc10, hf⟩ := oB_s hf
    refine k_stk [] ea8 ?_
    refine k_callV0 (C := RX1) b zs zk hE (CX1_keep l D aC ad zk hc10) mc_X1_keep (in3 183 rfl rfl) mi_X1_keep ms_X1_keep ini_RX1 ok_X1_keep (x_recv b hE (ci := 1) rfl (by decide) t9) ⟨Nat.le_of_ble_eq_true rfl, Nat.le_of_ble_eq_true rfl⟩ rfl hl.1 rfl (k_room _ (by exact Nat.le_of_ble_eq_true rfl)) ⟨Nat.le_refl _, Nat.le_refl _⟩ dX4_finish_60 (fun H locs hE => ?_)
    refine lv_goto (tgt := 73) b.1 b.2.1 dX4_finish_63 (by decide) ?_
    refine lv_iload_n b.1 b.2.1 dX4_finish_73 rfl (lv_at hl 0 rfl) ?_
    cases hf
    exact k_iret b hlk hr hE (Nat.le_refl _) (Nat.le_refl _) dX4_finish_74
def fX4_finish_33  (h : PH) (x0 : Nat) : Option (PH × Int32) :=
  oC (decide (hT h x0 = 5)) (if (hI h 524 x0) = 0 then (fX4_finish_51  h x0 (hI h 526 x0)) else (fX4_finish_51  h x0 (hI h 524 x0)))
set_option maxHeartbeats 4000000 in
theorem wfX4_finish_33 {args : Array Value} (b : Bd p s m c cX4_finish 2 RX4 D aC) (hlk : meth.locks = false) (hr : meth.sig.returnType = some .int) {Z : State → Prop} (zs : Z s) (zk : ZOK Z (Rg ad)) {hz : PH} {rz : Int32} {h : PH} {x0 : Nat}  {H : Heap} {locs : List Loc} {ls : Array Slot} (hf : fX4_finish_33 h x0 = some (hz, rz)) (hE : CE (EX D aC ad h) (Rg ad) s H locs) (hl : lv_has ls 2 [(0, .ref (ad x0))]) : W p l e (RM 4 88 0 0) s m args below meth c H locs 0 0 (MQ below (PQ (EX D aC ad hz) (Rg ad) (some (.int rz))) args s 0 0 (Rg ad)) (F0 m 33 ls []) := by
  unfold fX4_finish_33 at hf
  refine lv_aload_n b.1 b.2.1 dX4_finish_33 rfl (lv_at hl 0 rfl) ?_
  obtain ⟨t12, hf⟩ := oC_s hf
  have t12 := of_decide_eq_true t12
  refine gX4_44 (x := (some x0)) b hE rfl t12 dX4_finish_34 ?_
  refine lv_if_eq (tgt := 47) b.1 b.2.1 dX4_finish_37 (by decide) (fun c13 => ?_) (fun c13 => ?_)
  · have hf := oI_t c13 hf
    refine lv_aload_n b.1 b.2.1 dX4_finish_47 rfl (lv_at hl 0 rfl) ?_
    refine gX4_50 (x := (some x0)) b hE rfl t12 dX4_finish_48 ?_
    exact wfX4_finish_51 b hlk hr zs zk  hf hE (lv_sub hl [0] rfl)
  · have hf := oI_f c13 hf
    refine lv_aload_n b.1 b.2.1 dX4_finish_40 rfl (lv_at hl 0 rfl) ?_
    refine gX4_44 (x := (some x0)) b hE rfl t12 dX4_finish_41 ?_
    refine lv_goto (tgt := 51) b.1 b.2.1 dX4_finish_44 (by decide) ?_
    exact wfX4_finish_51 b hlk hr zs zk  hf hE (lv_sub hl [0] rfl)
def fX4_finish_2F (k2 : PH → Nat → Int32 → Option (PH × Int32)) (h : PH) (x0 : Nat) (x1 : Int32) : Option (PH × Int32) :=
  oC (decide (hT h x0 = 5)) (if (hI h 517 x0) ≤ x1 then (fX4_finish_33  h x0) else (if (hI h 524 x0) = 0 then (oN (hR h 515 x0) (fun a17 => oC (decide (hT h a17 = 101)) (oC (ix x1 (hN h a17)) (oB (fX4_resolveOver h x0 (hA h a17 (Int32.toNatClampNeg x1))) (fun h21 => oL (x1 + 1) (fun y22 => k2 h21 x0 y22)))))) else (fX4_finish_33  h x0)))
set_option maxHeartbeats 4000000 in
theorem wfX4_finish_2F {args : Array Value} (b : Bd p s m c cX4_finish 2 RX4 D aC) (hlk : meth.locks = false) (hr : meth.sig.returnType = some .int) {Z : State → Prop} (zs : Z s) (zk : ZOK Z (Rg ad)) {hz : PH} {rz : Int32} {k2 : PH → Nat → Int32 → Option (PH × Int32)} (H2 : ∀ (h : PH) (x0 : Nat) (x1 : Int32), ∀ (H : Heap) (locs : List Loc) (ls : Array Slot), k2 h x0 x1 = some (hz, rz) → CE (EX D aC ad h) (Rg ad) s H locs → lv_has ls 2 [(0, .ref (ad x0)), (1, .int x1)] → W p l e (RM 4 88 0 0) s m args below meth c H locs 0 0 (MQ below (PQ (EX D aC ad hz) (Rg ad) (some (.int rz))) args s 0 0 (Rg ad)) (F0 m 2 ls [])) {h : PH} {x0 : Nat} {x1 : Int32}  {H : Heap} {locs : List Loc} {ls : Array Slot} (hf : fX4_finish_2F k2 h x0 x1 = some (hz, rz)) (hE : CE (EX D aC ad h) (Rg ad) s H locs) (hl : lv_has ls 2 [(0, .ref (ad x0)), (1, .int x1)]) : W p l e (RM 4 88 0 0) s m args below meth c H locs 0 0 (MQ below (PQ (EX D aC ad hz) (Rg ad) (some (.int rz))) args s 0 0 (Rg ad)) (F0 m 2 ls []) := by
  unfold fX4_finish_2F at hf
  refine lv_iload_n b.1 b.2.1 dX4_finish_2 rfl (lv_at hl 1 rfl) ?_
  refine lv_aload_n b.1 b.2.1 dX4_finish_3 rfl (lv_at hl 0 rfl) ?_
  obtain ⟨t14, hf⟩ := oC_s hf
  have t14 := of_decide_eq_true t14
  refine gX4_37 (x := (some x0)) b hE rfl t14 dX4_finish_4 ?_
  refine lv_icmp_ge (tgt := 33) b.1 b.2.1 dX4_finish_7 (by decide) (fun c15 => ?_) (fun c15 => ?_)
  · have hf := oI_t c15 hf
    exact wfX4_finish_33 b hlk hr zs zk  hf hE (lv_sub hl [0] rfl)
  · have hf := oI_f c15 hf
    refine lv_aload_n b.1 b.2.1 dX4_finish_10 rfl (lv_at hl 0 rfl) ?_
    refine gX4_44 (x := (some x0)) b hE rfl t14 dX4_finish_11 ?_
    refine lv_if_ne (tgt := 33) b.1 b.2.1 dX4_finish_14 (by decide) (fun c16 => ?_) (fun c16 => ?_)
    · have hf := oI_f c16 hf
      exact wfX4_finish_33 b hlk hr zs zk  hf hE (lv_sub hl [0] rfl)
    · have hf := oI_t c16 hf
      refine lv_aload_n b.1 b.2.1 dX4_finish_17 rfl (lv_at hl 0 rfl) ?_
      refine lv_aload_n b.1 b.2.1 dX4_finish_18 rfl (lv_at hl 0 rfl) ?_
      refine gX4_22 (x := (some x0)) b hE rfl t14 dX4_finish_19 ?_
      refine lv_iload_n b.1 b.2.1 dX4_finish_22 rfl (lv_at hl 1 rfl) ?_
      obtain ⟨a17, ea17, hf⟩ := oN_s hf
      obtain ⟨t18, hf⟩ := oC_s hf
      have t18 := of_decide_eq_true t18
      obtain ⟨g19, hf⟩ := oC_s hf
      refine q_iald (x := (hR h 515 x0)) b hE ea17 t18 g19 dX4_finish_23 ?_
      obtain ⟨h21, hc20, hf⟩ := oB_s hf
      refine k_callV0 (C := RX4) b zs zk hE (CX4_resolveOver l D aC ad zk hc20) mc_X4_resolveOver (in3 155 rfl rfl) mi_X4_resolveOver ms_X4_resolveOver ini_RX4 ok_X4_resolveOver (x_recv b hE (ci := 4) rfl (by decide) t14) ⟨Nat.le_of_ble_eq_true rfl, Nat.le_of_ble_eq_true rfl⟩ rfl hl.1 rfl (k_room _ (by exact Nat.le_of_ble_eq_true rfl)) ⟨Nat.le_refl _, Nat.le_refl _⟩ dX4_finish_24 (fun H locs hE => ?_)
      obtain ⟨y22, ey22, hf⟩ := oL_s hf
      refine lv_iinc (v := y22) (lv' := [(1, .int y22), (0, .ref (ad x0))]) b.1 b.2.1 dX4_finish_27 hl (k := 1) rfl (by rw [ey22]; rfl) (by decide) rfl (fun ls hl => ?_)
      refine lv_goto (tgt := 2) b.1 b.2.1 dX4_finish_30 (by decide) ?_
      exact H2 h21 x0 y22 _ _ _ hf hE (lv_sub hl [1, 0] rfl)
def fX4_finish_2  : Nat → PH → Nat → Int32 → Option (PH × Int32)
  | 0 => fun _ _ _ => none
  | n + 1 => fX4_finish_2F  (fX4_finish_2  n)
set_option maxHeartbeats 4000000 in
theorem wfX4_finish_2 {args : Array Value} (b : Bd p s m c cX4_finish 2 RX4 D aC) (hlk : meth.locks = false) (hr : meth.sig.returnType = some .int) {Z : State → Prop} (zs : Z s) (zk : ZOK Z (Rg ad)) {hz : PH} {rz : Int32} : ∀ n : Nat, ∀ (h : PH) (x0 : Nat) (x1 : Int32), ∀ (H : Heap) (locs : List Loc) (ls : Array Slot), fX4_finish_2  n h x0 x1 = some (hz, rz) → CE (EX D aC ad h) (Rg ad) s H locs → lv_has ls 2 [(0, .ref (ad x0)), (1, .int x1)] → W p l e (RM 4 88 0 0) s m args below meth c H locs 0 0 (MQ below (PQ (EX D aC ad hz) (Rg ad) (some (.int rz))) args s 0 0 (Rg ad)) (F0 m 2 ls []) := by
  intro n
  induction n with
  | zero =>
    intro h x0 x1 H locs ls hf
    have hf : (none : Option (PH × Int32)) = some _ := hf
    cases hf
  | succ n ih =>
    intro h x0 x1 H locs ls hf hE hl
    exact wfX4_finish_2F b hlk hr zs zk  ih hf hE hl
def fX4_finish_0  (h : PH) (x0 : Nat) : Option (PH × Int32) :=
  fX4_finish_2  FU h x0 0
set_option maxHeartbeats 4000000 in
theorem wfX4_finish_0 {args : Array Value} (b : Bd p s m c cX4_finish 2 RX4 D aC) (hlk : meth.locks = false) (hr : meth.sig.returnType = some .int) {Z : State → Prop} (zs : Z s) (zk : ZOK Z (Rg ad)) {hz : PH} {rz : Int32} {h : PH} {x0 : Nat}  {H : Heap} {locs : List Loc} {ls : Array Slot} (hf : fX4_finish_0 h x0 = some (hz, rz)) (hE : CE (EX D aC ad h) (Rg ad) s H locs) (hl : lv_has ls 2 [(0, .ref (ad x0))]) : W p l e (RM 4 88 0 0) s m args below meth c H locs 0 0 (MQ below (PQ (EX D aC ad hz) (Rg ad) (some (.int rz))) args s 0 0 (Rg ad)) (F0 m 0 ls []) := by
  unfold fX4_finish_0 at hf
  refine lv_iconst (v := 0) b.1 b.2.1 dX4_finish_0 (by decide) ?_
  refine lv_istore_n (lv' := [(1, .int 0), (0, .ref (ad x0))]) b.1 b.2.1 dX4_finish_1 rfl hl (by decide) rfl (fun ls hl => ?_)
  exact wfX4_finish_2 b hlk hr zs zk  FU h x0 0 _ _ _ hf hE (lv_sub hl [1, 0] rfl)
def fX4_finish (h : PH) (x0 : Nat) : Option (PH × Int32) := fX4_finish_0 h x0
set_option maxHeartbeats 4000000 in
theorem CX4_finish (l : Launch) (D : va_G) (aC : Nat → ClassId) (ad : Nat → Nat) {Z : State → Prop} (zk : ZOK Z (Rg ad)) {h : PH} {x0 : Nat} {hz : PH} {rz : Int32} (hf : fX4_finish h x0 = some (hz, rz)) : CM l D aC Z yX4_finish cX4_finish 2 (some .int) 4 88 0 0 (EX D aC ad h) [.ref (ad x0)] (EX D aC ad hz) (some (.int rz)) (Rg ad) := by
  refine CM.of rfl ?_
  intro p e s m below meth c b hr hlk hin2 zs hE
  refine k_ent (Nat.le_of_ble_eq_true rfl) (fun ls hl => ?_)
  exact wfX4_finish_0 b hlk hr zs zk hf hE (lv_sub hl [0] rfl)
theorem dX4_placeOfFault_0 : decode cX4_placeOfFault 0 = .ok (.aload_n 0, 1) := by decide +kernel
theorem dX4_placeOfFault_1 : decode cX4_placeOfFault 1 = .ok (.getfield 44, 3) := by decide +kernel
theorem dX4_placeOfFault_4 : decode cX4_placeOfFault 4 = .ok (.ifCond .eq 10, 3) := by decide +kernel
theorem dX4_placeOfFault_7 : decode cX4_placeOfFault 7 = .ok (.aload_n 0, 1) := by decide +kernel
theorem dX4_placeOfFault_8 : decode cX4_placeOfFault 8 = .ok (.getfield 47, 3) := by decide +kernel
theorem dX4_placeOfFault_11 : decode cX4_placeOfFault 11 = .ok (.goto 7, 3) := by decide +kernel
theorem dX4_placeOfFault_14 : decode cX4_placeOfFault 14 = .ok (.aload_n 0, 1) := by decide +kernel
theorem dX4_placeOfFault_15 : decode cX4_placeOfFault 15 = .ok (.getfield 53, 3) := by decide +kernel
theorem dX4_placeOfFault_18 : decode cX4_placeOfFault 18 = .ok (.ireturn, 1) := by decide +kernel
def fX4_placeOfFault_0  (h : PH) (x0 : Nat) : Option (Int32) :=
  oC (decide (hT h x0 = 5)) (if (hI h 524 x0) = 0 then (some ((hI h 527 x0))) else (some ((hI h 525 x0))))
set_option maxHeartbeats 4000000 in
theorem wfX4_placeOfFault_0 {args : Array Value} (b : Bd p s m c cX4_placeOfFault 1 RX4 D aC) (hlk : meth.locks = false) (hr : meth.sig.returnType = some .int) {Z : State → Prop} (zs : Z s) (zk : ZOK Z (Rg ad)) {rz : Int32} {h : PH} {x0 : Nat}  {H : Heap} {locs : List Loc} {ls : Array Slot} (hf : fX4_placeOfFault_0 h x0 = some rz) (hE : CE (EX D aC ad h) (Rg ad) s H locs) (hl : lv_has ls 1 [(0, .ref (ad x0))]) : W p l e (RM 0 0 0 0) s m args below meth c H locs 0 0 (MQ below (PQ (EX D aC ad h) (Rg ad) (some (.int rz))) args s 0 0 (Rg ad)) (F0 m 0 ls []) := by
  unfold fX4_placeOfFault_0 at hf
  refine lv_aload_n b.1 b.2.1 dX4_placeOfFault_0 rfl (lv_at hl 0 rfl) ?_
  obtain ⟨t1, hf⟩ := oC_s hf
  have t1 := of_decide_eq_true t1
  refine gX4_44 (x := (some x0)) b hE rfl t1 dX4_placeOfFault_1 ?_
  refine lv_if_eq (tgt := 14) b.1 b.2.1 dX4_placeOfFault_4 (by decide) (fun c2 => ?_) (fun c2 => ?_)
  · have hf := oI_t c2 hf
    refine lv_aload_n b.1 b.2.1 dX4_placeOfFault_14 rfl (lv_at hl 0 rfl) ?_
    refine gX4_53 (x := (some x0)) b hE rfl t1 dX4_placeOfFault_15 ?_
    cases hf
    exact k_iret b hlk hr hE (Nat.le_refl _) (Nat.le_refl _) dX4_placeOfFault_18
  · have hf := oI_f c2 hf
    refine lv_aload_n b.1 b.2.1 dX4_placeOfFault_7 rfl (lv_at hl 0 rfl) ?_
    refine gX4_47 (x := (some x0)) b hE rfl t1 dX4_placeOfFault_8 ?_
    refine lv_goto (tgt := 18) b.1 b.2.1 dX4_placeOfFault_11 (by decide) ?_
    cases hf
    exact k_iret b hlk hr hE (Nat.le_refl _) (Nat.le_refl _) dX4_placeOfFault_18
def fX4_placeOfFault (h : PH) (x0 : Nat) : Option (Int32) := fX4_placeOfFault_0 h x0
set_option maxHeartbeats 4000000 in
theorem CX4_placeOfFault (l : Launch) (D : va_G) (aC : Nat → ClassId) (ad : Nat → Nat) {Z : State → Prop} (zk : ZOK Z (Rg ad)) {h : PH} {x0 : Nat} {rz : Int32} (hf : fX4_placeOfFault h x0 = some rz) : CM l D aC Z yX4_placeOfFault cX4_placeOfFault 1 (some .int) 0 0 0 0 (EX D aC ad h) [.ref (ad x0)] (EX D aC ad h) (some (.int rz)) (Rg ad) := by
  refine CM.of rfl ?_
  intro p e s m below meth c b hr hlk hin2 zs hE
  refine k_ent (Nat.le_of_ble_eq_true rfl) (fun ls hl => ?_)
  exact wfX4_placeOfFault_0 b hlk hr zs zk hf hE (lv_sub hl [0] rfl)
theorem dX4_knownName_0 : decode cX4_knownName 0 = .ok (.aload_n 0, 1) := by decide +kernel
theorem dX4_knownName_1 : decode cX4_knownName 1 = .ok (.getfield 155, 3) := by decide +kernel
theorem dX4_knownName_4 : decode cX4_knownName 4 = .ok (.istore_n 2, 1) := by decide +kernel
theorem dX4_knownName_5 : decode cX4_knownName 5 = .ok (.aload_n 1, 1) := by decide +kernel
theorem dX4_knownName_6 : decode cX4_knownName 6 = .ok (.aload_n 0, 1) := by decide +kernel
theorem dX4_knownName_7 : decode cX4_knownName 7 = .ok (.getfield 162, 3) := by decide +kernel
theorem dX4_knownName_10 : decode cX4_knownName 10 = .ok (.invokevirtual 176, 3) := by decide +kernel
theorem dX4_knownName_13 : decode cX4_knownName 13 = .ok (.istore_n 3, 1) := by decide +kernel
theorem dX4_knownName_14 : decode cX4_knownName 14 = .ok (.aload_n 0, 1) := by decide +kernel
theorem dX4_knownName_15 : decode cX4_knownName 15 = .ok (.sipush 260, 3) := by decide +kernel
theorem dX4_knownName_18 : decode cX4_knownName 18 = .ok (.invokevirtual 63, 3) := by decide +kernel
theorem dX4_knownName_21 : decode cX4_knownName 21 = .ok (.ifCond .eq 14, 3) := by decide +kernel
theorem dX4_knownName_24 : decode cX4_knownName 24 = .ok (.iload_n 3, 1) := by decide +kernel
theorem dX4_knownName_25 : decode cX4_knownName 25 = .ok (.iconst (-1), 1) := by decide +kernel
theorem dX4_knownName_26 : decode cX4_knownName 26 = .ok (.if_icmp .ne 9, 3) := by decide +kernel
theorem dX4_knownName_29 : decode cX4_knownName 29 = .ok (.aload_n 0, 1) := by decide +kernel
theorem dX4_knownName_30 : decode cX4_knownName 30 = .ok (.iconst 4, 1) := by decide +kernel
theorem dX4_knownName_31 : decode cX4_knownName 31 = .ok (.iload_n 2, 1) := by decide +kernel
theorem dX4_knownName_32 : decode cX4_knownName 32 = .ok (.invokevirtual 166, 3) := by decide +kernel
theorem dX4_knownName_35 : decode cX4_knownName 35 = .ok (.iload_n 3, 1) := by decide +kernel
theorem dX4_knownName_36 : decode cX4_knownName 36 = .ok (.ireturn, 1) := by decide +kernel
def fX4_knownName_0  (h : PH) (x0 : Nat) (x1 : Option Nat) : Option (PH × Int32) :=
  oC (decide (hT h x0 = 5)) (oL (hI h 522 x0) (fun y2 => oN x1 (fun a3 => oC (decide (hT h a3 = 8)) (oB (fX7_find h a3 (hL h 523 x0)) (fun r6 => oB2 (fX4_expect h x0 260) (fun h9 r8 => if r8 = 0 then (some (h9, r6)) else (if r6 = (-1) then (oC (decide (hT h9 x0 = 5)) (oB (fX4_note h9 x0 4 y2) (fun h14 => some (h14, r6)))) else (some (h9, r6)))))))))
set_option maxHeartbeats 4000000 in
theorem wfX4_knownName_0 {args : Array Value} (b : Bd p s m c cX4_knownName 4 RX4 D aC) (hlk : meth.locks = false) (hr : meth.sig.returnType = some .int) {Z : State → Prop} (zs : Z s) (zk : ZOK Z (Rg ad)) {hz : PH} {rz : Int32} {h : PH} {x0 : Nat} {x1 : Option Nat}  {H : Heap} {locs : List Loc} {ls : Array Slot} (hf : fX4_knownName_0 h x0 x1 = some (hz, rz)) (hE : CE (EX D aC ad h) (Rg ad) s H locs) (hl : lv_has ls 4 [(0, .ref (ad x0)), (1, va_rf (Option.map ad x1))]) : W p l e (RM 2 43 0 0) s m args below meth c H locs 0 0 (MQ below (PQ (EX D aC ad hz) (Rg ad) (some (.int rz))) args s 0 0 (Rg ad)) (F0 m 0 ls []) := by
  unfold fX4_knownName_0 at hf
  refine lv_aload_n b.1 b.2.1 dX4_knownName_0 rfl (lv_at hl 0 rfl) ?_
  obtain ⟨t1, hf⟩ := oC_s hf
  have t1 := of_decide_eq_true t1
  refine gX4_155 (x := (some x0)) b hE rfl t1 dX4_knownName_1 ?_
  obtain ⟨y2, ey2, hf⟩ := oL_s hf
  refine k_nmI ey2 ?_
  refine lv_istore_n (lv' := [(2, .int y2), (0, .ref (ad x0)), (1, va_rf (Option.map ad x1))]) b.1 b.2.1 dX4_knownName_4 rfl hl (by decide) (by cases x1 <;> rfl) (fun ls hl => ?_)
  refine k_aload_n (x := Option.map ad x1) b dX4_knownName_5 rfl (lv_at hl 2 rfl) ?_
  refine lv_aload_n b.1 b.2.1 dX4_knownName_6 rfl (lv_at hl 1 rfl) ?_
  refine gX4_162 (x := (some x0)) b hE rfl t1 dX4_knownName_7 ?_
  obtain ⟨a3, ea3, hf⟩ := oN_s hf
  obtain ⟨t4, hf⟩ := oC_s hf
  have t4 := of_decide_eq_true t4
  obtain ⟨r6, hc5, hf⟩ := oB_s hf
  refine k_stk [.long (hL h 523 x0)] ea3 ?_
  refine k_callV0 (C := RX7) b zs zk hE (CX7_find l D aC ad zk hc5) mc_X7_find (in2 195 rfl rfl) mi_X7_find ms_X7_find ini_RX7 ok_X7_find (x_recv b hE (ci := 7) rfl (by decide) t4) ⟨Nat.le_of_ble_eq_true rfl, Nat.le_of_ble_eq_true rfl⟩ rfl hl.1 rfl (k_room _ (by exact Nat.le_of_ble_eq_true rfl)) ⟨Nat.le_refl _, Nat.le_refl _⟩ dX4_knownName_10 (fun H locs hE => ?_)
  refine lv_istore_n (lv' := [(3, .int r6), (2, .int y2), (0, .ref (ad x0)), (1, va_rf (Option.map ad x1))]) b.1 b.2.1 dX4_knownName_13 rfl hl (by decide) rfl (fun ls hl => ?_)
  have hl := lv_sub (l' := [(3, .int r6), (2, .int y2), (0, .ref (ad x0))]) hl [0, 1, 2] rfl
  refine lv_aload_n b.1 b.2.1 dX4_knownName_14 rfl (lv_at hl 2 rfl) ?_
  refine lv_sipush (v := 260) b.1 b.2.1 dX4_knownName_15 (by decide) ?_
  obtain ⟨h9, r8, hc7, hf⟩ := oB2_s hf
  refine k_callV0 (C := RX4) b zs zk hE (CX4_expect l D aC ad zk hc7) mc_X4_expect (in2 179 rfl rfl) mi_X4_expect ms_X4_expect ini_RX4 ok_X4_expect (x_recv b hE (ci := 4) rfl (by decide) t1) ⟨Nat.le_of_ble_eq_true rfl, Nat.le_of_ble_eq_true rfl⟩ rfl hl.1 rfl (k_room _ (by exact Nat.le_of_ble_eq_true rfl)) ⟨Nat.le_refl _, Nat.le_refl _⟩ dX4_knownName_18 (fun H locs hE => ?_)
  refine lv_if_eq (tgt := 35) b.1 b.2.1 dX4_knownName_21 (by decide) (fun c10 => ?_) (fun c10 => ?_)
  · have hf := oI_t c10 hf
    refine lv_iload_n b.1 b.2.1 dX4_knownName_35 rfl (lv_at hl 0 rfl) ?_
    cases hf
    exact k_iret b hlk hr hE (Nat.le_refl _) (Nat.le_refl _) dX4_knownName_36
  · have hf := oI_f c10 hf
    refine lv_iload_n b.1 b.2.1 dX4_knownName_24 rfl (lv_at hl 0 rfl) ?_
    refine lv_iconst (v := (-1)) b.1 b.2.1 dX4_knownName_25 (by decide) ?_
    refine lv_icmp_ne (tgt := 35) b.1 b.2.1 dX4_knownName_26 (by decide) (fun c11 => ?_) (fun c11 => ?_)
    · have hf := oI_f c11 hf
      refine lv_iload_n b.1 b.2.1 dX4_knownName_35 rfl (lv_at hl 0 rfl) ?_
      cases hf
      exact k_iret b hlk hr hE (Nat.le_refl _) (Nat.le_refl _) dX4_knownName_36
    · have hf := oI_t c11 hf
      refine lv_aload_n b.1 b.2.1 dX4_knownName_29 rfl (lv_at hl 2 rfl) ?_
      refine lv_iconst (v := 4) b.1 b.2.1 dX4_knownName_30 (by decide) ?_
      refine lv_iload_n b.1 b.2.1 dX4_knownName_31 rfl (lv_at hl 1 rfl) ?_
      obtain ⟨t12, hf⟩ := oC_s hf
      have t12 := of_decide_eq_true t12
      obtain ⟨h14, hc13, hf⟩ := oB_s hf
      refine k_callV0 (C := RX4) b zs zk hE (CX4_note l D aC ad zk hc13) mc_X4_note (in2 199 rfl rfl) mi_X4_note ms_X4_note ini_RX4 ok_X4_note (x_recv b hE (ci := 4) rfl (by decide) t12) ⟨Nat.le_of_ble_eq_true rfl, Nat.le_of_ble_eq_true rfl⟩ rfl hl.1 rfl (k_room _ (by exact Nat.le_of_ble_eq_true rfl)) ⟨Nat.le_refl _, Nat.le_refl _⟩ dX4_knownName_32 (fun H locs hE => ?_)
      refine lv_iload_n b.1 b.2.1 dX4_knownName_35 rfl (lv_at hl 0 rfl) ?_
      cases hf
      exact k_iret b hlk hr hE (Nat.le_refl _) (Nat.le_refl _) dX4_knownName_36
def fX4_knownName (h : PH) (x0 : Nat) (x1 : Option Nat) : Option (PH × Int32) := fX4_knownName_0 h x0 x1
set_option maxHeartbeats 4000000 in
theorem CX4_knownName (l : Launch) (D : va_G) (aC : Nat → ClassId) (ad : Nat → Nat) {Z : State → Prop} (zk : ZOK Z (Rg ad)) {h : PH} {x0 : Nat} {x1 : Option Nat} {hz : PH} {rz : Int32} (hf : fX4_knownName h x0 x1 = some (hz, rz)) : CM l D aC Z yX4_knownName cX4_knownName 4 (some .int) 2 43 0 0 (EX D aC ad h) [.ref (ad x0), va_rf (Option.map ad x1)] (EX D aC ad hz) (some (.int rz)) (Rg ad) := by
  refine CM.of rfl ?_
  intro p e s m below meth c b hr hlk hin2 zs hE
  cases x1 <;> (
    refine k_ent (Nat.le_of_ble_eq_true rfl) (fun ls hl => ?_)
    exact wfX4_knownName_0 b hlk hr zs zk hf hE (lv_sub hl [0, 1] rfl))
theorem dX8_newCondition_0 : decode cX8_newCondition 0 = .ok (.aload_n 0, 1) := by decide +kernel
theorem dX8_newCondition_1 : decode cX8_newCondition 1 = .ok (.getfield 22, 3) := by decide +kernel
theorem dX8_newCondition_4 : decode cX8_newCondition 4 = .ok (.bipush 6, 2) := by decide +kernel
theorem dX8_newCondition_6 : decode cX8_newCondition 6 = .ok (.if_icmp .lt 5, 3) := by decide +kernel
theorem dX8_newCondition_9 : decode cX8_newCondition 9 = .ok (.aconst_null, 1) := by decide +kernel
theorem dX8_newCondition_10 : decode cX8_newCondition 10 = .ok (.areturn, 1) := by decide +kernel
theorem dX8_newCondition_11 : decode cX8_newCondition 11 = .ok (.aload_n 0, 1) := by decide +kernel
theorem dX8_newCondition_12 : decode cX8_newCondition 12 = .ok (.getfield 11, 3) := by decide +kernel
theorem dX8_newCondition_15 : decode cX8_newCondition 15 = .ok (.aload_n 0, 1) := by decide +kernel
theorem dX8_newCondition_16 : decode cX8_newCondition 16 = .ok (.getfield 22, 3) := by decide +kernel
theorem dX8_newCondition_19 : decode cX8_newCondition 19 = .ok (.aaload, 1) := by decide +kernel
theorem dX8_newCondition_20 : decode cX8_newCondition 20 = .ok (.ifnonnull 19, 3) := by decide +kernel
theorem dX8_newCondition_23 : decode cX8_newCondition 23 = .ok (.aload_n 0, 1) := by decide +kernel
theorem dX8_newCondition_24 : decode cX8_newCondition 24 = .ok (.getfield 11, 3) := by decide +kernel
theorem dX8_newCondition_27 : decode cX8_newCondition 27 = .ok (.aload_n 0, 1) := by decide +kernel
theorem dX8_newCondition_28 : decode cX8_newCondition 28 = .ok (.getfield 22, 3) := by decide +kernel
theorem dX8_newCondition_31 : decode cX8_newCondition 31 = .ok (.new 9, 3) := by decide +kernel
theorem dX8_newCondition_34 : decode cX8_newCondition 34 = .ok (.dup, 1) := by decide +kernel
theorem dX8_newCondition_35 : decode cX8_newCondition 35 = .ok (.invokespecial 17, 3) := by decide +kernel
theorem dX8_newCondition_38 : decode cX8_newCondition 38 = .ok (.aastore, 1) := by decide +kernel
theorem dX8_newCondition_39 : decode cX8_newCondition 39 = .ok (.aload_n 0, 1) := by decide +kernel
theorem dX8_newCondition_40 : decode cX8_newCondition 40 = .ok (.dup, 1) := by decide +kernel
theorem dX8_newCondition_41 : decode cX8_newCondition 41 = .ok (.getfield 22, 3) := by decide +kernel
theorem dX8_newCondition_44 : decode cX8_newCondition 44 = .ok (.iconst 1, 1) := by decide +kernel
theorem dX8_newCondition_45 : decode cX8_newCondition 45 = .ok (.iadd, 1) := by decide +kernel
theorem dX8_newCondition_46 : decode cX8_newCondition 46 = .ok (.putfield 22, 3) := by decide +kernel
theorem dX8_newCondition_49 : decode cX8_newCondition 49 = .ok (.aload_n 0, 1) := by decide +kernel
theorem dX8_newCondition_50 : decode cX8_newCondition 50 = .ok (.getfield 11, 3) := by decide +kernel
theorem dX8_newCondition_53 : decode cX8_newCondition 53 = .ok (.aload_n 0, 1) := by decide +kernel
theorem dX8_newCondition_54 : decode cX8_newCondition 54 = .ok (.getfield 22, 3) := by decide +kernel
theorem dX8_newCondition_57 : decode cX8_newCondition 57 = .ok (.iconst 1, 1) := by decide +kernel
theorem dX8_newCondition_58 : decode cX8_newCondition 58 = .ok (.isub, 1) := by decide +kernel
theorem dX8_newCondition_59 : decode cX8_newCondition 59 = .ok (.aaload, 1) := by decide +kernel
theorem dX8_newCondition_60 : decode cX8_newCondition 60 = .ok (.areturn, 1) := by decide +kernel
def fX8_newCondition_39  (h : PH) (x0 : Nat) : Option (PH × Option Nat × Nat × Nat) :=
  oC (decide (hT h x0 = 9)) (oL (sI h 1027 x0 ((hI h 1027 x0) + 1)) (fun h2 => oN (hR h2 1028 x0) (fun a4 => oC (decide (hT h2 a4 = 105)) (oC (ix ((hI h2 1027 x0) - 1) (hN h2 a4)) (some (h2, (hC h2 a4 (Int32.toNatClampNeg ((hI h2 1027 x0) - 1))), 0, 0))))))
set_option maxHeartbeats 4000000 in
theorem wfX8_newCondition_39 {mc ms cells slots : Nat} {args : Array Value} (b : Bd p s m c cX8_newCondition 1 RX8 D aC) (hlk : meth.locks = false) (hr : meth.sig.returnType = some (.object "StatuteBench$Condition")) {Z : State → Prop} (zs : Z s) (zk : ZOK Z (Rg ad)) {hz : PH} {rz : Option Nat} {h : PH} {x0 : Nat} {kz : Nat} {mz : Nat}  {H : Heap} {locs : List Loc} {ls : Array Slot} (hf : fX8_newCondition_39 h x0 = some (hz, rz, kz, mz)) (hk : cells + kz ≤ mc) (hs : slots + mz ≤ ms) (hE : CE (EX D aC ad h) (Rg ad) s H locs) (hl : lv_has ls 1 [(0, .ref (ad x0))]) : W p l e (RM 2 44 mc ms) s m args below meth c H locs cells slots (MQ below (PQ (EX D aC ad hz) (Rg ad) (some (va_rf (Option.map ad rz)))) args s mc ms (Rg ad)) (F0 m 39 ls []) := by
  unfold fX8_newCondition_39 at hf
  refine lv_aload_n b.1 b.2.1 dX8_newCondition_39 rfl (lv_at hl 0 rfl) ?_
  refine lv_dup b.1 b.2.1 dX8_newCondition_40 rfl ?_
  obtain ⟨t1, hf⟩ := oC_s hf
  have t1 := of_decide_eq_true t1
  refine gX8_22 (x := (some x0)) b hE rfl t1 dX8_newCondition_41 ?_
  refine lv_iconst (v := 1) b.1 b.2.1 dX8_newCondition_44 (by decide) ?_
  refine lv_iadd b.1 b.2.1 dX8_newCondition_45 ?_
  obtain ⟨h2, eh2, hf⟩ := oL_s hf
  refine pX8_22 (x := (some x0)) b hE rfl t1 eh2 dX8_newCondition_46 (fun H locs hE => ?_)
  refine lv_aload_n b.1 b.2.1 dX8_newCondition_49 rfl (lv_at hl 0 rfl) ?_
  have t3 := tg_sI eh2 t1
  refine gX8_11 (x := (some x0)) b hE rfl t3 dX8_newCondition_50 ?_
  refine lv_aload_n b.1 b.2.1 dX8_newCondition_53 rfl (lv_at hl 0 rfl) ?_
  refine gX8_22 (x := (some x0)) b hE rfl t3 dX8_newCondition_54 ?_
  refine lv_iconst (v := 1) b.1 b.2.1 dX8_newCondition_57 (by decide) ?_
  refine lv_isub b.1 b.2.1 dX8_newCondition_58 ?_
  obtain ⟨a4, ea4, hf⟩ := oN_s hf
  obtain ⟨t5, hf⟩ := oC_s hf
  have t5 := of_decide_eq_true t5
  obtain ⟨g6, hf⟩ := oC_s hf
  refine q_aald5 (x := (hR h2 1028 x0)) b hE ea4 t5 g6 dX8_newCondition_59 ?_
  cases hf
  exact k_aret b hlk hr hE (le_c hk) (le_c hs) dX8_newCondition_60
def fX8_newCondition_0  (h : PH) (x0 : Nat) : Option (PH × Option Nat × Nat × Nat) :=
  oC (decide (hT h x0 = 9)) (if (hI h 1027 x0) < 6 then (oN (hR h 1028 x0) (fun a9 => oC (decide (hT h a9 = 105)) (oC (ix (hI h 1027 x0) (hN h a9)) (if (hC h a9 (Int32.toNatClampNeg (hI h 1027 x0))) = none then (oL (nO h 3) (fun h15 => oK4 1 8 (oB (fX2_init h15 (hZ h)) (fun h20 => oC (decide (hT h20 a9 = 105)) (oC (decide (hT h20 (hZ h) = 3)) (oC (ix (hI h 1027 x0) (hN h20 a9)) (oL (sC h20 a9 (Int32.toNatClampNeg (hI h 1027 x0)) (some (hZ h))) (fun h24 => fX8_newCondition_39  h24 x0)))))))) else (fX8_newCondition_39  h x0))))) else (some (h, none, 0, 0)))
set_option maxHeartbeats 4000000 in
theorem wfX8_newCondition_0 {mc ms cells slots : Nat} {args : Array Value} (b : Bd p s m c cX8_newCondition 1 RX8 D aC) (hlk : meth.locks = false) (hr : meth.sig.returnType = some (.object "StatuteBench$Condition")) {Z : State → Prop} (zs : Z s) (zk : ZOK Z (Rg ad)) {hz : PH} {rz : Option Nat} {h : PH} {x0 : Nat} {kz : Nat} {mz : Nat}  {H : Heap} {locs : List Loc} {ls : Array Slot} (hf : fX8_newCondition_0 h x0 = some (hz, rz, kz, mz)) (hk : cells + kz ≤ mc) (hs : slots + mz ≤ ms) (hE : CE (EX D aC ad h) (Rg ad) s H locs) (hl : lv_has ls 1 [(0, .ref (ad x0))]) : W p l e (RM 2 44 mc ms) s m args below meth c H locs cells slots (MQ below (PQ (EX D aC ad hz) (Rg ad) (some (va_rf (Option.map ad rz)))) args s mc ms (Rg ad)) (F0 m 0 ls []) := by
  unfold fX8_newCondition_0 at hf
  refine lv_aload_n b.1 b.2.1 dX8_newCondition_0 rfl (lv_at hl 0 rfl) ?_
  obtain ⟨t7, hf⟩ := oC_s hf
  have t7 := of_decide_eq_true t7
  refine gX8_22 (x := (some x0)) b hE rfl t7 dX8_newCondition_1 ?_
  refine lv_bipush (v := 6) b.1 b.2.1 dX8_newCondition_4 (by decide) ?_
  refine lv_icmp_lt (tgt := 11) b.1 b.2.1 dX8_newCondition_6 (by decide) (fun c8 => ?_) (fun c8 => ?_)
  · have hf := oI_t c8 hf
    refine lv_aload_n b.1 b.2.1 dX8_newCondition_11 rfl (lv_at hl 0 rfl) ?_
    refine gX8_11 (x := (some x0)) b hE rfl t7 dX8_newCondition_12 ?_
    refine lv_aload_n b.1 b.2.1 dX8_newCondition_15 rfl (lv_at hl 0 rfl) ?_
    refine gX8_22 (x := (some x0)) b hE rfl t7 dX8_newCondition_16 ?_
    obtain ⟨a9, ea9, hf⟩ := oN_s hf
    obtain ⟨t10, hf⟩ := oC_s hf
    have t10 := of_decide_eq_true t10
    obtain ⟨g11, hf⟩ := oC_s hf
    refine q_aald5 (x := (hR h 1028 x0)) b hE ea9 t10 g11 dX8_newCondition_19 ?_
    refine k_ifnonnull (x := Option.map ad (hC h a9 (Int32.toNatClampNeg (hI h 1027 x0)))) b dX8_newCondition_20 (tgt := 39) (by decide) (fun c12 => ?_) (fun c12 => ?_)
    · have hf := oI_f (fun z => c12 (Option.map_eq_none_iff.mpr z)) hf
      exact wfX8_newCondition_39 b hlk hr zs zk  hf hk hs hE (lv_sub hl [0] rfl)
    · have hf := oI_t (Option.map_eq_none_iff.mp c12) hf
      refine lv_aload_n b.1 b.2.1 dX8_newCondition_23 rfl (lv_at hl 0 rfl) ?_
      refine gX8_11 (x := (some x0)) b hE rfl t7 dX8_newCondition_24 ?_
      refine lv_aload_n b.1 b.2.1 dX8_newCondition_27 rfl (lv_at hl 0 rfl) ?_
      refine gX8_22 (x := (some x0)) b hE rfl t7 dX8_newCondition_28 ?_
      obtain ⟨h15, eh15, hf⟩ := oL_s hf
      obtain ⟨i13, j14, ei13, ej14, hf⟩ := oK4_s hf
      have t16 := tg_nO (t := 8) hE eh15 t7
      have t17 := tg_nO (t := 104) hE eh15 t10
      have t18 := tg_nO0 eh15
      refine nX8_9 b hE (le_room hk ei13) (le_room hs ej14) eh15 dX8_newCondition_31 (fun H hE => ?_)
      have hk := le_step hk ei13
      have hs := le_step hs ej14
      refine lv_dup b.1 b.2.1 dX8_newCondition_34 rfl ?_
      obtain ⟨h20, hc19, hf⟩ := oB_s hf
      refine k_callIN0 b zs zk hE (CX2_init l D aC ad zk hc19) mc_X2_init (in2 220 rfl rfl) mi_X2_init ini_RX2 rfl ok_X2_init ⟨Nat.le_of_ble_eq_true rfl, Nat.le_of_ble_eq_true rfl⟩ rfl hl.1 rfl (k_room _ (by exact Nat.le_of_ble_eq_true rfl)) ⟨le_0 hk, le_0 hs⟩ dX8_newCondition_35 (fun H locs hE => ?_)
      obtain ⟨t21, hf⟩ := oC_s hf
      have t21 := of_decide_eq_true t21
      obtain ⟨t22, hf⟩ := oC_s hf
      have t22 := of_decide_eq_true t22
      obtain ⟨g23, hf⟩ := oC_s hf
      obtain ⟨h24, eh24, hf⟩ := oL_s hf
      refine q_aast5 (x := (hR h 1028 x0)) (y := (some (hZ h))) b hE ea9 rfl t22 t21 g23 eh24 dX8_newCondition_38 (fun H locs hE => ?_)
      exact wfX8_newCondition_39 b hlk hr zs zk  hf hk hs hE (lv_sub hl [0] rfl)
  · have hf := oI_f c8 hf
    refine lv_null b.1 b.2.1 dX8_newCondition_9 ?_
    cases hf
    exact k_aret b hlk hr hE (le_c hk) (le_c hs) dX8_newCondition_10
def fX8_newCondition (h : PH) (x0 : Nat) : Option (PH × Option Nat × Nat × Nat) := fX8_newCondition_0 h x0
set_option maxHeartbeats 4000000 in
theorem CX8_newCondition (l : Launch) (D : va_G) (aC : Nat → ClassId) (ad : Nat → Nat) {Z : State → Prop} (zk : ZOK Z (Rg ad)) {h : PH} {x0 : Nat} {hz : PH} {rz : Option Nat} {kz : Nat} {mz : Nat} (hf : fX8_newCondition h x0 = some (hz, rz, kz, mz)) : CM l D aC Z yX8_newCondition cX8_newCondition 1 (some (.object "StatuteBench$Condition")) 2 44 kz mz (EX D aC ad h) [.ref (ad x0)] (EX D aC ad hz) (some (va_rf (Option.map ad rz))) (Rg ad) := by
  refine CM.of rfl ?_
  intro p e s m below meth c b hr hlk hin2 zs hE
  refine k_ent (Nat.le_of_ble_eq_true rfl) (fun ls hl => ?_)
  exact wfX8_newCondition_0 b hlk hr zs zk hf (by omega) (by omega) hE (lv_sub hl [0] rfl)
theorem dX4_startCondition_0 : decode cX4_startCondition 0 = .ok (.aload_n 0, 1) := by decide +kernel
theorem dX4_startCondition_1 : decode cX4_startCondition 1 = .ok (.getfield 60, 3) := by decide +kernel
theorem dX4_startCondition_4 : decode cX4_startCondition 4 = .ok (.lookupswitch 55 #[(260, 52), (314, 52), (315, 52), (316, 52), (317, 52)], 52) := by decide +kernel
theorem dX4_startCondition_56 : decode cX4_startCondition 56 = .ok (.goto 10, 3) := by decide +kernel
theorem dX4_startCondition_59 : decode cX4_startCondition 59 = .ok (.aload_n 0, 1) := by decide +kernel
theorem dX4_startCondition_60 : decode cX4_startCondition 60 = .ok (.iconst 1, 1) := by decide +kernel
theorem dX4_startCondition_61 : decode cX4_startCondition 61 = .ok (.invokevirtual 89, 3) := by decide +kernel
theorem dX4_startCondition_64 : decode cX4_startCondition 64 = .ok (.aconst_null, 1) := by decide +kernel
theorem dX4_startCondition_65 : decode cX4_startCondition 65 = .ok (.areturn, 1) := by decide +kernel
theorem dX4_startCondition_66 : decode cX4_startCondition 66 = .ok (.aload_n 1, 1) := by decide +kernel
theorem dX4_startCondition_67 : decode cX4_startCondition 67 = .ok (.invokevirtual 221, 3) := by decide +kernel
theorem dX4_startCondition_70 : decode cX4_startCondition 70 = .ok (.astore_n 2, 1) := by decide +kernel
theorem dX4_startCondition_71 : decode cX4_startCondition 71 = .ok (.aload_n 2, 1) := by decide +kernel
theorem dX4_startCondition_72 : decode cX4_startCondition 72 = .ok (.ifnonnull 8, 3) := by decide +kernel
theorem dX4_startCondition_75 : decode cX4_startCondition 75 = .ok (.aload_n 0, 1) := by decide +kernel
theorem dX4_startCondition_76 : decode cX4_startCondition 76 = .ok (.iconst 2, 1) := by decide +kernel
theorem dX4_startCondition_77 : decode cX4_startCondition 77 = .ok (.invokevirtual 89, 3) := by decide +kernel
theorem dX4_startCondition_80 : decode cX4_startCondition 80 = .ok (.aload_n 2, 1) := by decide +kernel
theorem dX4_startCondition_81 : decode cX4_startCondition 81 = .ok (.areturn, 1) := by decide +kernel
def fX4_startCondition_0  (h : PH) (x0 : Nat) (x1 : Option Nat) : Option (PH × Option Nat × Nat × Nat) :=
  oC (decide (hT h x0 = 5)) (oL (hI h 521 x0) (fun y2 => if y2 = 260 then (oN x1 (fun a4 => oC (decide (hT h a4 = 9)) (oB4 (fX8_newCondition h a4) (fun h8 r7 i9 j10 => oK4 i9 j10 (if r7 = none then (oC (decide (hT h8 x0 = 5)) (oB (fX4_stopAt h8 x0 2) (fun h16 => some (h16, r7, 0, 0)))) else (some (h8, r7, 0, 0))))))) else (if y2 = 314 then (oN x1 (fun a18 => oC (decide (hT h a18 = 9)) (oB4 (fX8_newCondition h a18) (fun h22 r21 i23 j24 => oK4 i23 j24 (if r21 = none then (oC (decide (hT h22 x0 = 5)) (oB (fX4_stopAt h22 x0 2) (fun h30 => some (h30, r21, 0, 0)))) else (some (h22, r21, 0, 0))))))) else (if y2 = 315 then (oN x1 (fun a32 => oC (decide (hT h a32 = 9)) (oB4 (fX8_newCondition h a32) (fun h36 r35 i37 j38 => oK4 i37 j38 (if r35 = none then (oC (decide (hT h36 x0 = 5)) (oB (fX4_stopAt h36 x0 2) (fun h44 => some (h44, r35, 0, 0)))) else (some (h36, r35, 0, 0))))))) else (if y2 = 316 then (oN x1 (fun a46 => oC (decide (hT h a46 = 9)) (oB4 (fX8_newCondition h a46) (fun h50 r49 i51 j52 => oK4 i51 j52 (if r49 = none then (oC (decide (hT h50 x0 = 5)) (oB (fX4_stopAt h50 x0 2) (fun h58 => some (h58, r49, 0, 0)))) else (some (h50, r49, 0, 0))))))) else (if y2 = 317 then (oN x1 (fun a60 => oC (decide (hT h a60 = 9)) (oB4 (fX8_newCondition h a60) (fun h64 r63 i65 j66 => oK4 i65 j66 (if r63 = none then (oC (decide (hT h64 x0 = 5)) (oB (fX4_stopAt h64 x0 2) (fun h72 => some (h72, r63, 0, 0)))) else (some (h64, r63, 0, 0))))))) else (oB (fX4_stopAt h x0 1) (fun h74 => some (h74, none, 0, 0)))))))))
set_option maxHeartbeats 4000000 in
theorem wfX4_startCondition_0 {mc ms cells slots : Nat} {args : Array Value} (b : Bd p s m c cX4_startCondition 3 RX4 D aC) (hlk : meth.locks = false) (hr : meth.sig.returnType = some (.object "StatuteBench$Condition")) {Z : State → Prop} (zs : Z s) (zk : ZOK Z (Rg ad)) {hz : PH} {rz : Option Nat} {h : PH} {x0 : Nat} {x1 : Option Nat} {kz : Nat} {mz : Nat}  {H : Heap} {locs : List Loc} {ls : Array Slot} (hf : fX4_startCondition_0 h x0 x1 = some (hz, rz, kz, mz)) (hk : cells + kz ≤ mc) (hs : slots + mz ≤ ms) (hE : CE (EX D aC ad h) (Rg ad) s H locs) (hl : lv_has ls 3 [(0, .ref (ad x0)), (1, va_rf (Option.map ad x1))]) : W p l e (RM 3 64 mc ms) s m args below meth c H locs cells slots (MQ below (PQ (EX D aC ad hz) (Rg ad) (some (va_rf (Option.map ad rz)))) args s mc ms (Rg ad)) (F0 m 0 ls []) := by
  unfold fX4_startCondition_0 at hf
  refine lv_aload_n b.1 b.2.1 dX4_startCondition_0 rfl (lv_at hl 0 rfl) ?_
  obtain ⟨t1, hf⟩ := oC_s hf
  have t1 := of_decide_eq_true t1
  refine gX4_60 (x := (some x0)) b hE rfl t1 dX4_startCondition_1 ?_
  obtain ⟨y2, ey2, hf⟩ := oL_s hf
  refine k_nmI ey2 ?_
  rcases Decidable.em (y2 = 260) with c3 | c3
  · have hf := oI_t c3 hf
    refine lv_lookup (tgt := 56) (off := 52) b.1 b.2.1 dX4_startCondition_4 (by decide) (by rw [c3] <;> rfl) (by decide) ?_
    refine lv_goto (tgt := 66) b.1 b.2.1 dX4_startCondition_56 (by decide) ?_
    refine k_aload_n (x := Option.map ad x1) b dX4_startCondition_66 rfl (lv_at hl 1 rfl) ?_
    obtain ⟨a4, ea4, hf⟩ := oN_s hf
    obtain ⟨t5, hf⟩ := oC_s hf
    have t5 := of_decide_eq_true t5
    obtain ⟨h8, r7, i9, j10, hc6, hf⟩ := oB4_s hf
    obtain ⟨i11, j12, ei11, ej12, hf⟩ := oK4_s hf
    refine k_stk [] ea4 ?_
    refine k_callV (C := RX8) b zs zk hE (CX8_newCondition l D aC ad zk hc6) mc_X8_newCondition (in3 57 rfl rfl) mi_X8_newCondition ms_X8_newCondition ini_RX8 ok_X8_newCondition (x_recv b hE (ci := 8) rfl (by decide) t5) ⟨Nat.le_of_ble_eq_true rfl, Nat.le_of_ble_eq_true rfl⟩ rfl hl.1 rfl (k_room _ (by exact Nat.le_of_ble_eq_true rfl)) ⟨le_room hk ei11, le_room hs ej12⟩ dX4_startCondition_67 (fun H locs hE => ?_)
    have hk := le_step hk ei11
    have hs := le_step hs ej12
    refine k_astore_n (x := Option.map ad r7) (lv' := [(2, va_rf (Option.map ad r7)), (0, .ref (ad x0)), (1, va_rf (Option.map ad x1))]) b dX4_startCondition_70 rfl hl (by decide) (by cases x1 <;> rfl) (fun ls hl => ?_)
    have hl := lv_sub (l' := [(2, va_rf (Option.map ad r7)), (0, .ref (ad x0))]) hl [0, 1] rfl
    refine k_aload_n (x := Option.map ad r7) b dX4_startCondition_71 rfl (lv_at hl 0 rfl) ?_
    refine k_ifnonnull (x := Option.map ad r7) b dX4_startCondition_72 (tgt := 80) (by decide) (fun c13 => ?_) (fun c13 => ?_)
    · have hf := oI_f (fun z => c13 (Option.map_eq_none_iff.mpr z)) hf
      refine k_aload_n (x := Option.map ad r7) b dX4_startCondition_80 rfl (lv_at hl 0 rfl) ?_
      cases hf
      exact k_aret b hlk hr hE (le_c hk) (le_c hs) dX4_startCondition_81
    · have hf := oI_t (Option.map_eq_none_iff.mp c13) hf
      refine lv_aload_n b.1 b.2.1 dX4_startCondition_75 rfl (lv_at hl 1 rfl) ?_
      refine lv_iconst (v := 2) b.1 b.2.1 dX4_startCondition_76 (by decide) ?_
      obtain ⟨t14, hf⟩ := oC_s hf
      have t14 := of_decide_eq_true t14
      obtain ⟨h16, hc15, hf⟩ := oB_s hf
      refine k_callV0 (C := RX4) b zs zk hE (CX4_stopAt l D aC ad zk hc15) mc_X4_stopAt (in2 183 rfl rfl) mi_X4_stopAt ms_X4_stopAt ini_RX4 ok_X4_stopAt (x_recv b hE (ci := 4) rfl (by decide) t14) ⟨Nat.le_of_ble_eq_true rfl, Nat.le_of_ble_eq_true rfl⟩ rfl hl.1 rfl (k_room _ (by exact Nat.le_of_ble_eq_true rfl)) ⟨le_0 hk, le_0 hs⟩ dX4_startCondition_77 (fun H locs hE => ?_)
      refine k_aload_n (x := Option.map ad r7) b dX4_startCondition_80 rfl (lv_at hl 0 rfl) ?_
      cases hf
      exact k_aret b hlk hr hE (le_c hk) (le_c hs) dX4_startCondition_81
  have hf := oI_f c3 hf
  rcases Decidable.em (y2 = 314) with c17 | c17
  · have hf := oI_t c17 hf
    refine lv_lookup (tgt := 56) (off := 52) b.1 b.2.1 dX4_startCondition_4 (by decide) (by rw [c17] <;> rfl) (by decide) ?_
    refine lv_goto (tgt := 66) b.1 b.2.1 dX4_startCondition_56 (by decide) ?_
    refine k_aload_n (x := Option.map ad x1) b dX4_startCondition_66 rfl (lv_at hl 1 rfl) ?_
    obtain ⟨a18, ea18, hf⟩ := oN_s hf
    obtain ⟨t19, hf⟩ := oC_s hf
    have t19 := of_decide_eq_true t19
    obtain ⟨h22, r21, i23, j24, hc20, hf⟩ := oB4_s hf
    obtain ⟨i25, j26, ei25, ej26, hf⟩ := oK4_s hf
    refine k_stk [] ea18 ?_
    refine k_callV (C := RX8) b zs zk hE (CX8_newCondition l D aC ad zk hc20) mc_X8_newCondition (in3 57 rfl rfl) mi_X8_newCondition ms_X8_newCondition ini_RX8 ok_X8_newCondition (x_recv b hE (ci := 8) rfl (by decide) t19) ⟨Nat.le_of_ble_eq_true rfl, Nat.le_of_ble_eq_true rfl⟩ rfl hl.1 rfl (k_room _ (by exact Nat.le_of_ble_eq_true rfl)) ⟨le_room hk ei25, le_room hs ej26⟩ dX4_startCondition_67 (fun H locs hE => ?_)
    have hk := le_step hk ei25
    have hs := le_step hs ej26
    refine k_astore_n (x := Option.map ad r21) (lv' := [(2, va_rf (Option.map ad r21)), (0, .ref (ad x0)), (1, va_rf (Option.map ad x1))]) b dX4_startCondition_70 rfl hl (by decide) (by cases x1 <;> rfl) (fun ls hl => ?_)
    have hl := lv_sub (l' := [(2, va_rf (Option.map ad r21)), (0, .ref (ad x0))]) hl [0, 1] rfl
    refine k_aload_n (x := Option.map ad r21) b dX4_startCondition_71 rfl (lv_at hl 0 rfl) ?_
    refine k_ifnonnull (x := Option.map ad r21) b dX4_startCondition_72 (tgt := 80) (by decide) (fun c27 => ?_) (fun c27 => ?_)
    · have hf := oI_f (fun z => c27 (Option.map_eq_none_iff.mpr z)) hf
      refine k_aload_n (x := Option.map ad r21) b dX4_startCondition_80 rfl (lv_at hl 0 rfl) ?_
      cases hf
      exact k_aret b hlk hr hE (le_c hk) (le_c hs) dX4_startCondition_81
    · have hf := oI_t (Option.map_eq_none_iff.mp c27) hf
      refine lv_aload_n b.1 b.2.1 dX4_startCondition_75 rfl (lv_at hl 1 rfl) ?_
      refine lv_iconst (v := 2) b.1 b.2.1 dX4_startCondition_76 (by decide) ?_
      obtain ⟨t28, hf⟩ := oC_s hf
      have t28 := of_decide_eq_true t28
      obtain ⟨h30, hc29, hf⟩ := oB_s hf
      refine k_callV0 (C := RX4) b zs zk hE (CX4_stopAt l D aC ad zk hc29) mc_X4_stopAt (in2 183 rfl rfl) mi_X4_stopAt ms_X4_stopAt ini_RX4 ok_X4_stopAt (x_recv b hE (ci := 4) rfl (by decide) t28) ⟨Nat.le_of_ble_eq_true rfl, Nat.le_of_ble_eq_true rfl⟩ rfl hl.1 rfl (k_room _ (by exact Nat.le_of_ble_eq_true rfl)) ⟨le_0 hk, le_0 hs⟩ dX4_startCondition_77 (fun H locs hE => ?_)
      refine k_aload_n (x := Option.map ad r21) b dX4_startCondition_80 rfl (lv_at hl 0 rfl) ?_
      cases hf
      exact k_aret b hlk hr hE (le_c hk) (le_c hs) dX4_startCondition_81
  have hf := oI_f c17 hf
  rcases Decidable.em (y2 = 315) with c31 | c31
  · have hf := oI_t c31 hf
    refine lv_lookup (tgt := 56) (off := 52) b.1 b.2.1 dX4_startCondition_4 (by decide) (by rw [c31] <;> rfl) (by decide) ?_
    refine lv_goto (tgt := 66) b.1 b.2.1 dX4_startCondition_56 (by decide) ?_
    refine k_aload_n (x := Option.map ad x1) b dX4_startCondition_66 rfl (lv_at hl 1 rfl) ?_
    obtain ⟨a32, ea32, hf⟩ := oN_s hf
    obtain ⟨t33, hf⟩ := oC_s hf
    have t33 := of_decide_eq_true t33
    obtain ⟨h36, r35, i37, j38, hc34, hf⟩ := oB4_s hf
    obtain ⟨i39, j40, ei39, ej40, hf⟩ := oK4_s hf
    refine k_stk [] ea32 ?_
    refine k_callV (C := RX8) b zs zk hE (CX8_newCondition l D aC ad zk hc34) mc_X8_newCondition (in3 57 rfl rfl) mi_X8_newCondition ms_X8_newCondition ini_RX8 ok_X8_newCondition (x_recv b hE (ci := 8) rfl (by decide) t33) ⟨Nat.le_of_ble_eq_true rfl, Nat.le_of_ble_eq_true rfl⟩ rfl hl.1 rfl (k_room _ (by exact Nat.le_of_ble_eq_true rfl)) ⟨le_room hk ei39, le_room hs ej40⟩ dX4_startCondition_67 (fun H locs hE => ?_)
    have hk := le_step hk ei39
    have hs := le_step hs ej40
    refine k_astore_n (x := Option.map ad r35) (lv' := [(2, va_rf (Option.map ad r35)), (0, .ref (ad x0)), (1, va_rf (Option.map ad x1))]) b dX4_startCondition_70 rfl hl (by decide) (by cases x1 <;> rfl) (fun ls hl => ?_)
    have hl := lv_sub (l' := [(2, va_rf (Option.map ad r35)), (0, .ref (ad x0))]) hl [0, 1] rfl
    refine k_aload_n (x := Option.map ad r35) b dX4_startCondition_71 rfl (lv_at hl 0 rfl) ?_
    refine k_ifnonnull (x := Option.map ad r35) b dX4_startCondition_72 (tgt := 80) (by decide) (fun c41 => ?_) (fun c41 => ?_)
    · have hf := oI_f (fun z => c41 (Option.map_eq_none_iff.mpr z)) hf
      refine k_aload_n (x := Option.map ad r35) b dX4_startCondition_80 rfl (lv_at hl 0 rfl) ?_
      cases hf
      exact k_aret b hlk hr hE (le_c hk) (le_c hs) dX4_startCondition_81
    · have hf := oI_t (Option.map_eq_none_iff.mp c41) hf
      refine lv_aload_n b.1 b.2.1 dX4_startCondition_75 rfl (lv_at hl 1 rfl) ?_
      refine lv_iconst (v := 2) b.1 b.2.1 dX4_startCondition_76 (by decide) ?_
      obtain ⟨t42, hf⟩ := oC_s hf
      have t42 := of_decide_eq_true t42
      obtain ⟨h44, hc43, hf⟩ := oB_s hf
      refine k_callV0 (C := RX4) b zs zk hE (CX4_stopAt l D aC ad zk hc43) mc_X4_stopAt (in2 183 rfl rfl) mi_X4_stopAt ms_X4_stopAt ini_RX4 ok_X4_stopAt (x_recv b hE (ci := 4) rfl (by decide) t42) ⟨Nat.le_of_ble_eq_true rfl, Nat.le_of_ble_eq_true rfl⟩ rfl hl.1 rfl (k_room _ (by exact Nat.le_of_ble_eq_true rfl)) ⟨le_0 hk, le_0 hs⟩ dX4_startCondition_77 (fun H locs hE => ?_)
      refine k_aload_n (x := Option.map ad r35) b dX4_startCondition_80 rfl (lv_at hl 0 rfl) ?_
      cases hf
      exact k_aret b hlk hr hE (le_c hk) (le_c hs) dX4_startCondition_81
  have hf := oI_f c31 hf
  rcases Decidable.em (y2 = 316) with c45 | c45
  · have hf := oI_t c45 hf
    refine lv_lookup (tgt := 56) (off := 52) b.1 b.2.1 dX4_startCondition_4 (by decide) (by rw [c45] <;> rfl) (by decide) ?_
    refine lv_goto (tgt := 66) b.1 b.2.1 dX4_startCondition_56 (by decide) ?_
    refine k_aload_n (x := Option.map ad x1) b dX4_startCondition_66 rfl (lv_at hl 1 rfl) ?_
    obtain ⟨a46, ea46, hf⟩ := oN_s hf
    obtain ⟨t47, hf⟩ := oC_s hf
    have t47 := of_decide_eq_true t47
    obtain ⟨h50, r49, i51, j52, hc48, hf⟩ := oB4_s hf
    obtain ⟨i53, j54, ei53, ej54, hf⟩ := oK4_s hf
    refine k_stk [] ea46 ?_
    refine k_callV (C := RX8) b zs zk hE (CX8_newCondition l D aC ad zk hc48) mc_X8_newCondition (in3 57 rfl rfl) mi_X8_newCondition ms_X8_newCondition ini_RX8 ok_X8_newCondition (x_recv b hE (ci := 8) rfl (by decide) t47) ⟨Nat.le_of_ble_eq_true rfl, Nat.le_of_ble_eq_true rfl⟩ rfl hl.1 rfl (k_room _ (by exact Nat.le_of_ble_eq_true rfl)) ⟨le_room hk ei53, le_room hs ej54⟩ dX4_startCondition_67 (fun H locs hE => ?_)
    have hk := le_step hk ei53
    have hs := le_step hs ej54
    refine k_astore_n (x := Option.map ad r49) (lv' := [(2, va_rf (Option.map ad r49)), (0, .ref (ad x0)), (1, va_rf (Option.map ad x1))]) b dX4_startCondition_70 rfl hl (by decide) (by cases x1 <;> rfl) (fun ls hl => ?_)
    have hl := lv_sub (l' := [(2, va_rf (Option.map ad r49)), (0, .ref (ad x0))]) hl [0, 1] rfl
    refine k_aload_n (x := Option.map ad r49) b dX4_startCondition_71 rfl (lv_at hl 0 rfl) ?_
    refine k_ifnonnull (x := Option.map ad r49) b dX4_startCondition_72 (tgt := 80) (by decide) (fun c55 => ?_) (fun c55 => ?_)
    · have hf := oI_f (fun z => c55 (Option.map_eq_none_iff.mpr z)) hf
      refine k_aload_n (x := Option.map ad r49) b dX4_startCondition_80 rfl (lv_at hl 0 rfl) ?_
      cases hf
      exact k_aret b hlk hr hE (le_c hk) (le_c hs) dX4_startCondition_81
    · have hf := oI_t (Option.map_eq_none_iff.mp c55) hf
      refine lv_aload_n b.1 b.2.1 dX4_startCondition_75 rfl (lv_at hl 1 rfl) ?_
      refine lv_iconst (v := 2) b.1 b.2.1 dX4_startCondition_76 (by decide) ?_
      obtain ⟨t56, hf⟩ := oC_s hf
      have t56 := of_decide_eq_true t56
      obtain ⟨h58, hc57, hf⟩ := oB_s hf
      refine k_callV0 (C := RX4) b zs zk hE (CX4_stopAt l D aC ad zk hc57) mc_X4_stopAt (in2 183 rfl rfl) mi_X4_stopAt ms_X4_stopAt ini_RX4 ok_X4_stopAt (x_recv b hE (ci := 4) rfl (by decide) t56) ⟨Nat.le_of_ble_eq_true rfl, Nat.le_of_ble_eq_true rfl⟩ rfl hl.1 rfl (k_room _ (by exact Nat.le_of_ble_eq_true rfl)) ⟨le_0 hk, le_0 hs⟩ dX4_startCondition_77 (fun H locs hE => ?_)
      refine k_aload_n (x := Option.map ad r49) b dX4_startCondition_80 rfl (lv_at hl 0 rfl) ?_
      cases hf
      exact k_aret b hlk hr hE (le_c hk) (le_c hs) dX4_startCondition_81
  have hf := oI_f c45 hf
  rcases Decidable.em (y2 = 317) with c59 | c59
  · have hf := oI_t c59 hf
    refine lv_lookup (tgt := 56) (off := 52) b.1 b.2.1 dX4_startCondition_4 (by decide) (by rw [c59] <;> rfl) (by decide) ?_
    refine lv_goto (tgt := 66) b.1 b.2.1 dX4_startCondition_56 (by decide) ?_
    refine k_aload_n (x := Option.map ad x1) b dX4_startCondition_66 rfl (lv_at hl 1 rfl) ?_
    obtain ⟨a60, ea60, hf⟩ := oN_s hf
    obtain ⟨t61, hf⟩ := oC_s hf
    have t61 := of_decide_eq_true t61
    obtain ⟨h64, r63, i65, j66, hc62, hf⟩ := oB4_s hf
    obtain ⟨i67, j68, ei67, ej68, hf⟩ := oK4_s hf
    refine k_stk [] ea60 ?_
    refine k_callV (C := RX8) b zs zk hE (CX8_newCondition l D aC ad zk hc62) mc_X8_newCondition (in3 57 rfl rfl) mi_X8_newCondition ms_X8_newCondition ini_RX8 ok_X8_newCondition (x_recv b hE (ci := 8) rfl (by decide) t61) ⟨Nat.le_of_ble_eq_true rfl, Nat.le_of_ble_eq_true rfl⟩ rfl hl.1 rfl (k_room _ (by exact Nat.le_of_ble_eq_true rfl)) ⟨le_room hk ei67, le_room hs ej68⟩ dX4_startCondition_67 (fun H locs hE => ?_)
    have hk := le_step hk ei67
    have hs := le_step hs ej68
    refine k_astore_n (x := Option.map ad r63) (lv' := [(2, va_rf (Option.map ad r63)), (0, .ref (ad x0)), (1, va_rf (Option.map ad x1))]) b dX4_startCondition_70 rfl hl (by decide) (by cases x1 <;> rfl) (fun ls hl => ?_)
    have hl := lv_sub (l' := [(2, va_rf (Option.map ad r63)), (0, .ref (ad x0))]) hl [0, 1] rfl
    refine k_aload_n (x := Option.map ad r63) b dX4_startCondition_71 rfl (lv_at hl 0 rfl) ?_
    refine k_ifnonnull (x := Option.map ad r63) b dX4_startCondition_72 (tgt := 80) (by decide) (fun c69 => ?_) (fun c69 => ?_)
    · have hf := oI_f (fun z => c69 (Option.map_eq_none_iff.mpr z)) hf
      refine k_aload_n (x := Option.map ad r63) b dX4_startCondition_80 rfl (lv_at hl 0 rfl) ?_
      cases hf
      exact k_aret b hlk hr hE (le_c hk) (le_c hs) dX4_startCondition_81
    · have hf := oI_t (Option.map_eq_none_iff.mp c69) hf
      refine lv_aload_n b.1 b.2.1 dX4_startCondition_75 rfl (lv_at hl 1 rfl) ?_
      refine lv_iconst (v := 2) b.1 b.2.1 dX4_startCondition_76 (by decide) ?_
      obtain ⟨t70, hf⟩ := oC_s hf
      have t70 := of_decide_eq_true t70
      obtain ⟨h72, hc71, hf⟩ := oB_s hf
      refine k_callV0 (C := RX4) b zs zk hE (CX4_stopAt l D aC ad zk hc71) mc_X4_stopAt (in2 183 rfl rfl) mi_X4_stopAt ms_X4_stopAt ini_RX4 ok_X4_stopAt (x_recv b hE (ci := 4) rfl (by decide) t70) ⟨Nat.le_of_ble_eq_true rfl, Nat.le_of_ble_eq_true rfl⟩ rfl hl.1 rfl (k_room _ (by exact Nat.le_of_ble_eq_true rfl)) ⟨le_0 hk, le_0 hs⟩ dX4_startCondition_77 (fun H locs hE => ?_)
      refine k_aload_n (x := Option.map ad r63) b dX4_startCondition_80 rfl (lv_at hl 0 rfl) ?_
      cases hf
      exact k_aret b hlk hr hE (le_c hk) (le_c hs) dX4_startCondition_81
  have hf := oI_f c59 hf
  refine lv_lookup (tgt := 59) (off := 55) b.1 b.2.1 dX4_startCondition_4 (by decide) (by rw [lv_osw c3 (by decide), lv_osw c17 (by decide), lv_osw c31 (by decide), lv_osw c45 (by decide), lv_osw c59 (by decide)] <;> rfl) (by decide) ?_
  refine lv_aload_n b.1 b.2.1 dX4_startCondition_59 rfl (lv_at hl 0 rfl) ?_
  refine lv_iconst (v := 1) b.1 b.2.1 dX4_startCondition_60 (by decide) ?_
  obtain ⟨h74, hc73, hf⟩ := oB_s hf
  refine k_callV0 (C := RX4) b zs zk hE (CX4_stopAt l D aC ad zk hc73) mc_X4_stopAt (in2 183 rfl rfl) mi_X4_stopAt ms_X4_stopAt ini_RX4 ok_X4_stopAt (x_recv b hE (ci := 4) rfl (by decide) t1) ⟨Nat.le_of_ble_eq_true rfl, Nat.le_of_ble_eq_true rfl⟩ rfl hl.1 rfl (k_room _ (by exact Nat.le_of_ble_eq_true rfl)) ⟨le_0 hk, le_0 hs⟩ dX4_startCondition_61 (fun H locs hE => ?_)
  refine lv_null b.1 b.2.1 dX4_startCondition_64 ?_
  cases hf
  exact k_aret b hlk hr hE (le_c hk) (le_c hs) dX4_startCondition_65
def fX4_startCondition (h : PH) (x0 : Nat) (x1 : Option Nat) : Option (PH × Option Nat × Nat × Nat) := fX4_startCondition_0 h x0 x1
set_option maxHeartbeats 4000000 in
theorem CX4_startCondition (l : Launch) (D : va_G) (aC : Nat → ClassId) (ad : Nat → Nat) {Z : State → Prop} (zk : ZOK Z (Rg ad)) {h : PH} {x0 : Nat} {x1 : Option Nat} {hz : PH} {rz : Option Nat} {kz : Nat} {mz : Nat} (hf : fX4_startCondition h x0 x1 = some (hz, rz, kz, mz)) : CM l D aC Z yX4_startCondition cX4_startCondition 3 (some (.object "StatuteBench$Condition")) 3 64 kz mz (EX D aC ad h) [.ref (ad x0), va_rf (Option.map ad x1)] (EX D aC ad hz) (some (va_rf (Option.map ad rz))) (Rg ad) := by
  refine CM.of rfl ?_
  intro p e s m below meth c b hr hlk hin2 zs hE
  cases x1 <;> (
    refine k_ent (Nat.le_of_ble_eq_true rfl) (fun ls hl => ?_)
    exact wfX4_startCondition_0 b hlk hr zs zk hf (by omega) (by omega) hE (lv_sub hl [0, 1] rfl))
theorem dX4_variableNumber_0 : decode cX4_variableNumber 0 = .ok (.iconst 0, 1) := by decide +kernel
theorem dX4_variableNumber_1 : decode cX4_variableNumber 1 = .ok (.istore_n 2, 1) := by decide +kernel
theorem dX4_variableNumber_2 : decode cX4_variableNumber 2 = .ok (.iload_n 2, 1) := by decide +kernel
theorem dX4_variableNumber_3 : decode cX4_variableNumber 3 = .ok (.aload_n 0, 1) := by decide +kernel
theorem dX4_variableNumber_4 : decode cX4_variableNumber 4 = .ok (.getfield 92, 3) := by decide +kernel
theorem dX4_variableNumber_7 : decode cX4_variableNumber 7 = .ok (.if_icmp .ge 21, 3) := by decide +kernel
theorem dX4_variableNumber_10 : decode cX4_variableNumber 10 = .ok (.aload_n 0, 1) := by decide +kernel
theorem dX4_variableNumber_11 : decode cX4_variableNumber 11 = .ok (.getfield 18, 3) := by decide +kernel
theorem dX4_variableNumber_14 : decode cX4_variableNumber 14 = .ok (.iload_n 2, 1) := by decide +kernel
theorem dX4_variableNumber_15 : decode cX4_variableNumber 15 = .ok (.iaload, 1) := by decide +kernel
theorem dX4_variableNumber_16 : decode cX4_variableNumber 16 = .ok (.iload_n 1, 1) := by decide +kernel
theorem dX4_variableNumber_17 : decode cX4_variableNumber 17 = .ok (.if_icmp .ne 5, 3) := by decide +kernel
theorem dX4_variableNumber_20 : decode cX4_variableNumber 20 = .ok (.iload_n 2, 1) := by decide +kernel
theorem dX4_variableNumber_21 : decode cX4_variableNumber 21 = .ok (.ireturn, 1) := by decide +kernel
theorem dX4_variableNumber_22 : decode cX4_variableNumber 22 = .ok (.iinc 2 1, 3) := by decide +kernel
theorem dX4_variableNumber_25 : decode cX4_variableNumber 25 = .ok (.goto (-23), 3) := by decide +kernel
theorem dX4_variableNumber_28 : decode cX4_variableNumber 28 = .ok (.aload_n 0, 1) := by decide +kernel
theorem dX4_variableNumber_29 : decode cX4_variableNumber 29 = .ok (.getfield 92, 3) := by decide +kernel
theorem dX4_variableNumber_32 : decode cX4_variableNumber 32 = .ok (.iconst 3, 1) := by decide +kernel
theorem dX4_variableNumber_33 : decode cX4_variableNumber 33 = .ok (.if_icmp .lt 5, 3) := by decide +kernel
theorem dX4_variableNumber_36 : decode cX4_variableNumber 36 = .ok (.iconst (-1), 1) := by decide +kernel
theorem dX4_variableNumber_37 : decode cX4_variableNumber 37 = .ok (.ireturn, 1) := by decide +kernel
theorem dX4_variableNumber_38 : decode cX4_variableNumber 38 = .ok (.aload_n 0, 1) := by decide +kernel
theorem dX4_variableNumber_39 : decode cX4_variableNumber 39 = .ok (.getfield 18, 3) := by decide +kernel
theorem dX4_variableNumber_42 : decode cX4_variableNumber 42 = .ok (.aload_n 0, 1) := by decide +kernel
theorem dX4_variableNumber_43 : decode cX4_variableNumber 43 = .ok (.getfield 92, 3) := by decide +kernel
theorem dX4_variableNumber_46 : decode cX4_variableNumber 46 = .ok (.iload_n 1, 1) := by decide +kernel
theorem dX4_variableNumber_47 : decode cX4_variableNumber 47 = .ok (.iastore, 1) := by decide +kernel
theorem dX4_variableNumber_48 : decode cX4_variableNumber 48 = .ok (.aload_n 0, 1) := by decide +kernel
theorem dX4_variableNumber_49 : decode cX4_variableNumber 49 = .ok (.dup, 1) := by decide +kernel
theorem dX4_variableNumber_50 : decode cX4_variableNumber 50 = .ok (.getfield 92, 3) := by decide +kernel
theorem dX4_variableNumber_53 : decode cX4_variableNumber 53 = .ok (.iconst 1, 1) := by decide +kernel
theorem dX4_variableNumber_54 : decode cX4_variableNumber 54 = .ok (.iadd, 1) := by decide +kernel
theorem dX4_variableNumber_55 : decode cX4_variableNumber 55 = .ok (.putfield 92, 3) := by decide +kernel
theorem dX4_variableNumber_58 : decode cX4_variableNumber 58 = .ok (.aload_n 0, 1) := by decide +kernel
theorem dX4_variableNumber_59 : decode cX4_variableNumber 59 = .ok (.getfield 92, 3) := by decide +kernel
theorem dX4_variableNumber_62 : decode cX4_variableNumber 62 = .ok (.iconst 1, 1) := by decide +kernel
theorem dX4_variableNumber_63 : decode cX4_variableNumber 63 = .ok (.isub, 1) := by decide +kernel
theorem dX4_variableNumber_64 : decode cX4_variableNumber 64 = .ok (.ireturn, 1) := by decide +kernel
def fX4_variableNumber_2F (k2 : PH → Nat → Int32 → Int32 → Option (PH × Int32)) (h : PH) (x0 : Nat) (x1 : Int32) (x2 : Int32) : Option (PH × Int32) :=
  oC (decide (hT h x0 = 5)) (if (hI h 516 x0) ≤ x2 then (if (hI h 516 x0) < 3 then (oN (hR h 514 x0) (fun a4 => oC (decide (hT h a4 = 101)) (oC (ix (hI h 516 x0) (hN h a4)) (oL (sA h a4 (Int32.toNatClampNeg (hI h 516 x0)) x1) (fun h7 => oL (sI h7 516 x0 ((hI h7 516 x0) + 1)) (fun h9 => some (h9, ((hI h9 516 x0) - 1)))))))) else (some (h, (-1)))) else (oN (hR h 514 x0) (fun a11 => oC (decide (hT h a11 = 101)) (oC (ix x2 (hN h a11)) (if (hA h a11 (Int32.toNatClampNeg x2)) = x1 then (some (h, x2)) else (oL (x2 + 1) (fun y15 => k2 h x0 x1 y15)))))))
set_option maxHeartbeats 4000000 in
theorem wfX4_variableNumber_2F {args : Array Value} (b : Bd p s m c cX4_variableNumber 3 RX4 D aC) (hlk : meth.locks = false) (hr : meth.sig.returnType = some .int) {Z : State → Prop} (zs : Z s) (zk : ZOK Z (Rg ad)) {hz : PH} {rz : Int32} {k2 : PH → Nat → Int32 → Int32 → Option (PH × Int32)} (H2 : ∀ (h : PH) (x0 : Nat) (x1 : Int32) (x2 : Int32), ∀ (H : Heap) (locs : List Loc) (ls : Array Slot), k2 h x0 x1 x2 = some (hz, rz) → CE (EX D aC ad h) (Rg ad) s H locs → lv_has ls 3 [(0, .ref (ad x0)), (1, .int x1), (2, .int x2)] → W p l e (RM 0 0 0 0) s m args below meth c H locs 0 0 (MQ below (PQ (EX D aC ad hz) (Rg ad) (some (.int rz))) args s 0 0 (Rg ad)) (F0 m 2 ls [])) {h : PH} {x0 : Nat} {x1 : Int32} {x2 : Int32}  {H : Heap} {locs : List Loc} {ls : Array Slot} (hf : fX4_variableNumber_2F k2 h x0 x1 x2 = some (hz, rz)) (hE : CE (EX D aC ad h) (Rg ad) s H locs) (hl : lv_has ls 3 [(0, .ref (ad x0)), (1, .int x1), (2, .int x2)]) : W p l e (RM 0 0 0 0) s m args below meth c H locs 0 0 (MQ below (PQ (EX D aC ad hz) (Rg ad) (some (.int rz))) args s 0 0 (Rg ad)) (F0 m 2 ls []) := by
  unfold fX4_variableNumber_2F at hf
  refine lv_iload_n b.1 b.2.1 dX4_variableNumber_2 rfl (lv_at hl 2 rfl) ?_
  refine lv_aload_n b.1 b.2.1 dX4_variableNumber_3 rfl (lv_at hl 0 rfl) ?_
  obtain ⟨t1, hf⟩ := oC_s hf
  have t1 := of_decide_eq_true t1
  refine gX4_92 (x := (some x0)) b hE rfl t1 dX4_variableNumber_4 ?_
  refine lv_icmp_ge (tgt := 28) b.1 b.2.1 dX4_variableNumber_7 (by decide) (fun c2 => ?_) (fun c2 => ?_)
  · have hf := oI_t c2 hf
    refine lv_aload_n b.1 b.2.1 dX4_variableNumber_28 rfl (lv_at hl 0 rfl) ?_
    refine gX4_92 (x := (some x0)) b hE rfl t1 dX4_variableNumber_29 ?_
    refine lv_iconst (v := 3) b.1 b.2.1 dX4_variableNumber_32 (by decide) ?_
    refine lv_icmp_lt (tgt := 38) b.1 b.2.1 dX4_variableNumber_33 (by decide) (fun c3 => ?_) (fun c3 => ?_)
    · have hf := oI_t c3 hf
      refine lv_aload_n b.1 b.2.1 dX4_variableNumber_38 rfl (lv_at hl 0 rfl) ?_
      refine gX4_18 (x := (some x0)) b hE rfl t1 dX4_variableNumber_39 ?_
      refine lv_aload_n b.1 b.2.1 dX4_variableNumber_42 rfl (lv_at hl 0 rfl) ?_
      refine gX4_92 (x := (some x0)) b hE rfl t1 dX4_variableNumber_43 ?_
      refine lv_iload_n b.1 b.2.1 dX4_variableNumber_46 rfl (lv_at hl 1 rfl) ?_
      obtain ⟨a4, ea4, hf⟩ := oN_s hf
      obtain ⟨t5, hf⟩ := oC_s hf
      have t5 := of_decide_eq_true t5
      obtain ⟨g6, hf⟩ := oC_s hf
      obtain ⟨h7, eh7, hf⟩ := oL_s hf
      refine q_iast (x := (hR h 514 x0)) b hE ea4 t5 g6 eh7 dX4_variableNumber_47 (fun H locs hE => ?_)
      refine lv_aload_n b.1 b.2.1 dX4_variableNumber_48 rfl (lv_at hl 0 rfl) ?_
      refine lv_dup b.1 b.2.1 dX4_variableNumber_49 rfl ?_
      have t8 := tg_sA eh7 t1
      refine gX4_92 (x := (some x0)) b hE rfl t8 dX4_variableNumber_50 ?_
      refine lv_iconst (v := 1) b.1 b.2.1 dX4_variableNumber_53 (by decide) ?_
      refine lv_iadd b.1 b.2.1 dX4_variableNumber_54 ?_
      obtain ⟨h9, eh9, hf⟩ := oL_s hf
      refine pX4_92 (x := (some x0)) b hE rfl t8 eh9 dX4_variableNumber_55 (fun H locs hE => ?_)
      refine lv_aload_n b.1 b.2.1 dX4_variableNumber_58 rfl (lv_at hl 0 rfl) ?_
      have t10 := tg_sI eh9 t8
      refine gX4_92 (x := (some x0)) b hE rfl t10 dX4_variableNumber_59 ?_
      refine lv_iconst (v := 1) b.1 b.2.1 dX4_variableNumber_62 (by decide) ?_
      refine lv_isub b.1 b.2.1 dX4_variableNumber_63 ?_
      cases hf
      exact k_iret b hlk hr hE (Nat.le_refl _) (Nat.le_refl _) dX4_variableNumber_64
    · have hf := oI_f c3 hf
      refine lv_iconst (v := (-1)) b.1 b.2.1 dX4_variableNumber_36 (by decide) ?_
      cases hf
      exact k_iret b hlk hr hE (Nat.le_refl _) (Nat.le_refl _) dX4_variableNumber_37
  · have hf := oI_f c2 hf
    refine lv_aload_n b.1 b.2.1 dX4_variableNumber_10 rfl (lv_at hl 0 rfl) ?_
    refine gX4_18 (x := (some x0)) b hE rfl t1 dX4_variableNumber_11 ?_
    refine lv_iload_n b.1 b.2.1 dX4_variableNumber_14 rfl (lv_at hl 2 rfl) ?_
    obtain ⟨a11, ea11, hf⟩ := oN_s hf
    obtain ⟨t12, hf⟩ := oC_s hf
    have t12 := of_decide_eq_true t12
    obtain ⟨g13, hf⟩ := oC_s hf
    refine q_iald (x := (hR h 514 x0)) b hE ea11 t12 g13 dX4_variableNumber_15 ?_
    refine lv_iload_n b.1 b.2.1 dX4_variableNumber_16 rfl (lv_at hl 1 rfl) ?_
    refine lv_icmp_ne (tgt := 22) b.1 b.2.1 dX4_variableNumber_17 (by decide) (fun c14 => ?_) (fun c14 => ?_)
    · have hf := oI_f c14 hf
      obtain ⟨y15, ey15, hf⟩ := oL_s hf
      refine lv_iinc (v := y15) (lv' := [(2, .int y15), (0, .ref (ad x0)), (1, .int x1)]) b.1 b.2.1 dX4_variableNumber_22 hl (k := 2) rfl (by rw [ey15]; rfl) (by decide) rfl (fun ls hl => ?_)
      refine lv_goto (tgt := 2) b.1 b.2.1 dX4_variableNumber_25 (by decide) ?_
      exact H2 h x0 x1 y15 _ _ _ hf hE (lv_sub hl [1, 2, 0] rfl)
    · have hf := oI_t c14 hf
      refine lv_iload_n b.1 b.2.1 dX4_variableNumber_20 rfl (lv_at hl 2 rfl) ?_
      cases hf
      exact k_iret b hlk hr hE (Nat.le_refl _) (Nat.le_refl _) dX4_variableNumber_21
def fX4_variableNumber_2  : Nat → PH → Nat → Int32 → Int32 → Option (PH × Int32)
  | 0 => fun _ _ _ _ => none
  | n + 1 => fX4_variableNumber_2F  (fX4_variableNumber_2  n)
set_option maxHeartbeats 4000000 in
theorem wfX4_variableNumber_2 {args : Array Value} (b : Bd p s m c cX4_variableNumber 3 RX4 D aC) (hlk : meth.locks = false) (hr : meth.sig.returnType = some .int) {Z : State → Prop} (zs : Z s) (zk : ZOK Z (Rg ad)) {hz : PH} {rz : Int32} : ∀ n : Nat, ∀ (h : PH) (x0 : Nat) (x1 : Int32) (x2 : Int32), ∀ (H : Heap) (locs : List Loc) (ls : Array Slot), fX4_variableNumber_2  n h x0 x1 x2 = some (hz, rz) → CE (EX D aC ad h) (Rg ad) s H locs → lv_has ls 3 [(0, .ref (ad x0)), (1, .int x1), (2, .int x2)] → W p l e (RM 0 0 0 0) s m args below meth c H locs 0 0 (MQ below (PQ (EX D aC ad hz) (Rg ad) (some (.int rz))) args s 0 0 (Rg ad)) (F0 m 2 ls []) := by
  intro n
  induction n with
  | zero =>
    intro h x0 x1 x2 H locs ls hf
    have hf : (none : Option (PH × Int32)) = some _ := hf
    cases hf
  | succ n ih =>
    intro h x0 x1 x2 H locs ls hf hE hl
    exact wfX4_variableNumber_2F b hlk hr zs zk  ih hf hE hl
def fX4_variableNumber_0  (h : PH) (x0 : Nat) (x1 : Int32) : Option (PH × Int32) :=
  fX4_variableNumber_2  FU h x0 x1 0
set_option maxHeartbeats 4000000 in
theorem wfX4_variableNumber_0 {args : Array Value} (b : Bd p s m c cX4_variableNumber 3 RX4 D aC) (hlk : meth.locks = false) (hr : meth.sig.returnType = some .int) {Z : State → Prop} (zs : Z s) (zk : ZOK Z (Rg ad)) {hz : PH} {rz : Int32} {h : PH} {x0 : Nat} {x1 : Int32}  {H : Heap} {locs : List Loc} {ls : Array Slot} (hf : fX4_variableNumber_0 h x0 x1 = some (hz, rz)) (hE : CE (EX D aC ad h) (Rg ad) s H locs) (hl : lv_has ls 3 [(0, .ref (ad x0)), (1, .int x1)]) : W p l e (RM 0 0 0 0) s m args below meth c H locs 0 0 (MQ below (PQ (EX D aC ad hz) (Rg ad) (some (.int rz))) args s 0 0 (Rg ad)) (F0 m 0 ls []) := by
  unfold fX4_variableNumber_0 at hf
  refine lv_iconst (v := 0) b.1 b.2.1 dX4_variableNumber_0 (by decide) ?_
  refine lv_istore_n (lv' := [(2, .int 0), (0, .ref (ad x0)), (1, .int x1)]) b.1 b.2.1 dX4_variableNumber_1 rfl hl (by decide) rfl (fun ls hl => ?_)
  exact wfX4_variableNumber_2 b hlk hr zs zk  FU h x0 x1 0 _ _ _ hf hE (lv_sub hl [1, 2, 0] rfl)
def fX4_variableNumber (h : PH) (x0 : Nat) (x1 : Int32) : Option (PH × Int32) := fX4_variableNumber_0 h x0 x1
set_option maxHeartbeats 4000000 in
theorem CX4_variableNumber (l : Launch) (D : va_G) (aC : Nat → ClassId) (ad : Nat → Nat) {Z : State → Prop} (zk : ZOK Z (Rg ad)) {h : PH} {x0 : Nat} {x1 : Int32} {hz : PH} {rz : Int32} (hf : fX4_variableNumber h x0 x1 = some (hz, rz)) : CM l D aC Z yX4_variableNumber cX4_variableNumber 3 (some .int) 0 0 0 0 (EX D aC ad h) [.ref (ad x0), .int x1] (EX D aC ad hz) (some (.int rz)) (Rg ad) := by
  refine CM.of rfl ?_
  intro p e s m below meth c b hr hlk hin2 zs hE
  refine k_ent (Nat.le_of_ble_eq_true rfl) (fun ls hl => ?_)
  exact wfX4_variableNumber_0 b hlk hr zs zk hf hE (lv_sub hl [0, 1] rfl)
end
