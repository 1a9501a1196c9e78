section
variable {p : Program} {l : Launch} {e : Env} {s : State} {m : MethodId} {below : List Frame} {meth : Method} {c : Code} {D : va_G} {aC : Nat → ClassId} {ad : Nat → Nat}
theorem dX4_init_0 : decode cX4_init 0 = .ok (.aload_n 0, 1) := by decide +kernel
theorem dX4_init_1 : decode cX4_init 1 = .ok (.invokespecial 3, 3) := by decide +kernel
theorem dX4_init_4 : decode cX4_init 4 = .ok (.aload_n 0, 1) := by decide +kernel
theorem dX4_init_5 : decode cX4_init 5 = .ok (.new 9, 3) := by decide +kernel
theorem dX4_init_8 : decode cX4_init 8 = .ok (.dup, 1) := by decide +kernel
theorem dX4_init_9 : decode cX4_init 9 = .ok (.invokespecial 11, 3) := by decide +kernel
theorem dX4_init_12 : decode cX4_init 12 = .ok (.putfield 12, 3) := by decide +kernel
theorem dX4_init_15 : decode cX4_init 15 = .ok (.aload_n 0, 1) := by decide +kernel
theorem dX4_init_16 : decode cX4_init 16 = .ok (.iconst 3, 1) := by decide +kernel
theorem dX4_init_17 : decode cX4_init 17 = .ok (.newarray .int, 2) := by decide +kernel
theorem dX4_init_19 : decode cX4_init 19 = .ok (.putfield 18, 3) := by decide +kernel
theorem dX4_init_22 : decode cX4_init 22 = .ok (.aload_n 0, 1) := by decide +kernel
theorem dX4_init_23 : decode cX4_init 23 = .ok (.bipush 20, 2) := by decide +kernel
theorem dX4_init_25 : decode cX4_init 25 = .ok (.newarray .int, 2) := by decide +kernel
theorem dX4_init_27 : decode cX4_init 27 = .ok (.putfield 22, 3) := by decide +kernel
theorem dX4_init_30 : decode cX4_init 30 = .ok (.aload_n 0, 1) := by decide +kernel
theorem dX4_init_31 : decode cX4_init 31 = .ok (.aload_n 1, 1) := by decide +kernel
theorem dX4_init_32 : decode cX4_init 32 = .ok (.putfield 25, 3) := by decide +kernel
theorem dX4_init_35 : decode cX4_init 35 = .ok (.return_, 1) := by decide +kernel
def fX4_init_0  (h : PH) (x0 : Nat) (x1 : Option Nat) : Option (PH × Nat × Nat) :=
  oL (nO h 11) (fun h3 => oK3 1 7 (oB3 (fX10_init h3 (hZ h)) (fun h6 i7 j8 => oK3 i7 j8 (oC (decide (hT h6 x0 = 5)) (oL (sR h6 513 x0 (some (hZ h))) (fun h12 => oL (nA h12 101 (Int32.toNatClampNeg 3)) (fun h16 => oK3 1 (Int32.toNatClampNeg 3) (oL (sR h16 514 x0 (some (hZ h12))) (fun h19 => oL (nA h19 101 (Int32.toNatClampNeg 20)) (fun h24 => oK3 1 (Int32.toNatClampNeg 20) (oL (sR h24 515 x0 (some (hZ h19))) (fun h28 => oL (sR h28 512 x0 x1) (fun h30 => some (h30, 0, 0))))))))))))))
set_option maxHeartbeats 4000000 in
theorem wfX4_init_0 {mc ms cells slots : Nat} {args : Array Value} (b : Bd p s m c cX4_init 2 RX4 D aC) (hlk : meth.locks = false) (hr : meth.sig.returnType = none) {Z : State → Prop} (zs : Z s) (zk : ZOK Z (Rg ad)) {adK adV : Nat → Nat} (hStr : ∀ U : State, Z U → ZS adK adV (Rg ad) U) (hin2 : meth.name = "<init>") {hz : PH} {h : PH} {x0 : Nat} {x1 : Option Nat} {kz : Nat} {mz : Nat}  {H : Heap} {locs : List Loc} {ls : Array Slot} (hf : fX4_init_0 h x0 x1 = some (hz, kz, mz)) (hk : cells + kz ≤ mc) (hs : slots + mz ≤ ms) (hE : CE (EX D aC ad h) (Rg ad) s H locs) (hl : lv_has ls 2 [(0, .ref (ad x0)), (1, va_rf (Option.map ad x1))]) : W p l e (RM 5 108 mc ms) s m args below meth c H locs cells slots (MQ below (PQ (EX D aC ad hz) (Rg ad) none) args s mc ms (Rg ad)) (F0 m 0 ls []) := by
  unfold fX4_init_0 at hf
  refine lv_aload_n b.1 b.2.1 dX4_init_0 rfl (lv_at hl 0 rfl) ?_
  refine k_objInit b (in1 153 rfl rfl) objI objC hl.1 ⟨Nat.le_of_ble_eq_true rfl, Nat.le_of_ble_eq_true rfl⟩ (Nat.le_of_ble_eq_true rfl) dX4_init_1 ?_
  refine lv_aload_n b.1 b.2.1 dX4_init_4 rfl (lv_at hl 0 rfl) ?_
  obtain ⟨h3, eh3, hf⟩ := oL_s hf
  obtain ⟨i1, j2, ei1, ej2, hf⟩ := oK3_s hf
  have t4 := tg_nO0 eh3
  refine nX4_9 b hE (le_room hk ei1) (le_room hs ej2) eh3 dX4_init_5 (fun H hE => ?_)
  have hk := le_step hk ei1
  have hs := le_step hs ej2
  refine lv_dup b.1 b.2.1 dX4_init_8 rfl ?_
  obtain ⟨h6, i7, j8, hc5, hf⟩ := oB3_s hf
  obtain ⟨i9, j10, ei9, ej10, hf⟩ := oK3_s hf
  refine k_callI b zs zk hE (CX10_init l D aC ad zk hStr hc5) mc_X10_init (in1 156 rfl rfl) mi_X10_init ini_RX10 rfl ok_X10_init ⟨Nat.le_of_ble_eq_true rfl, Nat.le_of_ble_eq_true rfl⟩ rfl hl.1 rfl (k_room _ (by exact Nat.le_of_ble_eq_true rfl)) ⟨le_room hk ei9, le_room hs ej10⟩ dX4_init_9 (fun H locs hE => ?_)
  have hk := le_step hk ei9
  have hs := le_step hs ej10
  obtain ⟨t11, hf⟩ := oC_s hf
  have t11 := of_decide_eq_true t11
  obtain ⟨h12, eh12, hf⟩ := oL_s hf
  refine pX4_12 (x := (some x0)) (v := (some (hZ h))) b hin2 hE rfl t11 eh12 dX4_init_12 (fun H locs hE => ?_)
  refine lv_aload_n b.1 b.2.1 dX4_init_15 rfl (lv_at hl 0 rfl) ?_
  refine lv_iconst (v := 3) b.1 b.2.1 dX4_init_16 (by decide) ?_
  have t13 := tg_sR eh12 t11
  obtain ⟨h16, eh16, hf⟩ := oL_s hf
  obtain ⟨i14, j15, ei14, ej15, hf⟩ := oK3_s hf
  have t17 := tg_nA (t := 4) hE eh16 t13
  have t18 := tg_nA0 eh16
  refine q_newa1 b hE (in1 147 rfl rfl) (by decide) (by decide) (le_room hk ei14) (le_room hs ej15) eh16 dX4_init_17 (fun H hE => ?_)
  have hk := le_step hk ei14
  have hs := le_step hs ej15
  obtain ⟨h19, eh19, hf⟩ := oL_s hf
  refine pX4_18 (x := (some x0)) (v := (some (hZ h12))) b hin2 hE rfl t17 eh19 dX4_init_19 (fun H locs hE => ?_)
  refine lv_aload_n b.1 b.2.1 dX4_init_22 rfl (lv_at hl 0 rfl) ?_
  refine lv_bipush (v := 20) b.1 b.2.1 dX4_init_23 (by decide) ?_
  have t20 := tg_sR eh19 t17
  have t21 := tg_sR eh19 t18
  obtain ⟨h24, eh24, hf⟩ := oL_s hf
  obtain ⟨i22, j23, ei22, ej23, hf⟩ := oK3_s hf
  have t25 := tg_nA (t := 4) hE eh24 t20
  have t26 := tg_nA (t := 100) hE eh24 t21
  have t27 := tg_nA0 eh24
  refine q_newa1 b hE (in1 147 rfl rfl) (by decide) (by decide) (le_room hk ei22) (le_room hs ej23) eh24 dX4_init_25 (fun H hE => ?_)
  have hk := le_step hk ei22
  have hs := le_step hs ej23
  obtain ⟨h28, eh28, hf⟩ := oL_s hf
  refine pX4_22 (x := (some x0)) (v := (some (hZ h19))) b hin2 hE rfl t25 eh28 dX4_init_27 (fun H locs hE => ?_)
  refine lv_aload_n b.1 b.2.1 dX4_init_30 rfl (lv_at hl 0 rfl) ?_
  refine k_aload_n (x := Option.map ad x1) b dX4_init_31 rfl (lv_at hl 1 rfl) ?_
  have t29 := tg_sR eh28 t25
  obtain ⟨h30, eh30, hf⟩ := oL_s hf
  refine pX4_25 (x := (some x0)) (v := x1) b hin2 hE rfl t29 eh30 dX4_init_32 (fun H locs hE => ?_)
  cases hf
  exact k_vret b hlk hr hE (le_c hk) (le_c hs) dX4_init_35
def fX4_init (h : PH) (x0 : Nat) (x1 : Option Nat) : Option (PH × Nat × Nat) := fX4_init_0 h x0 x1
set_option maxHeartbeats 4000000 in
theorem CX4_init (l : Launch) (D : va_G) (aC : Nat → ClassId) (ad : Nat → Nat) {Z : State → Prop} (zk : ZOK Z (Rg ad)) {adK adV : Nat → Nat} (hStr : ∀ U : State, Z U → ZS adK adV (Rg ad) U) {h : PH} {x0 : Nat} {x1 : Option Nat} {hz : PH} {kz : Nat} {mz : Nat} (hf : fX4_init h x0 x1 = some (hz, kz, mz)) : CM l D aC Z yX4_init cX4_init 2 (none) 5 108 kz mz (EX D aC ad h) [.ref (ad x0), va_rf (Option.map ad x1)] (EX D aC ad hz) none (Rg ad) := by
  refine CM.of rfl ?_
  intro p e s m below meth c b hr hlk hin2 zs hE
  cases x1 <;> (
    refine k_ent (Nat.le_of_ble_eq_true rfl) (fun ls hl => ?_)
    exact wfX4_init_0 b hlk hr zs zk hStr hin2 hf (by omega) (by omega) hE (lv_sub hl [0, 1] rfl))
theorem dX10_makeRoom_0 : decode cX10_makeRoom 0 = .ok (.aload_n 0, 1) := by decide +kernel
theorem dX10_makeRoom_1 : decode cX10_makeRoom 1 = .ok (.getfield 15, 3) := by decide +kernel
theorem dX10_makeRoom_4 : decode cX10_makeRoom 4 = .ok (.arraylength, 1) := by decide +kernel
theorem dX10_makeRoom_5 : decode cX10_makeRoom 5 = .ok (.iload_n 1, 1) := by decide +kernel
theorem dX10_makeRoom_6 : decode cX10_makeRoom 6 = .ok (.if_icmp .ge 24, 3) := by decide +kernel
theorem dX10_makeRoom_9 : decode cX10_makeRoom 9 = .ok (.aload_n 0, 1) := by decide +kernel
theorem dX10_makeRoom_10 : decode cX10_makeRoom 10 = .ok (.iload_n 1, 1) := by decide +kernel
theorem dX10_makeRoom_11 : decode cX10_makeRoom 11 = .ok (.newarray .int, 2) := by decide +kernel
theorem dX10_makeRoom_13 : decode cX10_makeRoom 13 = .ok (.putfield 15, 3) := by decide +kernel
theorem dX10_makeRoom_16 : decode cX10_makeRoom 16 = .ok (.aload_n 0, 1) := by decide +kernel
theorem dX10_makeRoom_17 : decode cX10_makeRoom 17 = .ok (.iload_n 1, 1) := by decide +kernel
theorem dX10_makeRoom_18 : decode cX10_makeRoom 18 = .ok (.newarray .int, 2) := by decide +kernel
theorem dX10_makeRoom_20 : decode cX10_makeRoom 20 = .ok (.putfield 19, 3) := by decide +kernel
theorem dX10_makeRoom_23 : decode cX10_makeRoom 23 = .ok (.aload_n 0, 1) := by decide +kernel
theorem dX10_makeRoom_24 : decode cX10_makeRoom 24 = .ok (.iload_n 1, 1) := by decide +kernel
theorem dX10_makeRoom_25 : decode cX10_makeRoom 25 = .ok (.newarray .long, 2) := by decide +kernel
theorem dX10_makeRoom_27 : decode cX10_makeRoom 27 = .ok (.putfield 22, 3) := by decide +kernel
theorem dX10_makeRoom_30 : decode cX10_makeRoom 30 = .ok (.return_, 1) := by decide +kernel
def fX10_makeRoom_0  (h : PH) (x0 : Nat) (x1 : Int32) : Option (PH × Nat × Nat) :=
  oC (decide (hT h x0 = 11)) (oN (hR h 1281 x0) (fun a2 => oC (decide (hT h a2 = 101)) (if x1 ≤ (nI (hN h a2)) then (some (h, 0, 0)) else (oC (decide (0 ≤ x1)) (oC (decide ((Int32.toNatClampNeg x1) * 8 ≤ 536870912)) (oL (nA h 101 (Int32.toNatClampNeg x1)) (fun h9 => oK3 1 (Int32.toNatClampNeg x1) (oL (sR h9 1281 x0 (some (hZ h))) (fun h13 => oC (decide (0 ≤ x1)) (oC (decide ((Int32.toNatClampNeg x1) * 8 ≤ 536870912)) (oL (nA h13 101 (Int32.toNatClampNeg x1)) (fun h21 => oK3 1 (Int32.toNatClampNeg x1) (oL (sR h21 1282 x0 (some (hZ h13))) (fun h26 => oC (decide (0 ≤ x1)) (oC (decide ((Int32.toNatClampNeg x1) * 8 ≤ 536870912)) (oL (nA h26 102 (Int32.toNatClampNeg x1)) (fun h35 => oK3 1 (Int32.toNatClampNeg x1) (oL (sR h35 1283 x0 (some (hZ h26))) (fun h41 => some (h41, 0, 0))))))))))))))))))))
set_option maxHeartbeats 4000000 in
theorem wfX10_makeRoom_0 {mc ms cells slots : Nat} {args : Array Value} (b : Bd p s m c cX10_makeRoom 2 RX10 D aC) (hlk : meth.locks = false) (hr : meth.sig.returnType = none) {Z : State → Prop} (zs : Z s) (zk : ZOK Z (Rg ad)) {hz : PH} {h : PH} {x0 : Nat} {x1 : Int32} {kz : Nat} {mz : Nat}  {H : Heap} {locs : List Loc} {ls : Array Slot} (hf : fX10_makeRoom_0 h x0 x1 = some (hz, kz, mz)) (hk : cells + kz ≤ mc) (hs : slots + mz ≤ ms) (hE : CE (EX D aC ad h) (Rg ad) s H locs) (hl : lv_has ls 2 [(0, .ref (ad x0)), (1, .int x1)]) : W p l e (RM 0 0 mc ms) s m args below meth c H locs cells slots (MQ below (PQ (EX D aC ad hz) (Rg ad) none) args s mc ms (Rg ad)) (F0 m 0 ls []) := by
  unfold fX10_makeRoom_0 at hf
  refine lv_aload_n b.1 b.2.1 dX10_makeRoom_0 rfl (lv_at hl 0 rfl) ?_
  obtain ⟨t1, hf⟩ := oC_s hf
  have t1 := of_decide_eq_true t1
  refine gX10_15 (x := (some x0)) b hE rfl t1 dX10_makeRoom_1 ?_
  obtain ⟨a2, ea2, hf⟩ := oN_s hf
  obtain ⟨t3, hf⟩ := oC_s hf
  have t3 := of_decide_eq_true t3
  refine q_alen (x := (hR h 1281 x0)) (k := 1) b hE ea2 (by decide) t3 dX10_makeRoom_4 ?_
  refine lv_iload_n b.1 b.2.1 dX10_makeRoom_5 rfl (lv_at hl 1 rfl) ?_
  refine lv_icmp_ge (tgt := 30) b.1 b.2.1 dX10_makeRoom_6 (by decide) (fun c4 => ?_) (fun c4 => ?_)
  · have hf := oI_t c4 hf
    cases hf
    exact k_vret b hlk hr hE (le_c hk) (le_c hs) dX10_makeRoom_30
  · have hf := oI_f c4 hf
    refine lv_aload_n b.1 b.2.1 dX10_makeRoom_9 rfl (lv_at hl 0 rfl) ?_
    refine lv_iload_n b.1 b.2.1 dX10_makeRoom_10 rfl (lv_at hl 1 rfl) ?_
    obtain ⟨g5, hf⟩ := oC_s hf
    obtain ⟨g6, hf⟩ := oC_s hf
    obtain ⟨h9, eh9, hf⟩ := oL_s hf
    obtain ⟨i7, j8, ei7, ej8, hf⟩ := oK3_s hf
    have t10 := tg_nA (t := 10) hE eh9 t1
    have t11 := tg_nA (t := 100) hE eh9 t3
    have t12 := tg_nA0 eh9
    refine q_newa1 b hE (in1 147 rfl rfl) g5 g6 (le_room hk ei7) (le_room hs ej8) eh9 dX10_makeRoom_11 (fun H hE => ?_)
    have hk := le_step hk ei7
    have hs := le_step hs ej8
    obtain ⟨h13, eh13, hf⟩ := oL_s hf
    refine pX10_15 (x := (some x0)) (v := (some (hZ h))) b hE rfl t10 eh13 dX10_makeRoom_13 (fun H locs hE => ?_)
    refine lv_aload_n b.1 b.2.1 dX10_makeRoom_16 rfl (lv_at hl 0 rfl) ?_
    refine lv_iload_n b.1 b.2.1 dX10_makeRoom_17 rfl (lv_at hl 1 rfl) ?_
    obtain ⟨g14, hf⟩ := oC_s hf
    obtain ⟨g15, hf⟩ := oC_s hf
    have t16 := tg_sR eh13 t10
    have t17 := tg_sR eh13 t11
    have t18 := tg_sR eh13 t12
    obtain ⟨h21, eh21, hf⟩ := oL_s hf
    obtain ⟨i19, j20, ei19, ej20, hf⟩ := oK3_s hf
    have t22 := tg_nA (t := 10) hE eh21 t16
    have t23 := tg_nA (t := 100) hE eh21 t17
    have t24 := tg_nA (t := 100) hE eh21 t18
    have t25 := tg_nA0 eh21
    refine q_newa1 b hE (in1 147 rfl rfl) g14 g15 (le_room hk ei19) (le_room hs ej20) eh21 dX10_makeRoom_18 (fun H hE => ?_)
    have hk := le_step hk ei19
    have hs := le_step hs ej20
    obtain ⟨h26, eh26, hf⟩ := oL_s hf
    refine pX10_19 (x := (some x0)) (v := (some (hZ h13))) b hE rfl t22 eh26 dX10_makeRoom_20 (fun H locs hE => ?_)
    refine lv_aload_n b.1 b.2.1 dX10_makeRoom_23 rfl (lv_at hl 0 rfl) ?_
    refine lv_iload_n b.1 b.2.1 dX10_makeRoom_24 rfl (lv_at hl 1 rfl) ?_
    obtain ⟨g27, hf⟩ := oC_s hf
    obtain ⟨g28, hf⟩ := oC_s hf
    have t29 := tg_sR eh26 t22
    have t30 := tg_sR eh26 t23
    have t31 := tg_sR eh26 t24
    have t32 := tg_sR eh26 t25
    obtain ⟨h35, eh35, hf⟩ := oL_s hf
    obtain ⟨i33, j34, ei33, ej34, hf⟩ := oK3_s hf
    have t36 := tg_nA (t := 10) hE eh35 t29
    have t37 := tg_nA (t := 100) hE eh35 t30
    have t38 := tg_nA (t := 100) hE eh35 t31
    have t39 := tg_nA (t := 100) hE eh35 t32
    have t40 := tg_nA0 eh35
    refine q_newa2 b hE (in1 74 rfl rfl) g27 g28 (le_room hk ei33) (le_room hs ej34) eh35 dX10_makeRoom_25 (fun H hE => ?_)
    have hk := le_step hk ei33
    have hs := le_step hs ej34
    obtain ⟨h41, eh41, hf⟩ := oL_s hf
    refine pX10_22 (x := (some x0)) (v := (some (hZ h26))) b hE rfl t36 eh41 dX10_makeRoom_27 (fun H locs hE => ?_)
    cases hf
    exact k_vret b hlk hr hE (le_c hk) (le_c hs) dX10_makeRoom_30
def fX10_makeRoom (h : PH) (x0 : Nat) (x1 : Int32) : Option (PH × Nat × Nat) := fX10_makeRoom_0 h x0 x1
set_option maxHeartbeats 4000000 in
theorem CX10_makeRoom (l : Launch) (D : va_G) (aC : Nat → ClassId) (ad : Nat → Nat) {Z : State → Prop} (zk : ZOK Z (Rg ad)) {h : PH} {x0 : Nat} {x1 : Int32} {hz : PH} {kz : Nat} {mz : Nat} (hf : fX10_makeRoom h x0 x1 = some (hz, kz, mz)) : CM l D aC Z yX10_makeRoom cX10_makeRoom 2 (none) 0 0 kz mz (EX D aC ad h) [.ref (ad x0), .int x1] (EX D aC ad hz) none (Rg ad) := by
  refine CM.of rfl ?_
  intro p e s m below meth c b hr hlk hin2 zs hE
  refine k_ent (Nat.le_of_ble_eq_true rfl) (fun ls hl => ?_)
  exact wfX10_makeRoom_0 b hlk hr zs zk hf (by omega) (by omega) hE (lv_sub hl [0, 1] rfl)
theorem dX10_isBlank_0 : decode cX10_isBlank 0 = .ok (.iload_n 0, 1) := by decide +kernel
theorem dX10_isBlank_1 : decode cX10_isBlank 1 = .ok (.bipush 9, 2) := by decide +kernel
theorem dX10_isBlank_3 : decode cX10_isBlank 3 = .ok (.if_icmp .eq 21, 3) := by decide +kernel
theorem dX10_isBlank_6 : decode cX10_isBlank 6 = .ok (.iload_n 0, 1) := by decide +kernel
theorem dX10_isBlank_7 : decode cX10_isBlank 7 = .ok (.bipush 10, 2) := by decide +kernel
theorem dX10_isBlank_9 : decode cX10_isBlank 9 = .ok (.if_icmp .eq 15, 3) := by decide +kernel
theorem dX10_isBlank_12 : decode cX10_isBlank 12 = .ok (.iload_n 0, 1) := by decide +kernel
theorem dX10_isBlank_13 : decode cX10_isBlank 13 = .ok (.bipush 13, 2) := by decide +kernel
theorem dX10_isBlank_15 : decode cX10_isBlank 15 = .ok (.if_icmp .eq 9, 3) := by decide +kernel
theorem dX10_isBlank_18 : decode cX10_isBlank 18 = .ok (.iload_n 0, 1) := by decide +kernel
theorem dX10_isBlank_19 : decode cX10_isBlank 19 = .ok (.bipush 32, 2) := by decide +kernel
theorem dX10_isBlank_21 : decode cX10_isBlank 21 = .ok (.if_icmp .ne 7, 3) := by decide +kernel
theorem dX10_isBlank_24 : decode cX10_isBlank 24 = .ok (.iconst 1, 1) := by decide +kernel
theorem dX10_isBlank_25 : decode cX10_isBlank 25 = .ok (.goto 4, 3) := by decide +kernel
theorem dX10_isBlank_28 : decode cX10_isBlank 28 = .ok (.iconst 0, 1) := by decide +kernel
theorem dX10_isBlank_29 : decode cX10_isBlank 29 = .ok (.ireturn, 1) := by decide +kernel
def fX10_isBlank_0  (x0 : Int32) : Option (Int32) :=
  if x0 = 9 then (some (1)) else (if x0 = 10 then (some (1)) else (if x0 = 13 then (some (1)) else (if x0 = 32 then (some (1)) else (some (0)))))
set_option maxHeartbeats 4000000 in
theorem wfX10_isBlank_0 {E : Heap → Prop} {A : Nat → Prop} {args : Array Value} (b : Bd p s m c cX10_isBlank 1 RX10 D aC) (hlk : meth.locks = false) (hr : meth.sig.returnType = some .boolean) {Z : State → Prop} (zs : Z s) (zk : ZOK Z A) {rz : Int32} {x0 : Int32}  {H : Heap} {locs : List Loc} {ls : Array Slot} (hf : fX10_isBlank_0 x0 = some rz) (hE : CE E A s H locs) (hl : lv_has ls 1 [(0, .int x0)]) : W p l e (RM 0 0 0 0) s m args below meth c H locs 0 0 (MQ below (PQ E A (some (.int rz))) args s 0 0 A) (F0 m 0 ls []) := by
  unfold fX10_isBlank_0 at hf
  refine lv_iload_n b.1 b.2.1 dX10_isBlank_0 rfl (lv_at hl 0 rfl) ?_
  refine lv_bipush (v := 9) b.1 b.2.1 dX10_isBlank_1 (by decide) ?_
  refine lv_icmp_eq (tgt := 24) b.1 b.2.1 dX10_isBlank_3 (by decide) (fun c1 => ?_) (fun c1 => ?_)
  · have hf := oI_t c1 hf
    refine lv_iconst (v := 1) b.1 b.2.1 dX10_isBlank_24 (by decide) ?_
    refine lv_goto (tgt := 29) b.1 b.2.1 dX10_isBlank_25 (by decide) ?_
    cases hf
    exact k_zret b hlk hr (by decide) hE (Nat.le_refl _) (Nat.le_refl _) dX10_isBlank_29
  · have hf := oI_f c1 hf
    refine lv_iload_n b.1 b.2.1 dX10_isBlank_6 rfl (lv_at hl 0 rfl) ?_
    refine lv_bipush (v := 10) b.1 b.2.1 dX10_isBlank_7 (by decide) ?_
    refine lv_icmp_eq (tgt := 24) b.1 b.2.1 dX10_isBlank_9 (by decide) (fun c2 => ?_) (fun c2 => ?_)
    · have hf := oI_t c2 hf
      refine lv_iconst (v := 1) b.1 b.2.1 dX10_isBlank_24 (by decide) ?_
      refine lv_goto (tgt := 29) b.1 b.2.1 dX10_isBlank_25 (by decide) ?_
      cases hf
      exact k_zret b hlk hr (by decide) hE (Nat.le_refl _) (Nat.le_refl _) dX10_isBlank_29
    · have hf := oI_f c2 hf
      refine lv_iload_n b.1 b.2.1 dX10_isBlank_12 rfl (lv_at hl 0 rfl) ?_
      refine lv_bipush (v := 13) b.1 b.2.1 dX10_isBlank_13 (by decide) ?_
      refine lv_icmp_eq (tgt := 24) b.1 b.2.1 dX10_isBlank_15 (by decide) (fun c3 => ?_) (fun c3 => ?_)
      · have hf := oI_t c3 hf
        refine lv_iconst (v := 1) b.1 b.2.1 dX10_isBlank_24 (by decide) ?_
        refine lv_goto (tgt := 29) b.1 b.2.1 dX10_isBlank_25 (by decide) ?_
        cases hf
        exact k_zret b hlk hr (by decide) hE (Nat.le_refl _) (Nat.le_refl _) dX10_isBlank_29
      · have hf := oI_f c3 hf
        refine lv_iload_n b.1 b.2.1 dX10_isBlank_18 rfl (lv_at hl 0 rfl) ?_
        refine lv_bipush (v := 32) b.1 b.2.1 dX10_isBlank_19 (by decide) ?_
        refine lv_icmp_ne (tgt := 28) b.1 b.2.1 dX10_isBlank_21 (by decide) (fun c4 => ?_) (fun c4 => ?_)
        · have hf := oI_f c4 hf
          refine lv_iconst (v := 0) b.1 b.2.1 dX10_isBlank_28 (by decide) ?_
          cases hf
          exact k_zret b hlk hr (by decide) hE (Nat.le_refl _) (Nat.le_refl _) dX10_isBlank_29
        · have hf := oI_t c4 hf
          refine lv_iconst (v := 1) b.1 b.2.1 dX10_isBlank_24 (by decide) ?_
          refine lv_goto (tgt := 29) b.1 b.2.1 dX10_isBlank_25 (by decide) ?_
          cases hf
          exact k_zret b hlk hr (by decide) hE (Nat.le_refl _) (Nat.le_refl _) dX10_isBlank_29
def fX10_isBlank (x0 : Int32) : Option (Int32) := fX10_isBlank_0 x0
set_option maxHeartbeats 4000000 in
theorem CX10_isBlank (l : Launch) (D : va_G) (aC : Nat → ClassId) {E : Heap → Prop} {A : Nat → Prop} {Z : State → Prop} (zk : ZOK Z A) {x0 : Int32} {rz : Int32} (hf : fX10_isBlank x0 = some rz) : CM l D aC Z yX10_isBlank cX10_isBlank 1 (some .boolean) 0 0 0 0 E [.int x0] E (some (.int rz)) A := by
  refine CM.of rfl ?_
  intro p e s m below meth c b hr hlk hin2 zs hE
  refine k_ent (Nat.le_of_ble_eq_true rfl) (fun ls hl => ?_)
  exact wfX10_isBlank_0 b hlk hr zs zk hf hE (lv_sub hl [0] rfl)
theorem dX10_skipBlanks_0 : decode cX10_skipBlanks 0 = .ok (.aload_n 0, 1) := by decide +kernel
theorem dX10_skipBlanks_1 : decode cX10_skipBlanks 1 = .ok (.getfield 41, 3) := by decide +kernel
theorem dX10_skipBlanks_4 : decode cX10_skipBlanks 4 = .ok (.aload_n 0, 1) := by decide +kernel
theorem dX10_skipBlanks_5 : decode cX10_skipBlanks 5 = .ok (.getfield 37, 3) := by decide +kernel
theorem dX10_skipBlanks_8 : decode cX10_skipBlanks 8 = .ok (.getfield 48, 3) := by decide +kernel
theorem dX10_skipBlanks_11 : decode cX10_skipBlanks 11 = .ok (.if_icmp .ge 33, 3) := by decide +kernel
theorem dX10_skipBlanks_14 : decode cX10_skipBlanks 14 = .ok (.aload_n 0, 1) := by decide +kernel
theorem dX10_skipBlanks_15 : decode cX10_skipBlanks 15 = .ok (.getfield 37, 3) := by decide +kernel
theorem dX10_skipBlanks_18 : decode cX10_skipBlanks 18 = .ok (.aload_n 0, 1) := by decide +kernel
theorem dX10_skipBlanks_19 : decode cX10_skipBlanks 19 = .ok (.getfield 41, 3) := by decide +kernel
theorem dX10_skipBlanks_22 : decode cX10_skipBlanks 22 = .ok (.invokevirtual 69, 3) := by decide +kernel
theorem dX10_skipBlanks_25 : decode cX10_skipBlanks 25 = .ok (.invokestatic 72, 3) := by decide +kernel
theorem dX10_skipBlanks_28 : decode cX10_skipBlanks 28 = .ok (.ifCond .eq 16, 3) := by decide +kernel
theorem dX10_skipBlanks_31 : decode cX10_skipBlanks 31 = .ok (.aload_n 0, 1) := by decide +kernel
theorem dX10_skipBlanks_32 : decode cX10_skipBlanks 32 = .ok (.dup, 1) := by decide +kernel
theorem dX10_skipBlanks_33 : decode cX10_skipBlanks 33 = .ok (.getfield 41, 3) := by decide +kernel
theorem dX10_skipBlanks_36 : decode cX10_skipBlanks 36 = .ok (.iconst 1, 1) := by decide +kernel
theorem dX10_skipBlanks_37 : decode cX10_skipBlanks 37 = .ok (.iadd, 1) := by decide +kernel
theorem dX10_skipBlanks_38 : decode cX10_skipBlanks 38 = .ok (.putfield 41, 3) := by decide +kernel
theorem dX10_skipBlanks_41 : decode cX10_skipBlanks 41 = .ok (.goto (-41), 3) := by decide +kernel
theorem dX10_skipBlanks_44 : decode cX10_skipBlanks 44 = .ok (.return_, 1) := by decide +kernel
def fX10_skipBlanks_0F (k0 : PH → Nat → Option (PH)) (h : PH) (x0 : Nat) : Option (PH) :=
  oC (decide (hT h x0 = 11)) (oN (hR h 1285 x0) (fun a2 => oC (decide (hT h a2 = 1)) (if (hI h 1 a2) ≤ (hI h 1286 x0) then (some (h)) else (oB (fX0_byteAt h a2 (hI h 1286 x0)) (fun r6 => oB (fX10_isBlank r6) (fun r8 => if r8 = 0 then (some (h)) else (oL (sI h 1286 x0 ((hI h 1286 x0) + 1)) (fun h10 => k0 h10 x0))))))))
set_option maxHeartbeats 4000000 in
theorem wfX10_skipBlanks_0F {args : Array Value} (b : Bd p s m c cX10_skipBlanks 1 RX10 D aC) (hlk : meth.locks = false) (hr : meth.sig.returnType = none) {Z : State → Prop} (zs : Z s) (zk : ZOK Z (Rg ad)) {hz : PH} {k0 : PH → Nat → Option (PH)} (H0 : ∀ (h : PH) (x0 : Nat), ∀ (H : Heap) (locs : List Loc) (ls : Array Slot), k0 h x0 = some hz → CE (EX D aC ad h) (Rg ad) s H locs → lv_has ls 1 [(0, .ref (ad x0))] → W p l e (RM 1 21 0 0) s m args below meth c H locs 0 0 (MQ below (PQ (EX D aC ad hz) (Rg ad) none) args s 0 0 (Rg ad)) (F0 m 0 ls [])) {h : PH} {x0 : Nat}  {H : Heap} {locs : List Loc} {ls : Array Slot} (hf : fX10_skipBlanks_0F k0 h x0 = some hz) (hE : CE (EX D aC ad h) (Rg ad) s H locs) (hl : lv_has ls 1 [(0, .ref (ad x0))]) : W p l e (RM 1 21 0 0) s m args below meth c H locs 0 0 (MQ below (PQ (EX D aC ad hz) (Rg ad) none) args s 0 0 (Rg ad)) (F0 m 0 ls []) := by
  unfold fX10_skipBlanks_0F at hf
  refine lv_aload_n b.1 b.2.1 dX10_skipBlanks_0 rfl (lv_at hl 0 rfl) ?_
  obtain ⟨t1, hf⟩ := oC_s hf
  have t1 := of_decide_eq_true t1
  refine gX10_41 (x := (some x0)) b hE rfl t1 dX10_skipBlanks_1 ?_
  refine lv_aload_n b.1 b.2.1 dX10_skipBlanks_4 rfl (lv_at hl 0 rfl) ?_
  refine gX10_37 (x := (some x0)) b hE rfl t1 dX10_skipBlanks_5 ?_
  obtain ⟨a2, ea2, hf⟩ := oN_s hf
  obtain ⟨t3, hf⟩ := oC_s hf
  have t3 := of_decide_eq_true t3
  refine gX10_48 (x := (hR h 1285 x0)) b hE ea2 t3 dX10_skipBlanks_8 ?_
  refine lv_icmp_ge (tgt := 44) b.1 b.2.1 dX10_skipBlanks_11 (by decide) (fun c4 => ?_) (fun c4 => ?_)
  · have hf := oI_t c4 hf
    cases hf
    exact k_vret b hlk hr hE (Nat.le_refl _) (Nat.le_refl _) dX10_skipBlanks_44
  · have hf := oI_f c4 hf
    refine lv_aload_n b.1 b.2.1 dX10_skipBlanks_14 rfl (lv_at hl 0 rfl) ?_
    refine gX10_37 (x := (some x0)) b hE rfl t1 dX10_skipBlanks_15 ?_
    refine lv_aload_n b.1 b.2.1 dX10_skipBlanks_18 rfl (lv_at hl 0 rfl) ?_
    refine gX10_41 (x := (some x0)) b hE rfl t1 dX10_skipBlanks_19 ?_
    obtain ⟨r6, hc5, hf⟩ := oB_s hf
    refine k_stk [.int (hI h 1286 x0)] ea2 ?_
    refine k_callV0 (C := RX0) b zs zk hE (CX0_byteAt l D aC ad zk hc5) mc_X0_byteAt (in2 129 rfl rfl) mi_X0_byteAt ms_X0_byteAt ini_RX0 ok_X0_byteAt (x_recv b hE (ci := 0) rfl (by decide) t3) ⟨Nat.le_of_ble_eq_true rfl, Nat.le_of_ble_eq_true rfl⟩ rfl hl.1 rfl (k_room _ (by exact Nat.le_of_ble_eq_true rfl)) ⟨Nat.le_refl _, Nat.le_refl _⟩ dX10_skipBlanks_22 (fun H locs hE => ?_)
    obtain ⟨r8, hc7, hf⟩ := oB_s hf
    refine k_callS0 b zs zk hE (CX10_isBlank l D aC zk hc7) mc_X10_isBlank (in2 133 rfl rfl) mt_X10_isBlank ini_RX10 ok_X10_isBlank ⟨Nat.le_of_ble_eq_true rfl, Nat.le_of_ble_eq_true rfl⟩ rfl hl.1 rfl (k_room _ (by exact Nat.le_of_ble_eq_true rfl)) ⟨Nat.le_refl _, Nat.le_refl _⟩ dX10_skipBlanks_25 (fun H locs hE => ?_)
    refine lv_if_eq (tgt := 44) b.1 b.2.1 dX10_skipBlanks_28 (by decide) (fun c9 => ?_) (fun c9 => ?_)
    · have hf := oI_t c9 hf
      cases hf
      exact k_vret b hlk hr hE (Nat.le_refl _) (Nat.le_refl _) dX10_skipBlanks_44
    · have hf := oI_f c9 hf
      refine lv_aload_n b.1 b.2.1 dX10_skipBlanks_31 rfl (lv_at hl 0 rfl) ?_
      refine lv_dup b.1 b.2.1 dX10_skipBlanks_32 rfl ?_
      refine gX10_41 (x := (some x0)) b hE rfl t1 dX10_skipBlanks_33 ?_
      refine lv_iconst (v := 1) b.1 b.2.1 dX10_skipBlanks_36 (by decide) ?_
      refine lv_iadd b.1 b.2.1 dX10_skipBlanks_37 ?_
      obtain ⟨h10, eh10, hf⟩ := oL_s hf
      refine pX10_41 (x := (some x0)) b hE rfl t1 eh10 dX10_skipBlanks_38 (fun H locs hE => ?_)
      refine lv_goto (tgt := 0) b.1 b.2.1 dX10_skipBlanks_41 (by decide) ?_
      exact H0 h10 x0 _ _ _ hf hE (lv_sub hl [0] rfl)
def fX10_skipBlanks_0  : Nat → PH → Nat → Option (PH)
  | 0 => fun _ _ => none
  | n + 1 => fX10_skipBlanks_0F  (fX10_skipBlanks_0  n)
set_option maxHeartbeats 4000000 in
theorem wfX10_skipBlanks_0 {args : Array Value} (b : Bd p s m c cX10_skipBlanks 1 RX10 D aC) (hlk : meth.locks = false) (hr : meth.sig.returnType = none) {Z : State → Prop} (zs : Z s) (zk : ZOK Z (Rg ad)) {hz : PH} : ∀ n : Nat, ∀ (h : PH) (x0 : Nat), ∀ (H : Heap) (locs : List Loc) (ls : Array Slot), fX10_skipBlanks_0  n h x0 = some hz → CE (EX D aC ad h) (Rg ad) s H locs → lv_has ls 1 [(0, .ref (ad x0))] → W p l e (RM 1 21 0 0) s m args below meth c H locs 0 0 (MQ below (PQ (EX D aC ad hz) (Rg ad) none) args s 0 0 (Rg ad)) (F0 m 0 ls []) := by
  intro n
  induction n with
  | zero =>
    intro h x0 H locs ls hf
    have hf : (none : Option (PH)) = some _ := hf
    cases hf
  | succ n ih =>
    intro h x0 H locs ls hf hE hl
    exact wfX10_skipBlanks_0F b hlk hr zs zk  ih hf hE hl
def fX10_skipBlanks (h : PH) (x0 : Nat) : Option (PH) := fX10_skipBlanks_0 FU h x0
set_option maxHeartbeats 4000000 in
theorem CX10_skipBlanks (l : Launch) (D : va_G) (aC : Nat → ClassId) (ad : Nat → Nat) {Z : State → Prop} (zk : ZOK Z (Rg ad)) {h : PH} {x0 : Nat} {hz : PH} (hf : fX10_skipBlanks h x0 = some hz) : CM l D aC Z yX10_skipBlanks cX10_skipBlanks 1 (none) 1 21 0 0 (EX D aC ad h) [.ref (ad x0)] (EX D aC ad hz) none (Rg ad) := by
  refine CM.of rfl ?_
  intro p e s m below meth c b hr hlk hin2 zs hE
  refine k_ent (Nat.le_of_ble_eq_true rfl) (fun ls hl => ?_)
  exact wfX10_skipBlanks_0 b hlk hr zs zk FU _ _ _ _ _ hf hE (lv_sub hl [0] rfl)
theorem dX10_isSmall_0 : decode cX10_isSmall 0 = .ok (.iload_n 0, 1) := by decide +kernel
theorem dX10_isSmall_1 : decode cX10_isSmall 1 = .ok (.bipush 97, 2) := by decide +kernel
theorem dX10_isSmall_3 : decode cX10_isSmall 3 = .ok (.if_icmp .lt 13, 3) := by decide +kernel
theorem dX10_isSmall_6 : decode cX10_isSmall 6 = .ok (.iload_n 0, 1) := by decide +kernel
theorem dX10_isSmall_7 : decode cX10_isSmall 7 = .ok (.bipush 122, 2) := by decide +kernel
theorem dX10_isSmall_9 : decode cX10_isSmall 9 = .ok (.if_icmp .gt 7, 3) := by decide +kernel
theorem dX10_isSmall_12 : decode cX10_isSmall 12 = .ok (.iconst 1, 1) := by decide +kernel
theorem dX10_isSmall_13 : decode cX10_isSmall 13 = .ok (.goto 4, 3) := by decide +kernel
theorem dX10_isSmall_16 : decode cX10_isSmall 16 = .ok (.iconst 0, 1) := by decide +kernel
theorem dX10_isSmall_17 : decode cX10_isSmall 17 = .ok (.ireturn, 1) := by decide +kernel
def fX10_isSmall_0  (x0 : Int32) : Option (Int32) :=
  if x0 < 97 then (some (0)) else (if 122 < x0 then (some (0)) else (some (1)))
set_option maxHeartbeats 4000000 in
theorem wfX10_isSmall_0 {E : Heap → Prop} {A : Nat → Prop} {args : Array Value} (b : Bd p s m c cX10_isSmall 1 RX10 D aC) (hlk : meth.locks = false) (hr : meth.sig.returnType = some .boolean) {Z : State → Prop} (zs : Z s) (zk : ZOK Z A) {rz : Int32} {x0 : Int32}  {H : Heap} {locs : List Loc} {ls : Array Slot} (hf : fX10_isSmall_0 x0 = some rz) (hE : CE E A s H locs) (hl : lv_has ls 1 [(0, .int x0)]) : W p l e (RM 0 0 0 0) s m args below meth c H locs 0 0 (MQ below (PQ E A (some (.int rz))) args s 0 0 A) (F0 m 0 ls []) := by
  unfold fX10_isSmall_0 at hf
  refine lv_iload_n b.1 b.2.1 dX10_isSmall_0 rfl (lv_at hl 0 rfl) ?_
  refine lv_bipush (v := 97) b.1 b.2.1 dX10_isSmall_1 (by decide) ?_
  refine lv_icmp_lt (tgt := 16) b.1 b.2.1 dX10_isSmall_3 (by decide) (fun c1 => ?_) (fun c1 => ?_)
  · have hf := oI_t c1 hf
    refine lv_iconst (v := 0) b.1 b.2.1 dX10_isSmall_16 (by decide) ?_
    cases hf
    exact k_zret b hlk hr (by decide) hE (Nat.le_refl _) (Nat.le_refl _) dX10_isSmall_17
  · have hf := oI_f c1 hf
    refine lv_iload_n b.1 b.2.1 dX10_isSmall_6 rfl (lv_at hl 0 rfl) ?_
    refine lv_bipush (v := 122) b.1 b.2.1 dX10_isSmall_7 (by decide) ?_
    refine lv_icmp_gt (tgt := 16) b.1 b.2.1 dX10_isSmall_9 (by decide) (fun c2 => ?_) (fun c2 => ?_)
    · have hf := oI_t c2 hf
      refine lv_iconst (v := 0) b.1 b.2.1 dX10_isSmall_16 (by decide) ?_
      cases hf
      exact k_zret b hlk hr (by decide) hE (Nat.le_refl _) (Nat.le_refl _) dX10_isSmall_17
    · have hf := oI_f c2 hf
      refine lv_iconst (v := 1) b.1 b.2.1 dX10_isSmall_12 (by decide) ?_
      refine lv_goto (tgt := 17) b.1 b.2.1 dX10_isSmall_13 (by decide) ?_
      cases hf
      exact k_zret b hlk hr (by decide) hE (Nat.le_refl _) (Nat.le_refl _) dX10_isSmall_17
def fX10_isSmall (x0 : Int32) : Option (Int32) := fX10_isSmall_0 x0
set_option maxHeartbeats 4000000 in
theorem CX10_isSmall (l : Launch) (D : va_G) (aC : Nat → ClassId) {E : Heap → Prop} {A : Nat → Prop} {Z : State → Prop} (zk : ZOK Z A) {x0 : Int32} {rz : Int32} (hf : fX10_isSmall x0 = some rz) : CM l D aC Z yX10_isSmall cX10_isSmall 1 (some .boolean) 0 0 0 0 E [.int x0] E (some (.int rz)) A := by
  refine CM.of rfl ?_
  intro p e s m below meth c b hr hlk hin2 zs hE
  refine k_ent (Nat.le_of_ble_eq_true rfl) (fun ls hl => ?_)
  exact wfX10_isSmall_0 b hlk hr zs zk hf hE (lv_sub hl [0] rfl)
theorem dX10_isDigit_0 : decode cX10_isDigit 0 = .ok (.iload_n 0, 1) := by decide +kernel
theorem dX10_isDigit_1 : decode cX10_isDigit 1 = .ok (.bipush 48, 2) := by decide +kernel
theorem dX10_isDigit_3 : decode cX10_isDigit 3 = .ok (.if_icmp .lt 13, 3) := by decide +kernel
theorem dX10_isDigit_6 : decode cX10_isDigit 6 = .ok (.iload_n 0, 1) := by decide +kernel
theorem dX10_isDigit_7 : decode cX10_isDigit 7 = .ok (.bipush 57, 2) := by decide +kernel
theorem dX10_isDigit_9 : decode cX10_isDigit 9 = .ok (.if_icmp .gt 7, 3) := by decide +kernel
theorem dX10_isDigit_12 : decode cX10_isDigit 12 = .ok (.iconst 1, 1) := by decide +kernel
theorem dX10_isDigit_13 : decode cX10_isDigit 13 = .ok (.goto 4, 3) := by decide +kernel
theorem dX10_isDigit_16 : decode cX10_isDigit 16 = .ok (.iconst 0, 1) := by decide +kernel
theorem dX10_isDigit_17 : decode cX10_isDigit 17 = .ok (.ireturn, 1) := by decide +kernel
def fX10_isDigit_0  (x0 : Int32) : Option (Int32) :=
  if x0 < 48 then (some (0)) else (if 57 < x0 then (some (0)) else (some (1)))
set_option maxHeartbeats 4000000 in
theorem wfX10_isDigit_0 {E : Heap → Prop} {A : Nat → Prop} {args : Array Value} (b : Bd p s m c cX10_isDigit 1 RX10 D aC) (hlk : meth.locks = false) (hr : meth.sig.returnType = some .boolean) {Z : State → Prop} (zs : Z s) (zk : ZOK Z A) {rz : Int32} {x0 : Int32}  {H : Heap} {locs : List Loc} {ls : Array Slot} (hf : fX10_isDigit_0 x0 = some rz) (hE : CE E A s H locs) (hl : lv_has ls 1 [(0, .int x0)]) : W p l e (RM 0 0 0 0) s m args below meth c H locs 0 0 (MQ below (PQ E A (some (.int rz))) args s 0 0 A) (F0 m 0 ls []) := by
  unfold fX10_isDigit_0 at hf
  refine lv_iload_n b.1 b.2.1 dX10_isDigit_0 rfl (lv_at hl 0 rfl) ?_
  refine lv_bipush (v := 48) b.1 b.2.1 dX10_isDigit_1 (by decide) ?_
  refine lv_icmp_lt (tgt := 16) b.1 b.2.1 dX10_isDigit_3 (by decide) (fun c1 => ?_) (fun c1 => ?_)
  · have hf := oI_t c1 hf
    refine lv_iconst (v := 0) b.1 b.2.1 dX10_isDigit_16 (by decide) ?_
    cases hf
    exact k_zret b hlk hr (by decide) hE (Nat.le_refl _) (Nat.le_refl _) dX10_isDigit_17
  · have hf := oI_f c1 hf
    refine lv_iload_n b.1 b.2.1 dX10_isDigit_6 rfl (lv_at hl 0 rfl) ?_
    refine lv_bipush (v := 57) b.1 b.2.1 dX10_isDigit_7 (by decide) ?_
    refine lv_icmp_gt (tgt := 16) b.1 b.2.1 dX10_isDigit_9 (by decide) (fun c2 => ?_) (fun c2 => ?_)
    · have hf := oI_t c2 hf
      refine lv_iconst (v := 0) b.1 b.2.1 dX10_isDigit_16 (by decide) ?_
      cases hf
      exact k_zret b hlk hr (by decide) hE (Nat.le_refl _) (Nat.le_refl _) dX10_isDigit_17
    · have hf := oI_f c2 hf
      refine lv_iconst (v := 1) b.1 b.2.1 dX10_isDigit_12 (by decide) ?_
      refine lv_goto (tgt := 17) b.1 b.2.1 dX10_isDigit_13 (by decide) ?_
      cases hf
      exact k_zret b hlk hr (by decide) hE (Nat.le_refl _) (Nat.le_refl _) dX10_isDigit_17
def fX10_isDigit (x0 : Int32) : Option (Int32) := fX10_isDigit_0 x0
set_option maxHeartbeats 4000000 in
theorem CX10_isDigit (l : Launch) (D : va_G) (aC : Nat → ClassId) {E : Heap → Prop} {A : Nat → Prop} {Z : State → Prop} (zk : ZOK Z A) {x0 : Int32} {rz : Int32} (hf : fX10_isDigit x0 = some rz) : CM l D aC Z yX10_isDigit cX10_isDigit 1 (some .boolean) 0 0 0 0 E [.int x0] E (some (.int rz)) A := by
  refine CM.of rfl ?_
  intro p e s m below meth c b hr hlk hin2 zs hE
  refine k_ent (Nat.le_of_ble_eq_true rfl) (fun ls hl => ?_)
  exact wfX10_isDigit_0 b hlk hr zs zk hf hE (lv_sub hl [0] rfl)
theorem dX10_nextName_0 : decode cX10_nextName 0 = .ok (.aload_n 0, 1) := by decide +kernel
theorem dX10_nextName_1 : decode cX10_nextName 1 = .ok (.getfield 41, 3) := by decide +kernel
theorem dX10_nextName_4 : decode cX10_nextName 4 = .ok (.istore_n 2, 1) := by decide +kernel
theorem dX10_nextName_5 : decode cX10_nextName 5 = .ok (.lconst 0, 1) := by decide +kernel
theorem dX10_nextName_6 : decode cX10_nextName 6 = .ok (.lstore_n 3, 1) := by decide +kernel
theorem dX10_nextName_7 : decode cX10_nextName 7 = .ok (.aload_n 0, 1) := by decide +kernel
theorem dX10_nextName_8 : decode cX10_nextName 8 = .ok (.getfield 41, 3) := by decide +kernel
theorem dX10_nextName_11 : decode cX10_nextName 11 = .ok (.aload_n 0, 1) := by decide +kernel
theorem dX10_nextName_12 : decode cX10_nextName 12 = .ok (.getfield 37, 3) := by decide +kernel
theorem dX10_nextName_15 : decode cX10_nextName 15 = .ok (.getfield 48, 3) := by decide +kernel
theorem dX10_nextName_18 : decode cX10_nextName 18 = .ok (.if_icmp .ge 98, 3) := by decide +kernel
theorem dX10_nextName_21 : decode cX10_nextName 21 = .ok (.aload_n 0, 1) := by decide +kernel
theorem dX10_nextName_22 : decode cX10_nextName 22 = .ok (.getfield 37, 3) := by decide +kernel
theorem dX10_nextName_25 : decode cX10_nextName 25 = .ok (.aload_n 0, 1) := by decide +kernel
theorem dX10_nextName_26 : decode cX10_nextName 26 = .ok (.getfield 41, 3) := by decide +kernel
theorem dX10_nextName_29 : decode cX10_nextName 29 = .ok (.invokevirtual 69, 3) := by decide +kernel
theorem dX10_nextName_32 : decode cX10_nextName 32 = .ok (.invokestatic 76, 3) := by decide +kernel
theorem dX10_nextName_35 : decode cX10_nextName 35 = .ok (.ifCond .ne 20, 3) := by decide +kernel
theorem dX10_nextName_38 : decode cX10_nextName 38 = .ok (.aload_n 0, 1) := by decide +kernel
theorem dX10_nextName_39 : decode cX10_nextName 39 = .ok (.getfield 37, 3) := by decide +kernel
theorem dX10_nextName_42 : decode cX10_nextName 42 = .ok (.aload_n 0, 1) := by decide +kernel
theorem dX10_nextName_43 : decode cX10_nextName 43 = .ok (.getfield 41, 3) := by decide +kernel
theorem dX10_nextName_46 : decode cX10_nextName 46 = .ok (.invokevirtual 69, 3) := by decide +kernel
theorem dX10_nextName_49 : decode cX10_nextName 49 = .ok (.invokestatic 82, 3) := by decide +kernel
theorem dX10_nextName_52 : decode cX10_nextName 52 = .ok (.ifCond .eq 64, 3) := by decide +kernel
theorem dX10_nextName_55 : decode cX10_nextName 55 = .ok (.aload_n 0, 1) := by decide +kernel
theorem dX10_nextName_56 : decode cX10_nextName 56 = .ok (.getfield 37, 3) := by decide +kernel
theorem dX10_nextName_59 : decode cX10_nextName 59 = .ok (.aload_n 0, 1) := by decide +kernel
theorem dX10_nextName_60 : decode cX10_nextName 60 = .ok (.getfield 41, 3) := by decide +kernel
theorem dX10_nextName_63 : decode cX10_nextName 63 = .ok (.invokevirtual 69, 3) := by decide +kernel
theorem dX10_nextName_66 : decode cX10_nextName 66 = .ok (.istore 5, 2) := by decide +kernel
theorem dX10_nextName_68 : decode cX10_nextName 68 = .ok (.lload_n 3, 1) := by decide +kernel
theorem dX10_nextName_69 : decode cX10_nextName 69 = .ok (.bipush 6, 2) := by decide +kernel
theorem dX10_nextName_71 : decode cX10_nextName 71 = .ok (.lshl, 1) := by decide +kernel
theorem dX10_nextName_72 : decode cX10_nextName 72 = .ok (.iload 5, 2) := by decide +kernel
theorem dX10_nextName_74 : decode cX10_nextName 74 = .ok (.invokestatic 82, 3) := by decide +kernel
theorem dX10_nextName_77 : decode cX10_nextName 77 = .ok (.ifCond .eq 16, 3) := by decide +kernel
theorem dX10_nextName_80 : decode cX10_nextName 80 = .ok (.iload 5, 2) := by decide +kernel
theorem dX10_nextName_82 : decode cX10_nextName 82 = .ok (.bipush 48, 2) := by decide +kernel
theorem dX10_nextName_84 : decode cX10_nextName 84 = .ok (.isub, 1) := by decide +kernel
theorem dX10_nextName_85 : decode cX10_nextName 85 = .ok (.bipush 26, 2) := by decide +kernel
theorem dX10_nextName_87 : decode cX10_nextName 87 = .ok (.iadd, 1) := by decide +kernel
theorem dX10_nextName_88 : decode cX10_nextName 88 = .ok (.iconst 1, 1) := by decide +kernel
theorem dX10_nextName_89 : decode cX10_nextName 89 = .ok (.iadd, 1) := by decide +kernel
theorem dX10_nextName_90 : decode cX10_nextName 90 = .ok (.goto 10, 3) := by decide +kernel
theorem dX10_nextName_93 : decode cX10_nextName 93 = .ok (.iload 5, 2) := by decide +kernel
theorem dX10_nextName_95 : decode cX10_nextName 95 = .ok (.bipush 97, 2) := by decide +kernel
theorem dX10_nextName_97 : decode cX10_nextName 97 = .ok (.isub, 1) := by decide +kernel
theorem dX10_nextName_98 : decode cX10_nextName 98 = .ok (.iconst 1, 1) := by decide +kernel
theorem dX10_nextName_99 : decode cX10_nextName 99 = .ok (.iadd, 1) := by decide +kernel
theorem dX10_nextName_100 : decode cX10_nextName 100 = .ok (.i2l, 1) := by decide +kernel
theorem dX10_nextName_101 : decode cX10_nextName 101 = .ok (.lor, 1) := by decide +kernel
theorem dX10_nextName_102 : decode cX10_nextName 102 = .ok (.lstore_n 3, 1) := by decide +kernel
theorem dX10_nextName_103 : decode cX10_nextName 103 = .ok (.aload_n 0, 1) := by decide +kernel
theorem dX10_nextName_104 : decode cX10_nextName 104 = .ok (.dup, 1) := by decide +kernel
theorem dX10_nextName_105 : decode cX10_nextName 105 = .ok (.getfield 41, 3) := by decide +kernel
theorem dX10_nextName_108 : decode cX10_nextName 108 = .ok (.iconst 1, 1) := by decide +kernel
theorem dX10_nextName_109 : decode cX10_nextName 109 = .ok (.iadd, 1) := by decide +kernel
theorem dX10_nextName_110 : decode cX10_nextName 110 = .ok (.putfield 41, 3) := by decide +kernel
theorem dX10_nextName_113 : decode cX10_nextName 113 = .ok (.goto (-106), 3) := by decide +kernel
theorem dX10_nextName_116 : decode cX10_nextName 116 = .ok (.aload_n 0, 1) := by decide +kernel
theorem dX10_nextName_117 : decode cX10_nextName 117 = .ok (.getfield 41, 3) := by decide +kernel
theorem dX10_nextName_120 : decode cX10_nextName 120 = .ok (.iload_n 2, 1) := by decide +kernel
theorem dX10_nextName_121 : decode cX10_nextName 121 = .ok (.isub, 1) := by decide +kernel
theorem dX10_nextName_122 : decode cX10_nextName 122 = .ok (.bipush 10, 2) := by decide +kernel
theorem dX10_nextName_124 : decode cX10_nextName 124 = .ok (.if_icmp .le 7, 3) := by decide +kernel
theorem dX10_nextName_127 : decode cX10_nextName 127 = .ok (.sipush 264, 3) := by decide +kernel
theorem dX10_nextName_130 : decode cX10_nextName 130 = .ok (.ireturn, 1) := by decide +kernel
theorem dX10_nextName_131 : decode cX10_nextName 131 = .ok (.aload_n 0, 1) := by decide +kernel
theorem dX10_nextName_132 : decode cX10_nextName 132 = .ok (.getfield 22, 3) := by decide +kernel
theorem dX10_nextName_135 : decode cX10_nextName 135 = .ok (.iload_n 1, 1) := by decide +kernel
theorem dX10_nextName_136 : decode cX10_nextName 136 = .ok (.lload_n 3, 1) := by decide +kernel
theorem dX10_nextName_137 : decode cX10_nextName 137 = .ok (.lastore, 1) := by decide +kernel
theorem dX10_nextName_138 : decode cX10_nextName 138 = .ok (.iconst 0, 1) := by decide +kernel
theorem dX10_nextName_139 : decode cX10_nextName 139 = .ok (.istore 5, 2) := by decide +kernel
theorem dX10_nextName_141 : decode cX10_nextName 141 = .ok (.iload 5, 2) := by decide +kernel
theorem dX10_nextName_143 : decode cX10_nextName 143 = .ok (.bipush 18, 2) := by decide +kernel
theorem dX10_nextName_145 : decode cX10_nextName 145 = .ok (.if_icmp .ge 28, 3) := by decide +kernel
theorem dX10_nextName_148 : decode cX10_nextName 148 = .ok (.aload_n 0, 1) := by decide +kernel
theorem dX10_nextName_149 : decode cX10_nextName 149 = .ok (.getfield 11, 3) := by decide +kernel
theorem dX10_nextName_152 : decode cX10_nextName 152 = .ok (.iload 5, 2) := by decide +kernel
theorem dX10_nextName_154 : decode cX10_nextName 154 = .ok (.laload, 1) := by decide +kernel
theorem dX10_nextName_155 : decode cX10_nextName 155 = .ok (.lload_n 3, 1) := by decide +kernel
theorem dX10_nextName_156 : decode cX10_nextName 156 = .ok (.lcmp, 1) := by decide +kernel
theorem dX10_nextName_157 : decode cX10_nextName 157 = .ok (.ifCond .ne 10, 3) := by decide +kernel
theorem dX10_nextName_160 : decode cX10_nextName 160 = .ok (.sipush 300, 3) := by decide +kernel
theorem dX10_nextName_163 : decode cX10_nextName 163 = .ok (.iload 5, 2) := by decide +kernel
theorem dX10_nextName_165 : decode cX10_nextName 165 = .ok (.iadd, 1) := by decide +kernel
theorem dX10_nextName_166 : decode cX10_nextName 166 = .ok (.ireturn, 1) := by decide +kernel
theorem dX10_nextName_167 : decode cX10_nextName 167 = .ok (.iinc 5 1, 3) := by decide +kernel
theorem dX10_nextName_170 : decode cX10_nextName 170 = .ok (.goto (-29), 3) := by decide +kernel
theorem dX10_nextName_173 : decode cX10_nextName 173 = .ok (.sipush 260, 3) := by decide +kernel
theorem dX10_nextName_176 : decode cX10_nextName 176 = .ok (.ireturn, 1) := by decide +kernel
def fX10_nextName_141F (k141 : PH → Nat → Int64 → Int32 → Option (PH × Int32)) (h : PH) (x0 : Nat) (x3 : Int64) (x5 : Int32) : Option (PH × Int32) :=
  if 18 ≤ x5 then (some (h, 260)) else (oC (decide (hT h x0 = 11)) (oN (hR h 1280 x0) (fun a3 => oC (decide (hT h a3 = 102)) (oC (ix x5 (hN h a3)) (if (lg_cmp (hB h a3 (Int32.toNatClampNeg x5)) x3) = 0 then (some (h, (300 + x5))) else (oL (x5 + 1) (fun y7 => k141 h x0 x3 y7)))))))
set_option maxHeartbeats 4000000 in
theorem wfX10_nextName_141F {args : Array Value} (b : Bd p s m c cX10_nextName 6 RX10 D aC) (hlk : meth.locks = false) (hr : meth.sig.returnType = some .int) {Z : State → Prop} (zs : Z s) (zk : ZOK Z (Rg ad)) {hz : PH} {rz : Int32} {k141 : PH → Nat → Int64 → Int32 → Option (PH × Int32)} (H141 : ∀ (h : PH) (x0 : Nat) (x3 : Int64) (x5 : Int32), ∀ (H : Heap) (locs : List Loc) (ls : Array Slot), k141 h x0 x3 x5 = some (hz, rz) → CE (EX D aC ad h) (Rg ad) s H locs → lv_has ls 6 [(0, .ref (ad x0)), (3, .long x3), (5, .int x5)] → W p l e (RM 1 21 0 0) s m args below meth c H locs 0 0 (MQ below (PQ (EX D aC ad hz) (Rg ad) (some (.int rz))) args s 0 0 (Rg ad)) (F0 m 141 ls [])) {h : PH} {x0 : Nat} {x3 : Int64} {x5 : Int32}  {H : Heap} {locs : List Loc} {ls : Array Slot} (hf : fX10_nextName_141F k141 h x0 x3 x5 = some (hz, rz)) (hE : CE (EX D aC ad h) (Rg ad) s H locs) (hl : lv_has ls 6 [(0, .ref (ad x0)), (3, .long x3), (5, .int x5)]) : W p l e (RM 1 21 0 0) s m args below meth c H locs 0 0 (MQ below (PQ (EX D aC ad hz) (Rg ad) (some (.int rz))) args s 0 0 (Rg ad)) (F0 m 141 ls []) := by
  unfold fX10_nextName_141F at hf
  refine lv_iload b.1 b.2.1 dX10_nextName_141 (lv_at hl 2 rfl) ?_
  refine lv_bipush (v := 18) b.1 b.2.1 dX10_nextName_143 (by decide) ?_
  refine lv_icmp_ge (tgt := 173) b.1 b.2.1 dX10_nextName_145 (by decide) (fun c1 => ?_) (fun c1 => ?_)
  · have hf := oI_t c1 hf
    refine lv_sipush (v := 260) b.1 b.2.1 dX10_nextName_173 (by decide) ?_
    cases hf
    exact k_iret b hlk hr hE (Nat.le_refl _) (Nat.le_refl _) dX10_nextName_176
  · have hf := oI_f c1 hf
    refine lv_aload_n b.1 b.2.1 dX10_nextName_148 rfl (lv_at hl 0 rfl) ?_
    obtain ⟨t2, hf⟩ := oC_s hf
    have t2 := of_decide_eq_true t2
    refine gX10_11 (x := (some x0)) b hE rfl t2 dX10_nextName_149 ?_
    refine lv_iload b.1 b.2.1 dX10_nextName_152 (lv_at hl 2 rfl) ?_
    obtain ⟨a3, ea3, hf⟩ := oN_s hf
    obtain ⟨t4, hf⟩ := oC_s hf
    have t4 := of_decide_eq_true t4
    obtain ⟨g5, hf⟩ := oC_s hf
    refine q_lald (x := (hR h 1280 x0)) b hE ea3 t4 g5 dX10_nextName_154 ?_
    refine lv_lload_n b.1 b.2.1 dX10_nextName_155 rfl (lv_at hl 1 rfl) ?_
    refine W.lcmp b.1 b.2.1 dX10_nextName_156 ?_
    refine lv_if_ne (tgt := 167) b.1 b.2.1 dX10_nextName_157 (by decide) (fun c6 => ?_) (fun c6 => ?_)
    · have hf := oI_f c6 hf
      obtain ⟨y7, ey7, hf⟩ := oL_s hf
      refine lv_iinc (v := y7) (lv' := [(5, .int y7), (0, .ref (ad x0)), (3, .long x3)]) b.1 b.2.1 dX10_nextName_167 hl (k := 2) rfl (by rw [ey7]; rfl) (by decide) rfl (fun ls hl => ?_)
      refine lv_goto (tgt := 141) b.1 b.2.1 dX10_nextName_170 (by decide) ?_
      exact H141 h x0 x3 y7 _ _ _ hf hE (lv_sub hl [1, 2, 0] rfl)
    · have hf := oI_t c6 hf
      refine lv_sipush (v := 300) b.1 b.2.1 dX10_nextName_160 (by decide) ?_
      refine lv_iload b.1 b.2.1 dX10_nextName_163 (lv_at hl 2 rfl) ?_
      refine lv_iadd b.1 b.2.1 dX10_nextName_165 ?_
      cases hf
      exact k_iret b hlk hr hE (Nat.le_refl _) (Nat.le_refl _) dX10_nextName_166
def fX10_nextName_141  : Nat → PH → Nat → Int64 → Int32 → Option (PH × Int32)
  | 0 => fun _ _ _ _ => none
  | n + 1 => fX10_nextName_141F  (fX10_nextName_141  n)
set_option maxHeartbeats 4000000 in
theorem wfX10_nextName_141 {args : Array Value} (b : Bd p s m c cX10_nextName 6 RX10 D aC) (hlk : meth.locks = false) (hr : meth.sig.returnType = some .int) {Z : State → Prop} (zs : Z s) (zk : ZOK Z (Rg ad)) {hz : PH} {rz : Int32} : ∀ n : Nat, ∀ (h : PH) (x0 : Nat) (x3 : Int64) (x5 : Int32), ∀ (H : Heap) (locs : List Loc) (ls : Array Slot), fX10_nextName_141  n h x0 x3 x5 = some (hz, rz) → CE (EX D aC ad h) (Rg ad) s H locs → lv_has ls 6 [(0, .ref (ad x0)), (3, .long x3), (5, .int x5)] → W p l e (RM 1 21 0 0) s m args below meth c H locs 0 0 (MQ below (PQ (EX D aC ad hz) (Rg ad) (some (.int rz))) args s 0 0 (Rg ad)) (F0 m 141 ls []) := by
  intro n
  induction n with
  | zero =>
    intro h x0 x3 x5 H locs ls hf
    have hf : (none : Option (PH × Int32)) = some _ := hf
    cases hf
  | succ n ih =>
    intro h x0 x3 x5 H locs ls hf hE hl
    exact wfX10_nextName_141F b hlk hr zs zk  ih hf hE hl
def fX10_nextName_116  (h : PH) (x0 : Nat) (x1 : Int32) (x2 : Int32) (x3 : Int64) : Option (PH × Int32) :=
  oC (decide (hT h x0 = 11)) (if ((hI h 1286 x0) - x2) ≤ 10 then (oN (hR h 1283 x0) (fun a10 => oC (decide (hT h a10 = 102)) (oC (ix x1 (hN h a10)) (oL (sB h a10 (Int32.toNatClampNeg x1) x3) (fun h13 => fX10_nextName_141  FU h13 x0 x3 0))))) else (some (h, 264)))
set_option maxHeartbeats 4000000 in
theorem wfX10_nextName_116 {args : Array Value} (b : Bd p s m c cX10_nextName 6 RX10 D aC) (hlk : meth.locks = false) (hr : meth.sig.returnType = some .int) {Z : State → Prop} (zs : Z s) (zk : ZOK Z (Rg ad)) {hz : PH} {rz : Int32} {h : PH} {x0 : Nat} {x1 : Int32} {x2 : Int32} {x3 : Int64}  {H : Heap} {locs : List Loc} {ls : Array Slot} (hf : fX10_nextName_116 h x0 x1 x2 x3 = some (hz, rz)) (hE : CE (EX D aC ad h) (Rg ad) s H locs) (hl : lv_has ls 6 [(0, .ref (ad x0)), (1, .int x1), (2, .int x2), (3, .long x3)]) : W p l e (RM 1 21 0 0) s m args below meth c H locs 0 0 (MQ below (PQ (EX D aC ad hz) (Rg ad) (some (.int rz))) args s 0 0 (Rg ad)) (F0 m 116 ls []) := by
  unfold fX10_nextName_116 at hf
  refine lv_aload_n b.1 b.2.1 dX10_nextName_116 rfl (lv_at hl 0 rfl) ?_
  obtain ⟨t8, hf⟩ := oC_s hf
  have t8 := of_decide_eq_true t8
  refine gX10_41 (x := (some x0)) b hE rfl t8 dX10_nextName_117 ?_
  refine lv_iload_n b.1 b.2.1 dX10_nextName_120 rfl (lv_at hl 2 rfl) ?_
  refine lv_isub b.1 b.2.1 dX10_nextName_121 ?_
  refine lv_bipush (v := 10) b.1 b.2.1 dX10_nextName_122 (by decide) ?_
  refine lv_icmp_le (tgt := 131) b.1 b.2.1 dX10_nextName_124 (by decide) (fun c9 => ?_) (fun c9 => ?_)
  · have hf := oI_t c9 hf
    refine lv_aload_n b.1 b.2.1 dX10_nextName_131 rfl (lv_at hl 0 rfl) ?_
    refine gX10_22 (x := (some x0)) b hE rfl t8 dX10_nextName_132 ?_
    refine lv_iload_n b.1 b.2.1 dX10_nextName_135 rfl (lv_at hl 1 rfl) ?_
    refine lv_lload_n b.1 b.2.1 dX10_nextName_136 rfl (lv_at hl 3 rfl) ?_
    obtain ⟨a10, ea10, hf⟩ := oN_s hf
    obtain ⟨t11, hf⟩ := oC_s hf
    have t11 := of_decide_eq_true t11
    obtain ⟨g12, hf⟩ := oC_s hf
    obtain ⟨h13, eh13, hf⟩ := oL_s hf
    refine q_last (x := (hR h 1283 x0)) b hE ea10 t11 g12 eh13 dX10_nextName_137 (fun H locs hE => ?_)
    refine lv_iconst (v := 0) b.1 b.2.1 dX10_nextName_138 (by decide) ?_
    refine lv_istore (lv' := [(5, .int 0), (0, .ref (ad x0)), (1, .int x1), (2, .int x2), (3, .long x3)]) b.1 b.2.1 dX10_nextName_139 hl (by decide) rfl (fun ls hl => ?_)
    have hl := lv_sub (l' := [(5, .int 0), (0, .ref (ad x0)), (3, .long x3)]) hl [0, 1, 4] rfl
    exact wfX10_nextName_141 b hlk hr zs zk  FU h13 x0 x3 0 _ _ _ hf hE (lv_sub hl [1, 2, 0] rfl)
  · have hf := oI_f c9 hf
    refine lv_sipush (v := 264) b.1 b.2.1 dX10_nextName_127 (by decide) ?_
    cases hf
    exact k_iret b hlk hr hE (Nat.le_refl _) (Nat.le_refl _) dX10_nextName_130
def fX10_nextName_100 (k7 : PH → Nat → Int32 → Int32 → Int64 → Option (PH × Int32)) (h : PH) (x0 : Nat) (x1 : Int32) (x2 : Int32) (s0 : Int32) (s1 : Int64) : Option (PH × Int32) :=
  oL (s1 ||| (Int32.toInt64 s0)) (fun y14 => oC (decide (hT h x0 = 11)) (oL (sI h 1286 x0 ((hI h 1286 x0) + 1)) (fun h16 => k7 h16 x0 x1 x2 y14)))
set_option maxHeartbeats 4000000 in
theorem wfX10_nextName_100 {args : Array Value} (b : Bd p s m c cX10_nextName 6 RX10 D aC) (hlk : meth.locks = false) (hr : meth.sig.returnType = some .int) {Z : State → Prop} (zs : Z s) (zk : ZOK Z (Rg ad)) {hz : PH} {rz : Int32} {k7 : PH → Nat → Int32 → Int32 → Int64 → Option (PH × Int32)} (H7 : ∀ (h : PH) (x0 : Nat) (x1 : Int32) (x2 : Int32) (x3 : Int64), ∀ (H : Heap) (locs : List Loc) (ls : Array Slot), k7 h x0 x1 x2 x3 = some (hz, rz) → CE (EX D aC ad h) (Rg ad) s H locs → lv_has ls 6 [(0, .ref (ad x0)), (1, .int x1), (2, .int x2), (3, .long x3)] → W p l e (RM 1 21 0 0) s m args below meth c H locs 0 0 (MQ below (PQ (EX D aC ad hz) (Rg ad) (some (.int rz))) args s 0 0 (Rg ad)) (F0 m 7 ls [])) {h : PH} {x0 : Nat} {x1 : Int32} {x2 : Int32} {s0 : Int32} {s1 : Int64}  {H : Heap} {locs : List Loc} {ls : Array Slot} (hf : fX10_nextName_100 k7 h x0 x1 x2 s0 s1 = some (hz, rz)) (hE : CE (EX D aC ad h) (Rg ad) s H locs) (hl : lv_has ls 6 [(0, .ref (ad x0)), (1, .int x1), (2, .int x2)]) : W p l e (RM 1 21 0 0) s m args below meth c H locs 0 0 (MQ below (PQ (EX D aC ad hz) (Rg ad) (some (.int rz))) args s 0 0 (Rg ad)) (F0 m 100 ls [.int s0, .long s1]) := by
  unfold fX10_nextName_100 at hf
  refine lv_i2l b.1 b.2.1 dX10_nextName_100 rfl ?_
  refine lv_lor b.1 b.2.1 dX10_nextName_101 ?_
  obtain ⟨y14, ey14, hf⟩ := oL_s hf
  refine k_nmL ey14 ?_
  refine lv_lstore_n (lv' := [(3, .long y14), (0, .ref (ad x0)), (1, .int x1), (2, .int x2)]) b.1 b.2.1 dX10_nextName_102 rfl hl (by decide) rfl (fun ls hl => ?_)
  refine lv_aload_n b.1 b.2.1 dX10_nextName_103 rfl (lv_at hl 1 rfl) ?_
  refine lv_dup b.1 b.2.1 dX10_nextName_104 rfl ?_
  obtain ⟨t15, hf⟩ := oC_s hf
  have t15 := of_decide_eq_true t15
  refine gX10_41 (x := (some x0)) b hE rfl t15 dX10_nextName_105 ?_
  refine lv_iconst (v := 1) b.1 b.2.1 dX10_nextName_108 (by decide) ?_
  refine lv_iadd b.1 b.2.1 dX10_nextName_109 ?_
  obtain ⟨h16, eh16, hf⟩ := oL_s hf
  refine pX10_41 (x := (some x0)) b hE rfl t15 eh16 dX10_nextName_110 (fun H locs hE => ?_)
  refine lv_goto (tgt := 7) b.1 b.2.1 dX10_nextName_113 (by decide) ?_
  exact H7 h16 x0 x1 x2 y14 _ _ _ hf hE (lv_sub hl [1, 2, 3, 0] rfl)
def fX10_nextName_55 (k7 : PH → Nat → Int32 → Int32 → Int64 → Option (PH × Int32)) (h : PH) (x0 : Nat) (x1 : Int32) (x2 : Int32) (x3 : Int64) : Option (PH × Int32) :=
  oC (decide (hT h x0 = 11)) (oN (hR h 1285 x0) (fun a18 => oC (decide (hT h a18 = 1)) (oB (fX0_byteAt h a18 (hI h 1286 x0)) (fun r21 => oB (fX10_isDigit r21) (fun r23 => if r23 = 0 then (fX10_nextName_100 k7 h x0 x1 x2 ((r21 - 97) + 1) (x3 <<< ((6 : Int32).toInt64 &&& 63))) else (fX10_nextName_100 k7 h x0 x1 x2 (((r21 - 48) + 26) + 1) (x3 <<< ((6 : Int32).toInt64 &&& 63))))))))
set_option maxHeartbeats 4000000 in
theorem wfX10_nextName_55 {args : Array Value} (b : Bd p s m c cX10_nextName 6 RX10 D aC) (hlk : meth.locks = false) (hr : meth.sig.returnType = some .int) {Z : State → Prop} (zs : Z s) (zk : ZOK Z (Rg ad)) {hz : PH} {rz : Int32} {k7 : PH → Nat → Int32 → Int32 → Int64 → Option (PH × Int32)} (H7 : ∀ (h : PH) (x0 : Nat) (x1 : Int32) (x2 : Int32) (x3 : Int64), ∀ (H : Heap) (locs : List Loc) (ls : Array Slot), k7 h x0 x1 x2 x3 = some (hz, rz) → CE (EX D aC ad h) (Rg ad) s H locs → lv_has ls 6 [(0, .ref (ad x0)), (1, .int x1), (2, .int x2), (3, .long x3)] → W p l e (RM 1 21 0 0) s m args below meth c H locs 0 0 (MQ below (PQ (EX D aC ad hz) (Rg ad) (some (.int rz))) args s 0 0 (Rg ad)) (F0 m 7 ls [])) {h : PH} {x0 : Nat} {x1 : Int32} {x2 : Int32} {x3 : Int64}  {H : Heap} {locs : List Loc} {ls : Array Slot} (hf : fX10_nextName_55 k7 h x0 x1 x2 x3 = some (hz, rz)) (hE : CE (EX D aC ad h) (Rg ad) s H locs) (hl : lv_has ls 6 [(0, .ref (ad x0)), (1, .int x1), (2, .int x2), (3, .long x3)]) : W p l e (RM 1 21 0 0) s m args below meth c H locs 0 0 (MQ below (PQ (EX D aC ad hz) (Rg ad) (some (.int rz))) args s 0 0 (Rg ad)) (F0 m 55 ls []) := by
  unfold fX10_nextName_55 at hf
  refine lv_aload_n b.1 b.2.1 dX10_nextName_55 rfl (lv_at hl 0 rfl) ?_
  obtain ⟨t17, hf⟩ := oC_s hf
  have t17 := of_decide_eq_true t17
  refine gX10_37 (x := (some x0)) b hE rfl t17 dX10_nextName_56 ?_
  refine lv_aload_n b.1 b.2.1 dX10_nextName_59 rfl (lv_at hl 0 rfl) ?_
  refine gX10_41 (x := (some x0)) b hE rfl t17 dX10_nextName_60 ?_
  obtain ⟨a18, ea18, hf⟩ := oN_s hf
  obtain ⟨t19, hf⟩ := oC_s hf
  have t19 := of_decide_eq_true t19
  obtain ⟨r21, hc20, hf⟩ := oB_s hf
  refine k_stk [.int (hI h 1286 x0)] ea18 ?_
  refine k_callV0 (C := RX0) b zs zk hE (CX0_byteAt l D aC ad zk hc20) mc_X0_byteAt (in2 129 rfl rfl) mi_X0_byteAt ms_X0_byteAt ini_RX0 ok_X0_byteAt (x_recv b hE (ci := 0) rfl (by decide) t19) ⟨Nat.le_of_ble_eq_true rfl, Nat.le_of_ble_eq_true rfl⟩ rfl hl.1 rfl (k_room _ (by exact Nat.le_of_ble_eq_true rfl)) ⟨Nat.le_refl _, Nat.le_refl _⟩ dX10_nextName_63 (fun H locs hE => ?_)
  refine lv_istore (lv' := [(5, .int r21), (0, .ref (ad x0)), (1, .int x1), (2, .int x2), (3, .long x3)]) b.1 b.2.1 dX10_nextName_66 hl (by decide) rfl (fun ls hl => ?_)
  refine lv_lload_n b.1 b.2.1 dX10_nextName_68 rfl (lv_at hl 4 rfl) ?_
  refine lv_bipush (v := 6) b.1 b.2.1 dX10_nextName_69 (by decide) ?_
  refine lv_lshl b.1 b.2.1 dX10_nextName_71 rfl ?_
  refine lv_iload b.1 b.2.1 dX10_nextName_72 (lv_at hl 0 rfl) ?_
  obtain ⟨r23, hc22, hf⟩ := oB_s hf
  refine k_callS0 b zs zk hE (CX10_isDigit l D aC zk hc22) mc_X10_isDigit (in2 147 rfl rfl) mt_X10_isDigit ini_RX10 ok_X10_isDigit ⟨Nat.le_of_ble_eq_true rfl, Nat.le_of_ble_eq_true rfl⟩ rfl hl.1 rfl (k_room _ (by exact Nat.le_of_ble_eq_true rfl)) ⟨Nat.le_refl _, Nat.le_refl _⟩ dX10_nextName_74 (fun H locs hE => ?_)
  refine lv_if_eq (tgt := 93) b.1 b.2.1 dX10_nextName_77 (by decide) (fun c24 => ?_) (fun c24 => ?_)
  · have hf := oI_t c24 hf
    refine lv_iload b.1 b.2.1 dX10_nextName_93 (lv_at hl 0 rfl) ?_
    refine lv_bipush (v := 97) b.1 b.2.1 dX10_nextName_95 (by decide) ?_
    refine lv_isub b.1 b.2.1 dX10_nextName_97 ?_
    refine lv_iconst (v := 1) b.1 b.2.1 dX10_nextName_98 (by decide) ?_
    refine lv_iadd b.1 b.2.1 dX10_nextName_99 ?_
    exact wfX10_nextName_100 b hlk hr zs zk H7 hf hE (lv_sub hl [1, 2, 3] rfl)
  · have hf := oI_f c24 hf
    refine lv_iload b.1 b.2.1 dX10_nextName_80 (lv_at hl 0 rfl) ?_
    refine lv_bipush (v := 48) b.1 b.2.1 dX10_nextName_82 (by decide) ?_
    refine lv_isub b.1 b.2.1 dX10_nextName_84 ?_
    refine lv_bipush (v := 26) b.1 b.2.1 dX10_nextName_85 (by decide) ?_
    refine lv_iadd b.1 b.2.1 dX10_nextName_87 ?_
    refine lv_iconst (v := 1) b.1 b.2.1 dX10_nextName_88 (by decide) ?_
    refine lv_iadd b.1 b.2.1 dX10_nextName_89 ?_
    refine lv_goto (tgt := 100) b.1 b.2.1 dX10_nextName_90 (by decide) ?_
    exact wfX10_nextName_100 b hlk hr zs zk H7 hf hE (lv_sub hl [1, 2, 3] rfl)
def fX10_nextName_7F (k7 : PH → Nat → Int32 → Int32 → Int64 → Option (PH × Int32)) (h : PH) (x0 : Nat) (x1 : Int32) (x2 : Int32) (x3 : Int64) : Option (PH × Int32) :=
  oC (decide (hT h x0 = 11)) (oN (hR h 1285 x0) (fun a26 => oC (decide (hT h a26 = 1)) (if (hI h 1 a26) ≤ (hI h 1286 x0) then (fX10_nextName_116  h x0 x1 x2 x3) else (oB (fX0_byteAt h a26 (hI h 1286 x0)) (fun r30 => oB (fX10_isSmall r30) (fun r32 => if r32 = 0 then (oB (fX0_byteAt h a26 (hI h 1286 x0)) (fun r35 => oB (fX10_isDigit r35) (fun r37 => if r37 = 0 then (fX10_nextName_116  h x0 x1 x2 x3) else (fX10_nextName_55 k7 h x0 x1 x2 x3)))) else (fX10_nextName_55 k7 h x0 x1 x2 x3)))))))
set_option maxHeartbeats 4000000 in
theorem wfX10_nextName_7F {args : Array Value} (b : Bd p s m c cX10_nextName 6 RX10 D aC) (hlk : meth.locks = false) (hr : meth.sig.returnType = some .int) {Z : State → Prop} (zs : Z s) (zk : ZOK Z (Rg ad)) {hz : PH} {rz : Int32} {k7 : PH → Nat → Int32 → Int32 → Int64 → Option (PH × Int32)} (H7 : ∀ (h : PH) (x0 : Nat) (x1 : Int32) (x2 : Int32) (x3 : Int64), ∀ (H : Heap) (locs : List Loc) (ls : Array Slot), k7 h x0 x1 x2 x3 = some (hz, rz) → CE (EX D aC ad h) (Rg ad) s H locs → lv_has ls 6 [(0, .ref (ad x0)), (1, .int x1), (2, .int x2), (3, .long x3)] → W p l e (RM 1 21 0 0) s m args below meth c H locs 0 0 (MQ below (PQ (EX D aC ad hz) (Rg ad) (some (.int rz))) args s 0 0 (Rg ad)) (F0 m 7 ls [])) {h : PH} {x0 : Nat} {x1 : Int32} {x2 : Int32} {x3 : Int64}  {H : Heap} {locs : List Loc} {ls : Array Slot} (hf : fX10_nextName_7F k7 h x0 x1 x2 x3 = some (hz, rz)) (hE : CE (EX D aC ad h) (Rg ad) s H locs) (hl : lv_has ls 6 [(0, .ref (ad x0)), (1, .int x1), (2, .int x2), (3, .long x3)]) : W p l e (RM 1 21 0 0) s m args below meth c H locs 0 0 (MQ below (PQ (EX D aC ad hz) (Rg ad) (some (.int rz))) args s 0 0 (Rg ad)) (F0 m 7 ls []) := by
  unfold fX10_nextName_7F at hf
  refine lv_aload_n b.1 b.2.1 dX10_nextName_7 rfl (lv_at hl 0 rfl) ?_
  obtain ⟨t25, hf⟩ := oC_s hf
  have t25 := of_decide_eq_true t25
  refine gX10_41 (x := (some x0)) b hE rfl t25 dX10_nextName_8 ?_
  refine lv_aload_n b.1 b.2.1 dX10_nextName_11 rfl (lv_at hl 0 rfl) ?_
  refine gX10_37 (x := (some x0)) b hE rfl t25 dX10_nextName_12 ?_
  obtain ⟨a26, ea26, hf⟩ := oN_s hf
  obtain ⟨t27, hf⟩ := oC_s hf
  have t27 := of_decide_eq_true t27
  refine gX10_48 (x := (hR h 1285 x0)) b hE ea26 t27 dX10_nextName_15 ?_
  refine lv_icmp_ge (tgt := 116) b.1 b.2.1 dX10_nextName_18 (by decide) (fun c28 => ?_) (fun c28 => ?_)
  · have hf := oI_t c28 hf
    exact wfX10_nextName_116 b hlk hr zs zk  hf hE (lv_sub hl [0, 1, 2, 3] rfl)
  · have hf := oI_f c28 hf
    refine lv_aload_n b.1 b.2.1 dX10_nextName_21 rfl (lv_at hl 0 rfl) ?_
    refine gX10_37 (x := (some x0)) b hE rfl t25 dX10_nextName_22 ?_
    refine lv_aload_n b.1 b.2.1 dX10_nextName_25 rfl (lv_at hl 0 rfl) ?_
    refine gX10_41 (x := (some x0)) b hE rfl t25 dX10_nextName_26 ?_
    obtain ⟨r30, hc29, hf⟩ := oB_s hf
    refine k_stk [.int (hI h 1286 x0)] ea26 ?_
    refine k_callV0 (C := RX0) b zs zk hE (CX0_byteAt l D aC ad zk hc29) mc_X0_byteAt (in2 129 rfl rfl) mi_X0_byteAt ms_X0_byteAt ini_RX0 ok_X0_byteAt (x_recv b hE (ci := 0) rfl (by decide) t27) ⟨Nat.le_of_ble_eq_true rfl, Nat.le_of_ble_eq_true rfl⟩ rfl hl.1 rfl (k_room _ (by exact Nat.le_of_ble_eq_true rfl)) ⟨Nat.le_refl _, Nat.le_refl _⟩ dX10_nextName_29 (fun H locs hE => ?_)
    obtain ⟨r32, hc31, hf⟩ := oB_s hf
    refine k_callS0 b zs zk hE (CX10_isSmall l D aC zk hc31) mc_X10_isSmall (in2 140 rfl rfl) mt_X10_isSmall ini_RX10 ok_X10_isSmall ⟨Nat.le_of_ble_eq_true rfl, Nat.le_of_ble_eq_true rfl⟩ rfl hl.1 rfl (k_room _ (by exact Nat.le_of_ble_eq_true rfl)) ⟨Nat.le_refl _, Nat.le_refl _⟩ dX10_nextName_32 (fun H locs hE => ?_)
    refine lv_if_ne (tgt := 55) b.1 b.2.1 dX10_nextName_35 (by decide) (fun c33 => ?_) (fun c33 => ?_)
    · have hf := oI_f c33 hf
      exact wfX10_nextName_55 b hlk hr zs zk H7 hf hE (lv_sub hl [0, 1, 2, 3] rfl)
    · have hf := oI_t c33 hf
      refine lv_aload_n b.1 b.2.1 dX10_nextName_38 rfl (lv_at hl 0 rfl) ?_
      refine gX10_37 (x := (some x0)) b hE rfl t25 dX10_nextName_39 ?_
      refine lv_aload_n b.1 b.2.1 dX10_nextName_42 rfl (lv_at hl 0 rfl) ?_
      refine gX10_41 (x := (some x0)) b hE rfl t25 dX10_nextName_43 ?_
      obtain ⟨r35, hc34, hf⟩ := oB_s hf
      refine k_stk [.int (hI h 1286 x0)] ea26 ?_
      refine k_callV0 (C := RX0) b zs zk hE (CX0_byteAt l D aC ad zk hc34) mc_X0_byteAt (in2 129 rfl rfl) mi_X0_byteAt ms_X0_byteAt ini_RX0 ok_X0_byteAt (x_recv b hE (ci := 0) rfl (by decide) t27) ⟨Nat.le_of_ble_eq_true rfl, Nat.le_of_ble_eq_true rfl⟩ rfl hl.1 rfl (k_room _ (by exact Nat.le_of_ble_eq_true rfl)) ⟨Nat.le_refl _, Nat.le_refl _⟩ dX10_nextName_46 (fun H locs hE => ?_)
      obtain ⟨r37, hc36, hf⟩ := oB_s hf
      refine k_callS0 b zs zk hE (CX10_isDigit l D aC zk hc36) mc_X10_isDigit (in2 147 rfl rfl) mt_X10_isDigit ini_RX10 ok_X10_isDigit ⟨Nat.le_of_ble_eq_true rfl, Nat.le_of_ble_eq_true rfl⟩ rfl hl.1 rfl (k_room _ (by exact Nat.le_of_ble_eq_true rfl)) ⟨Nat.le_refl _, Nat.le_refl _⟩ dX10_nextName_49 (fun H locs hE => ?_)
      refine lv_if_eq (tgt := 116) b.1 b.2.1 dX10_nextName_52 (by decide) (fun c38 => ?_) (fun c38 => ?_)
      · have hf := oI_t c38 hf
        exact wfX10_nextName_116 b hlk hr zs zk  hf hE (lv_sub hl [0, 1, 2, 3] rfl)
      · have hf := oI_f c38 hf
        exact wfX10_nextName_55 b hlk hr zs zk H7 hf hE (lv_sub hl [0, 1, 2, 3] rfl)
def fX10_nextName_7  : Nat → PH → Nat → Int32 → Int32 → Int64 → Option (PH × Int32)
  | 0 => fun _ _ _ _ _ => none
  | n + 1 => fX10_nextName_7F  (fX10_nextName_7  n)
set_option maxHeartbeats 4000000 in
theorem wfX10_nextName_7 {args : Array Value} (b : Bd p s m c cX10_nextName 6 RX10 D aC) (hlk : meth.locks = false) (hr : meth.sig.returnType = some .int) {Z : State → Prop} (zs : Z s) (zk : ZOK Z (Rg ad)) {hz : PH} {rz : Int32} : ∀ n : Nat, ∀ (h : PH) (x0 : Nat) (x1 : Int32) (x2 : Int32) (x3 : Int64), ∀ (H : Heap) (locs : List Loc) (ls : Array Slot), fX10_nextName_7  n h x0 x1 x2 x3 = some (hz, rz) → CE (EX D aC ad h) (Rg ad) s H locs → lv_has ls 6 [(0, .ref (ad x0)), (1, .int x1), (2, .int x2), (3, .long x3)] → W p l e (RM 1 21 0 0) s m args below meth c H locs 0 0 (MQ below (PQ (EX D aC ad hz) (Rg ad) (some (.int rz))) args s 0 0 (Rg ad)) (F0 m 7 ls []) := by
  intro n
  induction n with
  | zero =>
    intro h x0 x1 x2 x3 H locs ls hf
    have hf : (none : Option (PH × Int32)) = some _ := hf
    cases hf
  | succ n ih =>
    intro h x0 x1 x2 x3 H locs ls hf hE hl
    exact wfX10_nextName_7F b hlk hr zs zk  ih hf hE hl
def fX10_nextName_0  (h : PH) (x0 : Nat) (x1 : Int32) : Option (PH × Int32) :=
  oC (decide (hT h x0 = 11)) (oL (hI h 1286 x0) (fun y40 => fX10_nextName_7  FU h x0 x1 y40 0))
set_option maxHeartbeats 4000000 in
theorem wfX10_nextName_0 {args : Array Value} (b : Bd p s m c cX10_nextName 6 RX10 D aC) (hlk : meth.locks = false) (hr : meth.sig.returnType = some .int) {Z : State → Prop} (zs : Z s) (zk : ZOK Z (Rg ad)) {hz : PH} {rz : Int32} {h : PH} {x0 : Nat} {x1 : Int32}  {H : Heap} {locs : List Loc} {ls : Array Slot} (hf : fX10_nextName_0 h x0 x1 = some (hz, rz)) (hE : CE (EX D aC ad h) (Rg ad) s H locs) (hl : lv_has ls 6 [(0, .ref (ad x0)), (1, .int x1)]) : W p l e (RM 1 21 0 0) s m args below meth c H locs 0 0 (MQ below (PQ (EX D aC ad hz) (Rg ad) (some (.int rz))) args s 0 0 (Rg ad)) (F0 m 0 ls []) := by
  unfold fX10_nextName_0 at hf
  refine lv_aload_n b.1 b.2.1 dX10_nextName_0 rfl (lv_at hl 0 rfl) ?_
  obtain ⟨t39, hf⟩ := oC_s hf
  have t39 := of_decide_eq_true t39
  refine gX10_41 (x := (some x0)) b hE rfl t39 dX10_nextName_1 ?_
  obtain ⟨y40, ey40, hf⟩ := oL_s hf
  refine k_nmI ey40 ?_
  refine lv_istore_n (lv' := [(2, .int y40), (0, .ref (ad x0)), (1, .int x1)]) b.1 b.2.1 dX10_nextName_4 rfl hl (by decide) rfl (fun ls hl => ?_)
  refine lv_lconst (v := 0) b.1 b.2.1 dX10_nextName_5 rfl ?_
  refine lv_lstore_n (lv' := [(3, .long 0), (2, .int y40), (0, .ref (ad x0)), (1, .int x1)]) b.1 b.2.1 dX10_nextName_6 rfl hl (by decide) rfl (fun ls hl => ?_)
  exact wfX10_nextName_7 b hlk hr zs zk  FU h x0 x1 y40 0 _ _ _ hf hE (lv_sub hl [2, 3, 1, 0] rfl)
def fX10_nextName (h : PH) (x0 : Nat) (x1 : Int32) : Option (PH × Int32) := fX10_nextName_0 h x0 x1
set_option maxHeartbeats 4000000 in
theorem CX10_nextName (l : Launch) (D : va_G) (aC : Nat → ClassId) (ad : Nat → Nat) {Z : State → Prop} (zk : ZOK Z (Rg ad)) {h : PH} {x0 : Nat} {x1 : Int32} {hz : PH} {rz : Int32} (hf : fX10_nextName h x0 x1 = some (hz, rz)) : CM l D aC Z yX10_nextName cX10_nextName 6 (some .int) 1 21 0 0 (EX D aC ad h) [.ref (ad x0), .int x1] (EX D aC ad hz) (some (.int rz)) (Rg ad) := by
  refine CM.of rfl ?_
  intro p e s m below meth c b hr hlk hin2 zs hE
  refine k_ent (Nat.le_of_ble_eq_true rfl) (fun ls hl => ?_)
  exact wfX10_nextName_0 b hlk hr zs zk hf hE (lv_sub hl [0, 1] rfl)
theorem dX10_nextInteger_0 : decode cX10_nextInteger 0 = .ok (.aload_n 0, 1) := by decide +kernel
theorem dX10_nextInteger_1 : decode cX10_nextInteger 1 = .ok (.getfield 41, 3) := by decide +kernel
theorem dX10_nextInteger_4 : decode cX10_nextInteger 4 = .ok (.istore_n 2, 1) := by decide +kernel
theorem dX10_nextInteger_5 : decode cX10_nextInteger 5 = .ok (.lconst 0, 1) := by decide +kernel
theorem dX10_nextInteger_6 : decode cX10_nextInteger 6 = .ok (.lstore_n 3, 1) := by decide +kernel
theorem dX10_nextInteger_7 : decode cX10_nextInteger 7 = .ok (.aload_n 0, 1) := by decide +kernel
theorem dX10_nextInteger_8 : decode cX10_nextInteger 8 = .ok (.getfield 41, 3) := by decide +kernel
theorem dX10_nextInteger_11 : decode cX10_nextInteger 11 = .ok (.aload_n 0, 1) := by decide +kernel
theorem dX10_nextInteger_12 : decode cX10_nextInteger 12 = .ok (.getfield 37, 3) := by decide +kernel
theorem dX10_nextInteger_15 : decode cX10_nextInteger 15 = .ok (.getfield 48, 3) := by decide +kernel
theorem dX10_nextInteger_18 : decode cX10_nextInteger 18 = .ok (.if_icmp .ge 56, 3) := by decide +kernel
theorem dX10_nextInteger_21 : decode cX10_nextInteger 21 = .ok (.aload_n 0, 1) := by decide +kernel
theorem dX10_nextInteger_22 : decode cX10_nextInteger 22 = .ok (.getfield 37, 3) := by decide +kernel
theorem dX10_nextInteger_25 : decode cX10_nextInteger 25 = .ok (.aload_n 0, 1) := by decide +kernel
theorem dX10_nextInteger_26 : decode cX10_nextInteger 26 = .ok (.getfield 41, 3) := by decide +kernel
theorem dX10_nextInteger_29 : decode cX10_nextInteger 29 = .ok (.invokevirtual 69, 3) := by decide +kernel
theorem dX10_nextInteger_32 : decode cX10_nextInteger 32 = .ok (.invokestatic 82, 3) := by decide +kernel
theorem dX10_nextInteger_35 : decode cX10_nextInteger 35 = .ok (.ifCond .eq 39, 3) := by decide +kernel
theorem dX10_nextInteger_38 : decode cX10_nextInteger 38 = .ok (.lload_n 3, 1) := by decide +kernel
theorem dX10_nextInteger_39 : decode cX10_nextInteger 39 = .ok (.ldc2_w 91, 3) := by decide +kernel
theorem dX10_nextInteger_42 : decode cX10_nextInteger 42 = .ok (.lmul, 1) := by decide +kernel
theorem dX10_nextInteger_43 : decode cX10_nextInteger 43 = .ok (.aload_n 0, 1) := by decide +kernel
theorem dX10_nextInteger_44 : decode cX10_nextInteger 44 = .ok (.getfield 37, 3) := by decide +kernel
theorem dX10_nextInteger_47 : decode cX10_nextInteger 47 = .ok (.aload_n 0, 1) := by decide +kernel
theorem dX10_nextInteger_48 : decode cX10_nextInteger 48 = .ok (.getfield 41, 3) := by decide +kernel
theorem dX10_nextInteger_51 : decode cX10_nextInteger 51 = .ok (.invokevirtual 69, 3) := by decide +kernel
theorem dX10_nextInteger_54 : decode cX10_nextInteger 54 = .ok (.i2l, 1) := by decide +kernel
theorem dX10_nextInteger_55 : decode cX10_nextInteger 55 = .ok (.ladd, 1) := by decide +kernel
theorem dX10_nextInteger_56 : decode cX10_nextInteger 56 = .ok (.ldc2_w 93, 3) := by decide +kernel
theorem dX10_nextInteger_59 : decode cX10_nextInteger 59 = .ok (.lsub, 1) := by decide +kernel
theorem dX10_nextInteger_60 : decode cX10_nextInteger 60 = .ok (.lstore_n 3, 1) := by decide +kernel
theorem dX10_nextInteger_61 : decode cX10_nextInteger 61 = .ok (.aload_n 0, 1) := by decide +kernel
theorem dX10_nextInteger_62 : decode cX10_nextInteger 62 = .ok (.dup, 1) := by decide +kernel
theorem dX10_nextInteger_63 : decode cX10_nextInteger 63 = .ok (.getfield 41, 3) := by decide +kernel
theorem dX10_nextInteger_66 : decode cX10_nextInteger 66 = .ok (.iconst 1, 1) := by decide +kernel
theorem dX10_nextInteger_67 : decode cX10_nextInteger 67 = .ok (.iadd, 1) := by decide +kernel
theorem dX10_nextInteger_68 : decode cX10_nextInteger 68 = .ok (.putfield 41, 3) := by decide +kernel
theorem dX10_nextInteger_71 : decode cX10_nextInteger 71 = .ok (.goto (-64), 3) := by decide +kernel
theorem dX10_nextInteger_74 : decode cX10_nextInteger 74 = .ok (.aload_n 0, 1) := by decide +kernel
theorem dX10_nextInteger_75 : decode cX10_nextInteger 75 = .ok (.getfield 41, 3) := by decide +kernel
theorem dX10_nextInteger_78 : decode cX10_nextInteger 78 = .ok (.iload_n 2, 1) := by decide +kernel
theorem dX10_nextInteger_79 : decode cX10_nextInteger 79 = .ok (.isub, 1) := by decide +kernel
theorem dX10_nextInteger_80 : decode cX10_nextInteger 80 = .ok (.bipush 6, 2) := by decide +kernel
theorem dX10_nextInteger_82 : decode cX10_nextInteger 82 = .ok (.if_icmp .le 7, 3) := by decide +kernel
theorem dX10_nextInteger_85 : decode cX10_nextInteger 85 = .ok (.sipush 264, 3) := by decide +kernel
theorem dX10_nextInteger_88 : decode cX10_nextInteger 88 = .ok (.ireturn, 1) := by decide +kernel
theorem dX10_nextInteger_89 : decode cX10_nextInteger 89 = .ok (.aload_n 0, 1) := by decide +kernel
theorem dX10_nextInteger_90 : decode cX10_nextInteger 90 = .ok (.getfield 22, 3) := by decide +kernel
theorem dX10_nextInteger_93 : decode cX10_nextInteger 93 = .ok (.iload_n 1, 1) := by decide +kernel
theorem dX10_nextInteger_94 : decode cX10_nextInteger 94 = .ok (.lload_n 3, 1) := by decide +kernel
theorem dX10_nextInteger_95 : decode cX10_nextInteger 95 = .ok (.lastore, 1) := by decide +kernel
theorem dX10_nextInteger_96 : decode cX10_nextInteger 96 = .ok (.sipush 262, 3) := by decide +kernel
theorem dX10_nextInteger_99 : decode cX10_nextInteger 99 = .ok (.ireturn, 1) := by decide +kernel
def fX10_nextInteger_74  (h : PH) (x0 : Nat) (x1 : Int32) (x2 : Int32) (x3 : Int64) : Option (PH × Int32) :=
  oC (decide (hT h x0 = 11)) (if ((hI h 1286 x0) - x2) ≤ 6 then (oN (hR h 1283 x0) (fun a3 => oC (decide (hT h a3 = 102)) (oC (ix x1 (hN h a3)) (oL (sB h a3 (Int32.toNatClampNeg x1) x3) (fun h6 => some (h6, 262)))))) else (some (h, 264)))
set_option maxHeartbeats 4000000 in
theorem wfX10_nextInteger_74 {args : Array Value} (b : Bd p s m c cX10_nextInteger 5 RX10 D aC) (hlk : meth.locks = false) (hr : meth.sig.returnType = some .int) {Z : State → Prop} (zs : Z s) (zk : ZOK Z (Rg ad)) {hz : PH} {rz : Int32} {h : PH} {x0 : Nat} {x1 : Int32} {x2 : Int32} {x3 : Int64}  {H : Heap} {locs : List Loc} {ls : Array Slot} (hf : fX10_nextInteger_74 h x0 x1 x2 x3 = some (hz, rz)) (hE : CE (EX D aC ad h) (Rg ad) s H locs) (hl : lv_has ls 5 [(0, .ref (ad x0)), (1, .int x1), (2, .int x2), (3, .long x3)]) : W p l e (RM 1 21 0 0) s m args below meth c H locs 0 0 (MQ below (PQ (EX D aC ad hz) (Rg ad) (some (.int rz))) args s 0 0 (Rg ad)) (F0 m 74 ls []) := by
  unfold fX10_nextInteger_74 at hf
  refine lv_aload_n b.1 b.2.1 dX10_nextInteger_74 rfl (lv_at hl 0 rfl) ?_
  obtain ⟨t1, hf⟩ := oC_s hf
  have t1 := of_decide_eq_true t1
  refine gX10_41 (x := (some x0)) b hE rfl t1 dX10_nextInteger_75 ?_
  refine lv_iload_n b.1 b.2.1 dX10_nextInteger_78 rfl (lv_at hl 2 rfl) ?_
  refine lv_isub b.1 b.2.1 dX10_nextInteger_79 ?_
  refine lv_bipush (v := 6) b.1 b.2.1 dX10_nextInteger_80 (by decide) ?_
  refine lv_icmp_le (tgt := 89) b.1 b.2.1 dX10_nextInteger_82 (by decide) (fun c2 => ?_) (fun c2 => ?_)
  · have hf := oI_t c2 hf
    refine lv_aload_n b.1 b.2.1 dX10_nextInteger_89 rfl (lv_at hl 0 rfl) ?_
    refine gX10_22 (x := (some x0)) b hE rfl t1 dX10_nextInteger_90 ?_
    refine lv_iload_n b.1 b.2.1 dX10_nextInteger_93 rfl (lv_at hl 1 rfl) ?_
    refine lv_lload_n b.1 b.2.1 dX10_nextInteger_94 rfl (lv_at hl 3 rfl) ?_
    obtain ⟨a3, ea3, hf⟩ := oN_s hf
    obtain ⟨t4, hf⟩ := oC_s hf
    have t4 := of_decide_eq_true t4
    obtain ⟨g5, hf⟩ := oC_s hf
    obtain ⟨h6, eh6, hf⟩ := oL_s hf
    refine q_last (x := (hR h 1283 x0)) b hE ea3 t4 g5 eh6 dX10_nextInteger_95 (fun H locs hE => ?_)
    refine lv_sipush (v := 262) b.1 b.2.1 dX10_nextInteger_96 (by decide) ?_
    cases hf
    exact k_iret b hlk hr hE (Nat.le_refl _) (Nat.le_refl _) dX10_nextInteger_99
  · have hf := oI_f c2 hf
    refine lv_sipush (v := 264) b.1 b.2.1 dX10_nextInteger_85 (by decide) ?_
    cases hf
    exact k_iret b hlk hr hE (Nat.le_refl _) (Nat.le_refl _) dX10_nextInteger_88
def fX10_nextInteger_7F (k7 : PH → Nat → Int32 → Int32 → Int64 → Option (PH × Int32)) (h : PH) (x0 : Nat) (x1 : Int32) (x2 : Int32) (x3 : Int64) : Option (PH × Int32) :=
  oC (decide (hT h x0 = 11)) (oN (hR h 1285 x0) (fun a8 => oC (decide (hT h a8 = 1)) (if (hI h 1 a8) ≤ (hI h 1286 x0) then (fX10_nextInteger_74  h x0 x1 x2 x3) else (oB (fX0_byteAt h a8 (hI h 1286 x0)) (fun r12 => oB (fX10_isDigit r12) (fun r14 => if r14 = 0 then (fX10_nextInteger_74  h x0 x1 x2 x3) else (oB (fX0_byteAt h a8 (hI h 1286 x0)) (fun r17 => oL (((x3 * 10) + (Int32.toInt64 r17)) - 48) (fun y18 => oL (sI h 1286 x0 ((hI h 1286 x0) + 1)) (fun h19 => k7 h19 x0 x1 x2 y18))))))))))
set_option maxHeartbeats 4000000 in
theorem wfX10_nextInteger_7F {args : Array Value} (b : Bd p s m c cX10_nextInteger 5 RX10 D aC) (hlk : meth.locks = false) (hr : meth.sig.returnType = some .int) {Z : State → Prop} (zs : Z s) (zk : ZOK Z (Rg ad)) {hz : PH} {rz : Int32} {k7 : PH → Nat → Int32 → Int32 → Int64 → Option (PH × Int32)} (H7 : ∀ (h : PH) (x0 : Nat) (x1 : Int32) (x2 : Int32) (x3 : Int64), ∀ (H : Heap) (locs : List Loc) (ls : Array Slot), k7 h x0 x1 x2 x3 = some (hz, rz) → CE (EX D aC ad h) (Rg ad) s H locs → lv_has ls 5 [(0, .ref (ad x0)), (1, .int x1), (2, .int x2), (3, .long x3)] → W p l e (RM 1 21 0 0) s m args below meth c H locs 0 0 (MQ below (PQ (EX D aC ad hz) (Rg ad) (some (.int rz))) args s 0 0 (Rg ad)) (F0 m 7 ls [])) {h : PH} {x0 : Nat} {x1 : Int32} {x2 : Int32} {x3 : Int64}  {H : Heap} {locs : List Loc} {ls : Array Slot} (hf : fX10_nextInteger_7F k7 h x0 x1 x2 x3 = some (hz, rz)) (hE : CE (EX D aC ad h) (Rg ad) s H locs) (hl : lv_has ls 5 [(0, .ref (ad x0)), (1, .int x1), (2, .int x2), (3, .long x3)]) : W p l e (RM 1 21 0 0) s m args below meth c H locs 0 0 (MQ below (PQ (EX D aC ad hz) (Rg ad) (some (.int rz))) args s 0 0 (Rg ad)) (F0 m 7 ls []) := by
  unfold fX10_nextInteger_7F at hf
  refine lv_aload_n b.1 b.2.1 dX10_nextInteger_7 rfl (lv_at hl 0 rfl) ?_
  obtain ⟨t7, hf⟩ := oC_s hf
  have t7 := of_decide_eq_true t7
  refine gX10_41 (x := (some x0)) b hE rfl t7 dX10_nextInteger_8 ?_
  refine lv_aload_n b.1 b.2.1 dX10_nextInteger_11 rfl (lv_at hl 0 rfl) ?_
  refine gX10_37 (x := (some x0)) b hE rfl t7 dX10_nextInteger_12 ?_
  obtain ⟨a8, ea8, hf⟩ := oN_s hf
  obtain ⟨t9, hf⟩ := oC_s hf
  have t9 := of_decide_eq_true t9
  refine gX10_48 (x := (hR h 1285 x0)) b hE ea8 t9 dX10_nextInteger_15 ?_
  refine lv_icmp_ge (tgt := 74) b.1 b.2.1 dX10_nextInteger_18 (by decide) (fun c10 => ?_) (fun c10 => ?_)
  · have hf := oI_t c10 hf
    exact wfX10_nextInteger_74 b hlk hr zs zk  hf hE (lv_sub hl [0, 1, 2, 3] rfl)
  · have hf := oI_f c10 hf
    refine lv_aload_n b.1 b.2.1 dX10_nextInteger_21 rfl (lv_at hl 0 rfl) ?_
    refine gX10_37 (x := (some x0)) b hE rfl t7 dX10_nextInteger_22 ?_
    refine lv_aload_n b.1 b.2.1 dX10_nextInteger_25 rfl (lv_at hl 0 rfl) ?_
    refine gX10_41 (x := (some x0)) b hE rfl t7 dX10_nextInteger_26 ?_
    obtain ⟨r12, hc11, hf⟩ := oB_s hf
    refine k_stk [.int (hI h 1286 x0)] ea8 ?_
    refine k_callV0 (C := RX0) b zs zk hE (CX0_byteAt l D aC ad zk hc11) mc_X0_byteAt (in2 129 rfl rfl) mi_X0_byteAt ms_X0_byteAt ini_RX0 ok_X0_byteAt (x_recv b hE (ci := 0) rfl (by decide) t9) ⟨Nat.le_of_ble_eq_true rfl, Nat.le_of_ble_eq_true rfl⟩ rfl hl.1 rfl (k_room _ (by exact Nat.le_of_ble_eq_true rfl)) ⟨Nat.le_refl _, Nat.le_refl _⟩ dX10_nextInteger_29 (fun H locs hE => ?_)
    obtain ⟨r14, hc13, hf⟩ := oB_s hf
    refine k_callS0 b zs zk hE (CX10_isDigit l D aC zk hc13) mc_X10_isDigit (in2 147 rfl rfl) mt_X10_isDigit ini_RX10 ok_X10_isDigit ⟨Nat.le_of_ble_eq_true rfl, Nat.le_of_ble_eq_true rfl⟩ rfl hl.1 rfl (k_room _ (by exact Nat.le_of_ble_eq_true rfl)) ⟨Nat.le_refl _, Nat.le_refl _⟩ dX10_nextInteger_32 (fun H locs hE => ?_)
    refine lv_if_eq (tgt := 74) b.1 b.2.1 dX10_nextInteger_35 (by decide) (fun c15 => ?_) (fun c15 => ?_)
    · have hf := oI_t c15 hf
      exact wfX10_nextInteger_74 b hlk hr zs zk  hf hE (lv_sub hl [0, 1, 2, 3] rfl)
    · have hf := oI_f c15 hf
      refine lv_lload_n b.1 b.2.1 dX10_nextInteger_38 rfl (lv_at hl 3 rfl) ?_
      refine k_ldc2 (v := 10) b (in2 154 rfl rfl) dX10_nextInteger_39 ?_
      refine lv_lmul b.1 b.2.1 dX10_nextInteger_42 ?_
      refine lv_aload_n b.1 b.2.1 dX10_nextInteger_43 rfl (lv_at hl 0 rfl) ?_
      refine gX10_37 (x := (some x0)) b hE rfl t7 dX10_nextInteger_44 ?_
      refine lv_aload_n b.1 b.2.1 dX10_nextInteger_47 rfl (lv_at hl 0 rfl) ?_
      refine gX10_41 (x := (some x0)) b hE rfl t7 dX10_nextInteger_48 ?_
      obtain ⟨r17, hc16, hf⟩ := oB_s hf
      refine k_stk [.int (hI h 1286 x0)] ea8 ?_
      refine k_callV0 (C := RX0) b zs zk hE (CX0_byteAt l D aC ad zk hc16) mc_X0_byteAt (in2 129 rfl rfl) mi_X0_byteAt ms_X0_byteAt ini_RX0 ok_X0_byteAt (x_recv b hE (ci := 0) rfl (by decide) t9) ⟨Nat.le_of_ble_eq_true rfl, Nat.le_of_ble_eq_true rfl⟩ rfl hl.1 rfl (k_room _ (by exact Nat.le_of_ble_eq_true rfl)) ⟨Nat.le_refl _, Nat.le_refl _⟩ dX10_nextInteger_51 (fun H locs hE => ?_)
      refine lv_i2l b.1 b.2.1 dX10_nextInteger_54 rfl ?_
      refine lv_ladd b.1 b.2.1 dX10_nextInteger_55 ?_
      refine k_ldc2 (v := 48) b (in2 155 rfl rfl) dX10_nextInteger_56 ?_
      refine lv_lsub b.1 b.2.1 dX10_nextInteger_59 ?_
      obtain ⟨y18, ey18, hf⟩ := oL_s hf
      refine k_nmL ey18 ?_
      refine lv_lstore_n (lv' := [(3, .long y18), (0, .ref (ad x0)), (1, .int x1), (2, .int x2)]) b.1 b.2.1 dX10_nextInteger_60 rfl hl (by decide) rfl (fun ls hl => ?_)
      refine lv_aload_n b.1 b.2.1 dX10_nextInteger_61 rfl (lv_at hl 1 rfl) ?_
      refine lv_dup b.1 b.2.1 dX10_nextInteger_62 rfl ?_
      refine gX10_41 (x := (some x0)) b hE rfl t7 dX10_nextInteger_63 ?_
      refine lv_iconst (v := 1) b.1 b.2.1 dX10_nextInteger_66 (by decide) ?_
      refine lv_iadd b.1 b.2.1 dX10_nextInteger_67 ?_
      obtain ⟨h19, eh19, hf⟩ := oL_s hf
      refine pX10_41 (x := (some x0)) b hE rfl t7 eh19 dX10_nextInteger_68 (fun H locs hE => ?_)
      refine lv_goto (tgt := 7) b.1 b.2.1 dX10_nextInteger_71 (by decide) ?_
      exact H7 h19 x0 x1 x2 y18 _ _ _ hf hE (lv_sub hl [1, 2, 3, 0] rfl)
def fX10_nextInteger_7  : Nat → PH → Nat → Int32 → Int32 → Int64 → Option (PH × Int32)
  | 0 => fun _ _ _ _ _ => none
  | n + 1 => fX10_nextInteger_7F  (fX10_nextInteger_7  n)
set_option maxHeartbeats 4000000 in
theorem wfX10_nextInteger_7 {args : Array Value} (b : Bd p s m c cX10_nextInteger 5 RX10 D aC) (hlk : meth.locks = false) (hr : meth.sig.returnType = some .int) {Z : State → Prop} (zs : Z s) (zk : ZOK Z (Rg ad)) {hz : PH} {rz : Int32} : ∀ n : Nat, ∀ (h : PH) (x0 : Nat) (x1 : Int32) (x2 : Int32) (x3 : Int64), ∀ (H : Heap) (locs : List Loc) (ls : Array Slot), fX10_nextInteger_7  n h x0 x1 x2 x3 = some (hz, rz) → CE (EX D aC ad h) (Rg ad) s H locs → lv_has ls 5 [(0, .ref (ad x0)), (1, .int x1), (2, .int x2), (3, .long x3)] → W p l e (RM 1 21 0 0) s m args below meth c H locs 0 0 (MQ below (PQ (EX D aC ad hz) (Rg ad) (some (.int rz))) args s 0 0 (Rg ad)) (F0 m 7 ls []) := by
  intro n
  induction n with
  | zero =>
    intro h x0 x1 x2 x3 H locs ls hf
    have hf : (none : Option (PH × Int32)) = some _ := hf
    cases hf
  | succ n ih =>
    intro h x0 x1 x2 x3 H locs ls hf hE hl
    exact wfX10_nextInteger_7F b hlk hr zs zk  ih hf hE hl
def fX10_nextInteger_0  (h : PH) (x0 : Nat) (x1 : Int32) : Option (PH × Int32) :=
  oC (decide (hT h x0 = 11)) (oL (hI h 1286 x0) (fun y21 => fX10_nextInteger_7  FU h x0 x1 y21 0))
set_option maxHeartbeats 4000000 in
theorem wfX10_nextInteger_0 {args : Array Value} (b : Bd p s m c cX10_nextInteger 5 RX10 D aC) (hlk : meth.locks = false) (hr : meth.sig.returnType = some .int) {Z : State → Prop} (zs : Z s) (zk : ZOK Z (Rg ad)) {hz : PH} {rz : Int32} {h : PH} {x0 : Nat} {x1 : Int32}  {H : Heap} {locs : List Loc} {ls : Array Slot} (hf : fX10_nextInteger_0 h x0 x1 = some (hz, rz)) (hE : CE (EX D aC ad h) (Rg ad) s H locs) (hl : lv_has ls 5 [(0, .ref (ad x0)), (1, .int x1)]) : W p l e (RM 1 21 0 0) s m args below meth c H locs 0 0 (MQ below (PQ (EX D aC ad hz) (Rg ad) (some (.int rz))) args s 0 0 (Rg ad)) (F0 m 0 ls []) := by
  unfold fX10_nextInteger_0 at hf
  refine lv_aload_n b.1 b.2.1 dX10_nextInteger_0 rfl (lv_at hl 0 rfl) ?_
  obtain ⟨t20, hf⟩ := oC_s hf
  have t20 := of_decide_eq_true t20
  refine gX10_41 (x := (some x0)) b hE rfl t20 dX10_nextInteger_1 ?_
  obtain ⟨y21, ey21, hf⟩ := oL_s hf
  refine k_nmI ey21 ?_
  refine lv_istore_n (lv' := [(2, .int y21), (0, .ref (ad x0)), (1, .int x1)]) b.1 b.2.1 dX10_nextInteger_4 rfl hl (by decide) rfl (fun ls hl => ?_)
  refine lv_lconst (v := 0) b.1 b.2.1 dX10_nextInteger_5 rfl ?_
  refine lv_lstore_n (lv' := [(3, .long 0), (2, .int y21), (0, .ref (ad x0)), (1, .int x1)]) b.1 b.2.1 dX10_nextInteger_6 rfl hl (by decide) rfl (fun ls hl => ?_)
  exact wfX10_nextInteger_7 b hlk hr zs zk  FU h x0 x1 y21 0 _ _ _ hf hE (lv_sub hl [2, 3, 1, 0] rfl)
def fX10_nextInteger (h : PH) (x0 : Nat) (x1 : Int32) : Option (PH × Int32) := fX10_nextInteger_0 h x0 x1
set_option maxHeartbeats 4000000 in
theorem CX10_nextInteger (l : Launch) (D : va_G) (aC : Nat → ClassId) (ad : Nat → Nat) {Z : State → Prop} (zk : ZOK Z (Rg ad)) {h : PH} {x0 : Nat} {x1 : Int32} {hz : PH} {rz : Int32} (hf : fX10_nextInteger h x0 x1 = some (hz, rz)) : CM l D aC Z yX10_nextInteger cX10_nextInteger 5 (some .int) 1 21 0 0 (EX D aC ad h) [.ref (ad x0), .int x1] (EX D aC ad hz) (some (.int rz)) (Rg ad) := by
  refine CM.of rfl ?_
  intro p e s m below meth c b hr hlk hin2 zs hE
  refine k_ent (Nat.le_of_ble_eq_true rfl) (fun ls hl => ?_)
  exact wfX10_nextInteger_0 b hlk hr zs zk hf hE (lv_sub hl [0, 1] rfl)
theorem dX10_signOfTwo_0 : decode cX10_signOfTwo 0 = .ok (.iload_n 0, 1) := by decide +kernel
theorem dX10_signOfTwo_1 : decode cX10_signOfTwo 1 = .ok (.bipush 61, 2) := by decide +kernel
theorem dX10_signOfTwo_3 : decode cX10_signOfTwo 3 = .ok (.if_icmp .ne 13, 3) := by decide +kernel
theorem dX10_signOfTwo_6 : decode cX10_signOfTwo 6 = .ok (.iload_n 1, 1) := by decide +kernel
theorem dX10_signOfTwo_7 : decode cX10_signOfTwo 7 = .ok (.bipush 62, 2) := by decide +kernel
theorem dX10_signOfTwo_9 : decode cX10_signOfTwo 9 = .ok (.if_icmp .ne 7, 3) := by decide +kernel
theorem dX10_signOfTwo_12 : decode cX10_signOfTwo 12 = .ok (.sipush 256, 3) := by decide +kernel
theorem dX10_signOfTwo_15 : decode cX10_signOfTwo 15 = .ok (.ireturn, 1) := by decide +kernel
theorem dX10_signOfTwo_16 : decode cX10_signOfTwo 16 = .ok (.iload_n 1, 1) := by decide +kernel
theorem dX10_signOfTwo_17 : decode cX10_signOfTwo 17 = .ok (.bipush 61, 2) := by decide +kernel
theorem dX10_signOfTwo_19 : decode cX10_signOfTwo 19 = .ok (.if_icmp .eq 7, 3) := by decide +kernel
theorem dX10_signOfTwo_22 : decode cX10_signOfTwo 22 = .ok (.sipush 264, 3) := by decide +kernel
theorem dX10_signOfTwo_25 : decode cX10_signOfTwo 25 = .ok (.ireturn, 1) := by decide +kernel
theorem dX10_signOfTwo_26 : decode cX10_signOfTwo 26 = .ok (.iload_n 0, 1) := by decide +kernel
theorem dX10_signOfTwo_27 : decode cX10_signOfTwo 27 = .ok (.lookupswitch 45 #[(33, 37), (60, 41), (61, 33)], 33) := by decide +kernel
theorem dX10_signOfTwo_60 : decode cX10_signOfTwo 60 = .ok (.sipush 257, 3) := by decide +kernel
theorem dX10_signOfTwo_63 : decode cX10_signOfTwo 63 = .ok (.ireturn, 1) := by decide +kernel
theorem dX10_signOfTwo_64 : decode cX10_signOfTwo 64 = .ok (.sipush 258, 3) := by decide +kernel
theorem dX10_signOfTwo_67 : decode cX10_signOfTwo 67 = .ok (.ireturn, 1) := by decide +kernel
theorem dX10_signOfTwo_68 : decode cX10_signOfTwo 68 = .ok (.sipush 259, 3) := by decide +kernel
theorem dX10_signOfTwo_71 : decode cX10_signOfTwo 71 = .ok (.ireturn, 1) := by decide +kernel
theorem dX10_signOfTwo_72 : decode cX10_signOfTwo 72 = .ok (.sipush 264, 3) := by decide +kernel
theorem dX10_signOfTwo_75 : decode cX10_signOfTwo 75 = .ok (.ireturn, 1) := by decide +kernel
def fX10_signOfTwo_16  (x0 : Int32) (x1 : Int32) : Option (Int32) :=
  if x1 = 61 then (if x0 = 33 then (some (258)) else (if x0 = 60 then (some (259)) else (if x0 = 61 then (some (257)) else (some (264))))) else (some (264))
set_option maxHeartbeats 4000000 in
theorem wfX10_signOfTwo_16 {E : Heap → Prop} {A : Nat → Prop} {args : Array Value} (b : Bd p s m c cX10_signOfTwo 2 RX10 D aC) (hlk : meth.locks = false) (hr : meth.sig.returnType = some .int) {Z : State → Prop} (zs : Z s) (zk : ZOK Z A) {rz : Int32} {x0 : Int32} {x1 : Int32}  {H : Heap} {locs : List Loc} {ls : Array Slot} (hf : fX10_signOfTwo_16 x0 x1 = some rz) (hE : CE E A s H locs) (hl : lv_has ls 2 [(0, .int x0), (1, .int x1)]) : W p l e (RM 0 0 0 0) s m args below meth c H locs 0 0 (MQ below (PQ E A (some (.int rz))) args s 0 0 A) (F0 m 16 ls []) := by
  unfold fX10_signOfTwo_16 at hf
  refine lv_iload_n b.1 b.2.1 dX10_signOfTwo_16 rfl (lv_at hl 1 rfl) ?_
  refine lv_bipush (v := 61) b.1 b.2.1 dX10_signOfTwo_17 (by decide) ?_
  refine lv_icmp_eq (tgt := 26) b.1 b.2.1 dX10_signOfTwo_19 (by decide) (fun c1 => ?_) (fun c1 => ?_)
  · have hf := oI_t c1 hf
    refine lv_iload_n b.1 b.2.1 dX10_signOfTwo_26 rfl (lv_at hl 0 rfl) ?_
    rcases Decidable.em (x0 = 33) with c2 | c2
    · have hf := oI_t c2 hf
      refine lv_lookup (tgt := 64) (off := 37) b.1 b.2.1 dX10_signOfTwo_27 (by decide) (by rw [c2] <;> rfl) (by decide) ?_
      refine lv_sipush (v := 258) b.1 b.2.1 dX10_signOfTwo_64 (by decide) ?_
      cases hf
      exact k_iret b hlk hr hE (Nat.le_refl _) (Nat.le_refl _) dX10_signOfTwo_67
    have hf := oI_f c2 hf
    rcases Decidable.em (x0 = 60) with c3 | c3
    · have hf := oI_t c3 hf
      refine lv_lookup (tgt := 68) (off := 41) b.1 b.2.1 dX10_signOfTwo_27 (by decide) (by rw [c3] <;> rfl) (by decide) ?_
      refine lv_sipush (v := 259) b.1 b.2.1 dX10_signOfTwo_68 (by decide) ?_
      cases hf
      exact k_iret b hlk hr hE (Nat.le_refl _) (Nat.le_refl _) dX10_signOfTwo_71
    have hf := oI_f c3 hf
    rcases Decidable.em (x0 = 61) with c4 | c4
    · have hf := oI_t c4 hf
      refine lv_lookup (tgt := 60) (off := 33) b.1 b.2.1 dX10_signOfTwo_27 (by decide) (by rw [c4] <;> rfl) (by decide) ?_
      refine lv_sipush (v := 257) b.1 b.2.1 dX10_signOfTwo_60 (by decide) ?_
      cases hf
      exact k_iret b hlk hr hE (Nat.le_refl _) (Nat.le_refl _) dX10_signOfTwo_63
    have hf := oI_f c4 hf
    refine lv_lookup (tgt := 72) (off := 45) b.1 b.2.1 dX10_signOfTwo_27 (by decide) (by rw [lv_osw c2 (by decide), lv_osw c3 (by decide), lv_osw c4 (by decide)] <;> rfl) (by decide) ?_
    refine lv_sipush (v := 264) b.1 b.2.1 dX10_signOfTwo_72 (by decide) ?_
    cases hf
    exact k_iret b hlk hr hE (Nat.le_refl _) (Nat.le_refl _) dX10_signOfTwo_75
  · have hf := oI_f c1 hf
    refine lv_sipush (v := 264) b.1 b.2.1 dX10_signOfTwo_22 (by decide) ?_
    cases hf
    exact k_iret b hlk hr hE (Nat.le_refl _) (Nat.le_refl _) dX10_signOfTwo_25
def fX10_signOfTwo_0  (x0 : Int32) (x1 : Int32) : Option (Int32) :=
  if x0 = 61 then (if x1 = 62 then (some (256)) else (fX10_signOfTwo_16  x0 x1)) else (fX10_signOfTwo_16  x0 x1)
set_option maxHeartbeats 4000000 in
theorem wfX10_signOfTwo_0 {E : Heap → Prop} {A : Nat → Prop} {args : Array Value} (b : Bd p s m c cX10_signOfTwo 2 RX10 D aC) (hlk : meth.locks = false) (hr : meth.sig.returnType = some .int) {Z : State → Prop} (zs : Z s) (zk : ZOK Z A) {rz : Int32} {x0 : Int32} {x1 : Int32}  {H : Heap} {locs : List Loc} {ls : Array Slot} (hf : fX10_signOfTwo_0 x0 x1 = some rz) (hE : CE E A s H locs) (hl : lv_has ls 2 [(0, .int x0), (1, .int x1)]) : W p l e (RM 0 0 0 0) s m args below meth c H locs 0 0 (MQ below (PQ E A (some (.int rz))) args s 0 0 A) (F0 m 0 ls []) := by
  unfold fX10_signOfTwo_0 at hf
  refine lv_iload_n b.1 b.2.1 dX10_signOfTwo_0 rfl (lv_at hl 0 rfl) ?_
  refine lv_bipush (v := 61) b.1 b.2.1 dX10_signOfTwo_1 (by decide) ?_
  refine lv_icmp_ne (tgt := 16) b.1 b.2.1 dX10_signOfTwo_3 (by decide) (fun c5 => ?_) (fun c5 => ?_)
  · have hf := oI_f c5 hf
    exact wfX10_signOfTwo_16 b hlk hr zs zk  hf hE (lv_sub hl [0, 1] rfl)
  · have hf := oI_t c5 hf
    refine lv_iload_n b.1 b.2.1 dX10_signOfTwo_6 rfl (lv_at hl 1 rfl) ?_
    refine lv_bipush (v := 62) b.1 b.2.1 dX10_signOfTwo_7 (by decide) ?_
    refine lv_icmp_ne (tgt := 16) b.1 b.2.1 dX10_signOfTwo_9 (by decide) (fun c6 => ?_) (fun c6 => ?_)
    · have hf := oI_f c6 hf
      exact wfX10_signOfTwo_16 b hlk hr zs zk  hf hE (lv_sub hl [0, 1] rfl)
    · have hf := oI_t c6 hf
      refine lv_sipush (v := 256) b.1 b.2.1 dX10_signOfTwo_12 (by decide) ?_
      cases hf
      exact k_iret b hlk hr hE (Nat.le_refl _) (Nat.le_refl _) dX10_signOfTwo_15
def fX10_signOfTwo (x0 : Int32) (x1 : Int32) : Option (Int32) := fX10_signOfTwo_0 x0 x1
set_option maxHeartbeats 4000000 in
theorem CX10_signOfTwo (l : Launch) (D : va_G) (aC : Nat → ClassId) {E : Heap → Prop} {A : Nat → Prop} {Z : State → Prop} (zk : ZOK Z A) {x0 : Int32} {x1 : Int32} {rz : Int32} (hf : fX10_signOfTwo x0 x1 = some rz) : CM l D aC Z yX10_signOfTwo cX10_signOfTwo 2 (some .int) 0 0 0 0 E [.int x0, .int x1] E (some (.int rz)) A := by
  refine CM.of rfl ?_
  intro p e s m below meth c b hr hlk hin2 zs hE
  refine k_ent (Nat.le_of_ble_eq_true rfl) (fun ls hl => ?_)
  exact wfX10_signOfTwo_0 b hlk hr zs zk hf hE (lv_sub hl [0, 1] rfl)
end
