section
variable {p : Program} {l : Launch} {e : Env} {s : State} {m : MethodId} {below : List Frame} {meth : Method} {c : Code} {D : va_G} {aC : Nat → ClassId} {ad : Nat → Nat}
theorem dX1_ruleAt_0 : decode cX1_ruleAt 0 = .ok (.iload_n 1, 1) := by decide +kernel
theorem dX1_ruleAt_1 : decode cX1_ruleAt 1 = .ok (.ifCond .lt 23, 3) := by decide +kernel
theorem dX1_ruleAt_4 : decode cX1_ruleAt 4 = .ok (.iload_n 1, 1) := by decide +kernel
theorem dX1_ruleAt_5 : decode cX1_ruleAt 5 = .ok (.aload_n 0, 1) := by decide +kernel
theorem dX1_ruleAt_6 : decode cX1_ruleAt 6 = .ok (.getfield 29, 3) := by decide +kernel
theorem dX1_ruleAt_9 : decode cX1_ruleAt 9 = .ok (.getfield 57, 3) := by decide +kernel
theorem dX1_ruleAt_12 : decode cX1_ruleAt 12 = .ok (.if_icmp .ge 12, 3) := by decide +kernel
theorem dX1_ruleAt_15 : decode cX1_ruleAt 15 = .ok (.aload_n 0, 1) := by decide +kernel
theorem dX1_ruleAt_16 : decode cX1_ruleAt 16 = .ok (.getfield 44, 3) := by decide +kernel
theorem dX1_ruleAt_19 : decode cX1_ruleAt 19 = .ok (.iload_n 1, 1) := by decide +kernel
theorem dX1_ruleAt_20 : decode cX1_ruleAt 20 = .ok (.aaload, 1) := by decide +kernel
theorem dX1_ruleAt_21 : decode cX1_ruleAt 21 = .ok (.goto 4, 3) := by decide +kernel
theorem dX1_ruleAt_24 : decode cX1_ruleAt 24 = .ok (.aconst_null, 1) := by decide +kernel
theorem dX1_ruleAt_25 : decode cX1_ruleAt 25 = .ok (.areturn, 1) := by decide +kernel
def fX1_ruleAt_0  (h : PH) (x0 : Nat) (x1 : Int32) : Option (Option Nat) :=
  if x1 < 0 then (some (none)) else (oC (decide (hT h x0 = 2)) (oN (hR h 132 x0) (fun a3 => oC (decide (hT h a3 = 8)) (if (hI h 897 a3) ≤ x1 then (some (none)) else (oN (hR h 136 x0) (fun a6 => oC (decide (hT h a6 = 104)) (oC (ix x1 (hN h a6)) (some ((hC h a6 (Int32.toNatClampNeg x1)))))))))))
set_option maxHeartbeats 4000000 in
theorem wfX1_ruleAt_0 {args : Array Value} (b : Bd p s m c cX1_ruleAt 2 RX1 D aC) (hlk : meth.locks = false) (hr : meth.sig.returnType = some (.object "StatuteBench$Rule")) {Z : State → Prop} (zs : Z s) (zk : ZOK Z (Rg ad)) {rz : Option Nat} {h : PH} {x0 : Nat} {x1 : Int32}  {H : Heap} {locs : List Loc} {ls : Array Slot} (hf : fX1_ruleAt_0 h x0 x1 = some rz) (hE : CE (EX D aC ad h) (Rg ad) s H locs) (hl : lv_has ls 2 [(0, .ref (ad x0)), (1, .int x1)]) : W p l e (RM 0 0 0 0) s m args below meth c H locs 0 0 (MQ below (PQ (EX D aC ad h) (Rg ad) (some (va_rf (Option.map ad rz)))) args s 0 0 (Rg ad)) (F0 m 0 ls []) := by
  unfold fX1_ruleAt_0 at hf
  refine lv_iload_n b.1 b.2.1 dX1_ruleAt_0 rfl (lv_at hl 1 rfl) ?_
  refine lv_if_lt (tgt := 24) b.1 b.2.1 dX1_ruleAt_1 (by decide) (fun c1 => ?_) (fun c1 => ?_)
  · have hf := oI_t c1 hf
    refine lv_null b.1 b.2.1 dX1_ruleAt_24 ?_
    cases hf
    exact k_aret b hlk hr hE (Nat.le_refl _) (Nat.le_refl _) dX1_ruleAt_25
  · have hf := oI_f c1 hf
    refine lv_iload_n b.1 b.2.1 dX1_ruleAt_4 rfl (lv_at hl 1 rfl) ?_
    refine lv_aload_n b.1 b.2.1 dX1_ruleAt_5 rfl (lv_at hl 0 rfl) ?_
    obtain ⟨t2, hf⟩ := oC_s hf
    have t2 := of_decide_eq_true t2
    refine gX1_29 (x := (some x0)) b hE rfl t2 dX1_ruleAt_6 ?_
    obtain ⟨a3, ea3, hf⟩ := oN_s hf
    obtain ⟨t4, hf⟩ := oC_s hf
    have t4 := of_decide_eq_true t4
    refine gX1_57 (x := (hR h 132 x0)) b hE ea3 t4 dX1_ruleAt_9 ?_
    refine lv_icmp_ge (tgt := 24) b.1 b.2.1 dX1_ruleAt_12 (by decide) (fun c5 => ?_) (fun c5 => ?_)
    · have hf := oI_t c5 hf
      refine lv_null b.1 b.2.1 dX1_ruleAt_24 ?_
      cases hf
      exact k_aret b hlk hr hE (Nat.le_refl _) (Nat.le_refl _) dX1_ruleAt_25
    · have hf := oI_f c5 hf
      refine lv_aload_n b.1 b.2.1 dX1_ruleAt_15 rfl (lv_at hl 0 rfl) ?_
      refine gX1_44 (x := (some x0)) b hE rfl t2 dX1_ruleAt_16 ?_
      refine lv_iload_n b.1 b.2.1 dX1_ruleAt_19 rfl (lv_at hl 1 rfl) ?_
      obtain ⟨a6, ea6, hf⟩ := oN_s hf
      obtain ⟨t7, hf⟩ := oC_s hf
      have t7 := of_decide_eq_true t7
      obtain ⟨g8, hf⟩ := oC_s hf
      refine q_aald4 (x := (hR h 136 x0)) b hE ea6 t7 g8 dX1_ruleAt_20 ?_
      refine lv_goto (tgt := 25) b.1 b.2.1 dX1_ruleAt_21 (by decide) ?_
      cases hf
      exact k_aret b hlk hr hE (Nat.le_refl _) (Nat.le_refl _) dX1_ruleAt_25
def fX1_ruleAt (h : PH) (x0 : Nat) (x1 : Int32) : Option (Option Nat) := fX1_ruleAt_0 h x0 x1
set_option maxHeartbeats 4000000 in
theorem CX1_ruleAt (l : Launch) (D : va_G) (aC : Nat → ClassId) (ad : Nat → Nat) {Z : State → Prop} (zk : ZOK Z (Rg ad)) {h : PH} {x0 : Nat} {x1 : Int32} {rz : Option Nat} (hf : fX1_ruleAt h x0 x1 = some rz) : CM l D aC Z yX1_ruleAt cX1_ruleAt 2 (some (.object "StatuteBench$Rule")) 0 0 0 0 (EX D aC ad h) [.ref (ad x0), .int x1] (EX D aC ad h) (some (va_rf (Option.map ad rz))) (Rg ad) := by
  refine CM.of rfl ?_
  intro p e s m below meth c b hr hlk hin2 zs hE
  refine k_ent (Nat.le_of_ble_eq_true rfl) (fun ls hl => ?_)
  exact wfX1_ruleAt_0 b hlk hr zs zk hf hE (lv_sub hl [0, 1] rfl)
theorem dX2_init_0 : decode cX2_init 0 = .ok (.aload_n 0, 1) := by decide +kernel
theorem dX2_init_1 : decode cX2_init 1 = .ok (.invokespecial 1, 3) := by decide +kernel
theorem dX2_init_4 : decode cX2_init 4 = .ok (.return_, 1) := by decide +kernel
def fX2_init_0  (h : PH) (x0 : Nat) : Option (PH) :=
  some (h)
set_option maxHeartbeats 4000000 in
theorem wfX2_init_0 {args : Array Value} (b : Bd p s m c cX2_init 1 RX2 D aC) (hlk : meth.locks = false) (hr : meth.sig.returnType = none) {Z : State → Prop} (zs : Z s) (zk : ZOK Z (Rg ad)) (hin2 : meth.name = "<init>") {hz : PH} {h : PH} {x0 : Nat}  {H : Heap} {locs : List Loc} {ls : Array Slot} (hf : fX2_init_0 h x0 = some hz) (hE : CE (EX D aC ad h) (Rg ad) s H locs) (hl : lv_has ls 1 [(0, .ref (ad x0))]) : W p l e (RM 1 24 0 0) s m args below meth c H locs 0 0 (MQ below (PQ (EX D aC ad hz) (Rg ad) none) args s 0 0 (Rg ad)) (F0 m 0 ls []) := by
  unfold fX2_init_0 at hf
  refine lv_aload_n b.1 b.2.1 dX2_init_0 rfl (lv_at hl 0 rfl) ?_
  refine k_objInit b (in2 223 rfl rfl) objI objC hl.1 ⟨Nat.le_of_ble_eq_true rfl, Nat.le_of_ble_eq_true rfl⟩ (Nat.le_of_ble_eq_true rfl) dX2_init_1 ?_
  cases hf
  exact k_vret b hlk hr hE (Nat.le_refl _) (Nat.le_refl _) dX2_init_4
def fX2_init (h : PH) (x0 : Nat) : Option (PH) := fX2_init_0 h x0
set_option maxHeartbeats 4000000 in
theorem CX2_init (l : Launch) (D : va_G) (aC : Nat → ClassId) (ad : Nat → Nat) {Z : State → Prop} (zk : ZOK Z (Rg ad)) {h : PH} {x0 : Nat} {hz : PH} (hf : fX2_init h x0 = some hz) : CM l D aC Z yX2_init cX2_init 1 (none) 1 24 0 0 (EX D aC ad h) [.ref (ad x0)] (EX D aC ad hz) none (Rg ad) := by
  refine CM.of rfl ?_
  intro p e s m below meth c b hr hlk hin2 zs hE
  refine k_ent (Nat.le_of_ble_eq_true rfl) (fun ls hl => ?_)
  exact wfX2_init_0 b hlk hr zs zk hin2 hf hE (lv_sub hl [0] rfl)
theorem dX8_init_0 : decode cX8_init 0 = .ok (.aload_n 0, 1) := by decide +kernel
theorem dX8_init_1 : decode cX8_init 1 = .ok (.invokespecial 3, 3) := by decide +kernel
theorem dX8_init_4 : decode cX8_init 4 = .ok (.aload_n 0, 1) := by decide +kernel
theorem dX8_init_5 : decode cX8_init 5 = .ok (.bipush 6, 2) := by decide +kernel
theorem dX8_init_7 : decode cX8_init 7 = .ok (.anewarray 9, 3) := by decide +kernel
theorem dX8_init_10 : decode cX8_init 10 = .ok (.putfield 11, 3) := by decide +kernel
theorem dX8_init_13 : decode cX8_init 13 = .ok (.aload_n 0, 1) := by decide +kernel
theorem dX8_init_14 : decode cX8_init 14 = .ok (.new 9, 3) := by decide +kernel
theorem dX8_init_17 : decode cX8_init 17 = .ok (.dup, 1) := by decide +kernel
theorem dX8_init_18 : decode cX8_init 18 = .ok (.invokespecial 17, 3) := by decide +kernel
theorem dX8_init_21 : decode cX8_init 21 = .ok (.putfield 18, 3) := by decide +kernel
theorem dX8_init_24 : decode cX8_init 24 = .ok (.return_, 1) := by decide +kernel
def fX8_init_0  (h : PH) (x0 : Nat) : Option (PH × Nat × Nat) :=
  oL (nA h 105 (Int32.toNatClampNeg 6)) (fun h3 => oK3 1 (Int32.toNatClampNeg 6) (oC (decide (hT h3 x0 = 9)) (oL (sR h3 1028 x0 (some (hZ h))) (fun h6 => oL (nO h6 3) (fun h11 => oK3 1 8 (oB (fX2_init h11 (hZ h6)) (fun h16 => oC (decide (hT h16 x0 = 9)) (oL (sR h16 1029 x0 (some (hZ h6))) (fun h18 => some (h18, 0, 0))))))))))
set_option maxHeartbeats 4000000 in
theorem wfX8_init_0 {mc ms cells slots : Nat} {args : Array Value} (b : Bd p s m c cX8_init 1 RX8 D aC) (hlk : meth.locks = false) (hr : meth.sig.returnType = none) {Z : State → Prop} (zs : Z s) (zk : ZOK Z (Rg ad)) (hin2 : meth.name = "<init>") {hz : PH} {h : PH} {x0 : Nat} {kz : Nat} {mz : Nat}  {H : Heap} {locs : List Loc} {ls : Array Slot} (hf : fX8_init_0 h x0 = some (hz, kz, mz)) (hk : cells + kz ≤ mc) (hs : slots + mz ≤ ms) (hE : CE (EX D aC ad h) (Rg ad) s H locs) (hl : lv_has ls 1 [(0, .ref (ad x0))]) : W p l e (RM 2 44 mc ms) s m args below meth c H locs cells slots (MQ below (PQ (EX D aC ad hz) (Rg ad) none) args s mc ms (Rg ad)) (F0 m 0 ls []) := by
  unfold fX8_init_0 at hf
  refine lv_aload_n b.1 b.2.1 dX8_init_0 rfl (lv_at hl 0 rfl) ?_
  refine k_objInit b (in2 216 rfl rfl) objI objC hl.1 ⟨Nat.le_of_ble_eq_true rfl, Nat.le_of_ble_eq_true rfl⟩ (Nat.le_of_ble_eq_true rfl) dX8_init_1 ?_
  refine lv_aload_n b.1 b.2.1 dX8_init_4 rfl (lv_at hl 0 rfl) ?_
  refine lv_bipush (v := 6) b.1 b.2.1 dX8_init_5 (by decide) ?_
  obtain ⟨h3, eh3, hf⟩ := oL_s hf
  obtain ⟨i1, j2, ei1, ej2, hf⟩ := oK3_s hf
  have t4 := tg_nA0 eh3
  refine q_newq5 b hE (in2 217 rfl rfl) (by decide) (by decide) (le_room hk ei1) (le_room hs ej2) eh3 dX8_init_7 (fun H hE => ?_)
  have hk := le_step hk ei1
  have hs := le_step hs ej2
  obtain ⟨t5, hf⟩ := oC_s hf
  have t5 := of_decide_eq_true t5
  obtain ⟨h6, eh6, hf⟩ := oL_s hf
  refine pX8_11 (x := (some x0)) (v := (some (hZ h))) b hin2 hE rfl t5 eh6 dX8_init_10 (fun H locs hE => ?_)
  refine lv_aload_n b.1 b.2.1 dX8_init_13 rfl (lv_at hl 0 rfl) ?_
  have t7 := tg_sR eh6 t4
  have t8 := tg_sR eh6 t5
  obtain ⟨h11, eh11, hf⟩ := oL_s hf
  obtain ⟨i9, j10, ei9, ej10, hf⟩ := oK3_s hf
  have t12 := tg_nO (t := 104) hE eh11 t7
  have t13 := tg_nO (t := 8) hE eh11 t8
  have t14 := tg_nO0 eh11
  refine nX8_9 b hE (le_room hk ei9) (le_room hs ej10) eh11 dX8_init_14 (fun H hE => ?_)
  have hk := le_step hk ei9
  have hs := le_step hs ej10
  refine lv_dup b.1 b.2.1 dX8_init_17 rfl ?_
  obtain ⟨h16, hc15, hf⟩ := oB_s hf
  refine k_callIN0 b zs zk hE (CX2_init l D aC ad zk hc15) mc_X2_init (in2 220 rfl rfl) mi_X2_init ini_RX2 rfl ok_X2_init ⟨Nat.le_of_ble_eq_true rfl, Nat.le_of_ble_eq_true rfl⟩ rfl hl.1 rfl (k_room _ (by exact Nat.le_of_ble_eq_true rfl)) ⟨le_0 hk, le_0 hs⟩ dX8_init_18 (fun H locs hE => ?_)
  obtain ⟨t17, hf⟩ := oC_s hf
  have t17 := of_decide_eq_true t17
  obtain ⟨h18, eh18, hf⟩ := oL_s hf
  refine pX8_18 (x := (some x0)) (v := (some (hZ h6))) b hin2 hE rfl t17 eh18 dX8_init_21 (fun H locs hE => ?_)
  cases hf
  exact k_vret b hlk hr hE (le_c hk) (le_c hs) dX8_init_24
def fX8_init (h : PH) (x0 : Nat) : Option (PH × Nat × Nat) := fX8_init_0 h x0
set_option maxHeartbeats 4000000 in
theorem CX8_init (l : Launch) (D : va_G) (aC : Nat → ClassId) (ad : Nat → Nat) {Z : State → Prop} (zk : ZOK Z (Rg ad)) {h : PH} {x0 : Nat} {hz : PH} {kz : Nat} {mz : Nat} (hf : fX8_init h x0 = some (hz, kz, mz)) : CM l D aC Z yX8_init cX8_init 1 (none) 2 44 kz mz (EX D aC ad h) [.ref (ad x0)] (EX D aC ad hz) none (Rg ad) := by
  refine CM.of rfl ?_
  intro p e s m below meth c b hr hlk hin2 zs hE
  refine k_ent (Nat.le_of_ble_eq_true rfl) (fun ls hl => ?_)
  exact wfX8_init_0 b hlk hr zs zk hin2 hf (by omega) (by omega) hE (lv_sub hl [0] rfl)
theorem dX1_newRule_0 : decode cX1_newRule 0 = .ok (.iload_n 1, 1) := by decide +kernel
theorem dX1_newRule_1 : decode cX1_newRule 1 = .ok (.ifCond .lt 24, 3) := by decide +kernel
theorem dX1_newRule_4 : decode cX1_newRule 4 = .ok (.iload_n 1, 1) := by decide +kernel
theorem dX1_newRule_5 : decode cX1_newRule 5 = .ok (.aload_n 0, 1) := by decide +kernel
theorem dX1_newRule_6 : decode cX1_newRule 6 = .ok (.getfield 29, 3) := by decide +kernel
theorem dX1_newRule_9 : decode cX1_newRule 9 = .ok (.getfield 57, 3) := by decide +kernel
theorem dX1_newRule_12 : decode cX1_newRule 12 = .ok (.if_icmp .ge 13, 3) := by decide +kernel
theorem dX1_newRule_15 : decode cX1_newRule 15 = .ok (.aload_n 0, 1) := by decide +kernel
theorem dX1_newRule_16 : decode cX1_newRule 16 = .ok (.getfield 26, 3) := by decide +kernel
theorem dX1_newRule_19 : decode cX1_newRule 19 = .ok (.getfield 57, 3) := by decide +kernel
theorem dX1_newRule_22 : decode cX1_newRule 22 = .ok (.ifCond .ne 5, 3) := by decide +kernel
theorem dX1_newRule_25 : decode cX1_newRule 25 = .ok (.aconst_null, 1) := by decide +kernel
theorem dX1_newRule_26 : decode cX1_newRule 26 = .ok (.areturn, 1) := by decide +kernel
theorem dX1_newRule_27 : decode cX1_newRule 27 = .ok (.aload_n 0, 1) := by decide +kernel
theorem dX1_newRule_28 : decode cX1_newRule 28 = .ok (.getfield 44, 3) := by decide +kernel
theorem dX1_newRule_31 : decode cX1_newRule 31 = .ok (.iload_n 1, 1) := by decide +kernel
theorem dX1_newRule_32 : decode cX1_newRule 32 = .ok (.aaload, 1) := by decide +kernel
theorem dX1_newRule_33 : decode cX1_newRule 33 = .ok (.ifnonnull 16, 3) := by decide +kernel
theorem dX1_newRule_36 : decode cX1_newRule 36 = .ok (.aload_n 0, 1) := by decide +kernel
theorem dX1_newRule_37 : decode cX1_newRule 37 = .ok (.getfield 44, 3) := by decide +kernel
theorem dX1_newRule_40 : decode cX1_newRule 40 = .ok (.iload_n 1, 1) := by decide +kernel
theorem dX1_newRule_41 : decode cX1_newRule 41 = .ok (.new 42, 3) := by decide +kernel
theorem dX1_newRule_44 : decode cX1_newRule 44 = .ok (.dup, 1) := by decide +kernel
theorem dX1_newRule_45 : decode cX1_newRule 45 = .ok (.invokespecial 76, 3) := by decide +kernel
theorem dX1_newRule_48 : decode cX1_newRule 48 = .ok (.aastore, 1) := by decide +kernel
theorem dX1_newRule_49 : decode cX1_newRule 49 = .ok (.aload_n 0, 1) := by decide +kernel
theorem dX1_newRule_50 : decode cX1_newRule 50 = .ok (.getfield 44, 3) := by decide +kernel
theorem dX1_newRule_53 : decode cX1_newRule 53 = .ok (.iload_n 1, 1) := by decide +kernel
theorem dX1_newRule_54 : decode cX1_newRule 54 = .ok (.aaload, 1) := by decide +kernel
theorem dX1_newRule_55 : decode cX1_newRule 55 = .ok (.aload_n 0, 1) := by decide +kernel
theorem dX1_newRule_56 : decode cX1_newRule 56 = .ok (.getfield 26, 3) := by decide +kernel
theorem dX1_newRule_59 : decode cX1_newRule 59 = .ok (.getfield 57, 3) := by decide +kernel
theorem dX1_newRule_62 : decode cX1_newRule 62 = .ok (.iconst 1, 1) := by decide +kernel
theorem dX1_newRule_63 : decode cX1_newRule 63 = .ok (.isub, 1) := by decide +kernel
theorem dX1_newRule_64 : decode cX1_newRule 64 = .ok (.putfield 77, 3) := by decide +kernel
theorem dX1_newRule_67 : decode cX1_newRule 67 = .ok (.aload_n 0, 1) := by decide +kernel
theorem dX1_newRule_68 : decode cX1_newRule 68 = .ok (.getfield 44, 3) := by decide +kernel
theorem dX1_newRule_71 : decode cX1_newRule 71 = .ok (.iload_n 1, 1) := by decide +kernel
theorem dX1_newRule_72 : decode cX1_newRule 72 = .ok (.aaload, 1) := by decide +kernel
theorem dX1_newRule_73 : decode cX1_newRule 73 = .ok (.iload_n 2, 1) := by decide +kernel
theorem dX1_newRule_74 : decode cX1_newRule 74 = .ok (.putfield 80, 3) := by decide +kernel
theorem dX1_newRule_77 : decode cX1_newRule 77 = .ok (.aload_n 0, 1) := by decide +kernel
theorem dX1_newRule_78 : decode cX1_newRule 78 = .ok (.getfield 44, 3) := by decide +kernel
theorem dX1_newRule_81 : decode cX1_newRule 81 = .ok (.iload_n 1, 1) := by decide +kernel
theorem dX1_newRule_82 : decode cX1_newRule 82 = .ok (.aaload, 1) := by decide +kernel
theorem dX1_newRule_83 : decode cX1_newRule 83 = .ok (.iconst 0, 1) := by decide +kernel
theorem dX1_newRule_84 : decode cX1_newRule 84 = .ok (.putfield 83, 3) := by decide +kernel
theorem dX1_newRule_87 : decode cX1_newRule 87 = .ok (.aload_n 0, 1) := by decide +kernel
theorem dX1_newRule_88 : decode cX1_newRule 88 = .ok (.getfield 39, 3) := by decide +kernel
theorem dX1_newRule_91 : decode cX1_newRule 91 = .ok (.aload_n 0, 1) := by decide +kernel
theorem dX1_newRule_92 : decode cX1_newRule 92 = .ok (.getfield 26, 3) := by decide +kernel
theorem dX1_newRule_95 : decode cX1_newRule 95 = .ok (.getfield 57, 3) := by decide +kernel
theorem dX1_newRule_98 : decode cX1_newRule 98 = .ok (.iconst 1, 1) := by decide +kernel
theorem dX1_newRule_99 : decode cX1_newRule 99 = .ok (.isub, 1) := by decide +kernel
theorem dX1_newRule_100 : decode cX1_newRule 100 = .ok (.iconst 5, 1) := by decide +kernel
theorem dX1_newRule_101 : decode cX1_newRule 101 = .ok (.imul, 1) := by decide +kernel
theorem dX1_newRule_102 : decode cX1_newRule 102 = .ok (.iconst 4, 1) := by decide +kernel
theorem dX1_newRule_103 : decode cX1_newRule 103 = .ok (.iadd, 1) := by decide +kernel
theorem dX1_newRule_104 : decode cX1_newRule 104 = .ok (.dup2, 1) := by decide +kernel
theorem dX1_newRule_105 : decode cX1_newRule 105 = .ok (.iaload, 1) := by decide +kernel
theorem dX1_newRule_106 : decode cX1_newRule 106 = .ok (.iconst 1, 1) := by decide +kernel
theorem dX1_newRule_107 : decode cX1_newRule 107 = .ok (.iadd, 1) := by decide +kernel
theorem dX1_newRule_108 : decode cX1_newRule 108 = .ok (.iastore, 1) := by decide +kernel
theorem dX1_newRule_109 : decode cX1_newRule 109 = .ok (.aload_n 0, 1) := by decide +kernel
theorem dX1_newRule_110 : decode cX1_newRule 110 = .ok (.getfield 44, 3) := by decide +kernel
theorem dX1_newRule_113 : decode cX1_newRule 113 = .ok (.iload_n 1, 1) := by decide +kernel
theorem dX1_newRule_114 : decode cX1_newRule 114 = .ok (.aaload, 1) := by decide +kernel
theorem dX1_newRule_115 : decode cX1_newRule 115 = .ok (.areturn, 1) := by decide +kernel
def fX1_newRule_49  (h : PH) (x0 : Nat) (x1 : Int32) (x2 : Int32) : Option (PH × Option Nat × Nat × Nat) :=
  oC (decide (hT h x0 = 2)) (oN (hR h 136 x0) (fun a2 => oC (decide (hT h a2 = 104)) (oC (ix x1 (hN h a2)) (oN (hR h 131 x0) (fun a5 => oC (decide (hT h a5 = 8)) (oN (hC h a2 (Int32.toNatClampNeg x1)) (fun a7 => oC (decide (hT h a7 = 9)) (oL (sI h 1024 a7 ((hI h 897 a5) - 1)) (fun h9 => oN (hR h9 136 x0) (fun a11 => oC (decide (hT h9 a11 = 104)) (oC (ix x1 (hN h9 a11)) (oN (hC h9 a11 (Int32.toNatClampNeg x1)) (fun a14 => oC (decide (hT h9 a14 = 9)) (oL (sI h9 1025 a14 x2) (fun h16 => oN (hR h16 136 x0) (fun a18 => oC (decide (hT h16 a18 = 104)) (oC (ix x1 (hN h16 a18)) (oN (hC h16 a18 (Int32.toNatClampNeg x1)) (fun a21 => oC (decide (hT h16 a21 = 9)) (oL (sI h16 1027 a21 0) (fun h23 => oN (hR h23 131 x0) (fun a25 => oC (decide (hT h23 a25 = 8)) (oN (hR h23 135 x0) (fun a27 => oC (decide (hT h23 a27 = 101)) (oC (ix ((((hI h23 897 a25) - 1) * 5) + 4) (hN h23 a27)) (oC (ix ((((hI h23 897 a25) - 1) * 5) + 4) (hN h23 a27)) (oL (sA h23 a27 (Int32.toNatClampNeg ((((hI h23 897 a25) - 1) * 5) + 4)) ((hA h23 a27 (Int32.toNatClampNeg ((((hI h23 897 a25) - 1) * 5) + 4))) + 1)) (fun h31 => oN (hR h31 136 x0) (fun a33 => oC (decide (hT h31 a33 = 104)) (oC (ix x1 (hN h31 a33)) (some (h31, (hC h31 a33 (Int32.toNatClampNeg x1)), 0, 0))))))))))))))))))))))))))))))))
set_option maxHeartbeats 4000000 in
theorem wfX1_newRule_49 {mc ms cells slots : Nat} {args : Array Value} (b : Bd p s m c cX1_newRule 3 RX1 D aC) (hlk : meth.locks = false) (hr : meth.sig.returnType = some (.object "StatuteBench$Rule")) {Z : State → Prop} (zs : Z s) (zk : ZOK Z (Rg ad)) {hz : PH} {rz : Option Nat} {h : PH} {x0 : Nat} {x1 : Int32} {x2 : Int32} {kz : Nat} {mz : Nat}  {H : Heap} {locs : List Loc} {ls : Array Slot} (hf : fX1_newRule_49 h x0 x1 x2 = some (hz, rz, kz, mz)) (hk : cells + kz ≤ mc) (hs : slots + mz ≤ ms) (hE : CE (EX D aC ad h) (Rg ad) s H locs) (hl : lv_has ls 3 [(0, .ref (ad x0)), (1, .int x1), (2, .int x2)]) : W p l e (RM 3 64 mc ms) s m args below meth c H locs cells slots (MQ below (PQ (EX D aC ad hz) (Rg ad) (some (va_rf (Option.map ad rz)))) args s mc ms (Rg ad)) (F0 m 49 ls []) := by
  unfold fX1_newRule_49 at hf
  refine lv_aload_n b.1 b.2.1 dX1_newRule_49 rfl (lv_at hl 0 rfl) ?_
  obtain ⟨t1, hf⟩ := oC_s hf
  have t1 := of_decide_eq_true t1
  refine gX1_44 (x := (some x0)) b hE rfl t1 dX1_newRule_50 ?_
  refine lv_iload_n b.1 b.2.1 dX1_newRule_53 rfl (lv_at hl 1 rfl) ?_
  obtain ⟨a2, ea2, hf⟩ := oN_s hf
  obtain ⟨t3, hf⟩ := oC_s hf
  have t3 := of_decide_eq_true t3
  obtain ⟨g4, hf⟩ := oC_s hf
  refine q_aald4 (x := (hR h 136 x0)) b hE ea2 t3 g4 dX1_newRule_54 ?_
  refine lv_aload_n b.1 b.2.1 dX1_newRule_55 rfl (lv_at hl 0 rfl) ?_
  refine gX1_26 (x := (some x0)) b hE rfl t1 dX1_newRule_56 ?_
  obtain ⟨a5, ea5, hf⟩ := oN_s hf
  obtain ⟨t6, hf⟩ := oC_s hf
  have t6 := of_decide_eq_true t6
  refine gX1_57 (x := (hR h 131 x0)) b hE ea5 t6 dX1_newRule_59 ?_
  refine lv_iconst (v := 1) b.1 b.2.1 dX1_newRule_62 (by decide) ?_
  refine lv_isub b.1 b.2.1 dX1_newRule_63 ?_
  obtain ⟨a7, ea7, hf⟩ := oN_s hf
  obtain ⟨t8, hf⟩ := oC_s hf
  have t8 := of_decide_eq_true t8
  obtain ⟨h9, eh9, hf⟩ := oL_s hf
  refine pX1_77 (x := (hC h a2 (Int32.toNatClampNeg x1))) b hE ea7 t8 eh9 dX1_newRule_64 (fun H locs hE => ?_)
  refine lv_aload_n b.1 b.2.1 dX1_newRule_67 rfl (lv_at hl 0 rfl) ?_
  have t10 := tg_sI eh9 t1
  refine gX1_44 (x := (some x0)) b hE rfl t10 dX1_newRule_68 ?_
  refine lv_iload_n b.1 b.2.1 dX1_newRule_71 rfl (lv_at hl 1 rfl) ?_
  obtain ⟨a11, ea11, hf⟩ := oN_s hf
  obtain ⟨t12, hf⟩ := oC_s hf
  have t12 := of_decide_eq_true t12
  obtain ⟨g13, hf⟩ := oC_s hf
  refine q_aald4 (x := (hR h9 136 x0)) b hE ea11 t12 g13 dX1_newRule_72 ?_
  refine lv_iload_n b.1 b.2.1 dX1_newRule_73 rfl (lv_at hl 2 rfl) ?_
  obtain ⟨a14, ea14, hf⟩ := oN_s hf
  obtain ⟨t15, hf⟩ := oC_s hf
  have t15 := of_decide_eq_true t15
  obtain ⟨h16, eh16, hf⟩ := oL_s hf
  refine pX1_80 (x := (hC h9 a11 (Int32.toNatClampNeg x1))) b hE ea14 t15 eh16 dX1_newRule_74 (fun H locs hE => ?_)
  refine lv_aload_n b.1 b.2.1 dX1_newRule_77 rfl (lv_at hl 0 rfl) ?_
  have t17 := tg_sI eh16 t10
  refine gX1_44 (x := (some x0)) b hE rfl t17 dX1_newRule_78 ?_
  refine lv_iload_n b.1 b.2.1 dX1_newRule_81 rfl (lv_at hl 1 rfl) ?_
  obtain ⟨a18, ea18, hf⟩ := oN_s hf
  obtain ⟨t19, hf⟩ := oC_s hf
  have t19 := of_decide_eq_true t19
  obtain ⟨g20, hf⟩ := oC_s hf
  refine q_aald4 (x := (hR h16 136 x0)) b hE ea18 t19 g20 dX1_newRule_82 ?_
  refine lv_iconst (v := 0) b.1 b.2.1 dX1_newRule_83 (by decide) ?_
  obtain ⟨a21, ea21, hf⟩ := oN_s hf
  obtain ⟨t22, hf⟩ := oC_s hf
  have t22 := of_decide_eq_true t22
  obtain ⟨h23, eh23, hf⟩ := oL_s hf
  refine pX1_83 (x := (hC h16 a18 (Int32.toNatClampNeg x1))) b hE ea21 t22 eh23 dX1_newRule_84 (fun H locs hE => ?_)
  refine lv_aload_n b.1 b.2.1 dX1_newRule_87 rfl (lv_at hl 0 rfl) ?_
  have t24 := tg_sI eh23 t17
  refine gX1_39 (x := (some x0)) b hE rfl t24 dX1_newRule_88 ?_
  refine lv_aload_n b.1 b.2.1 dX1_newRule_91 rfl (lv_at hl 0 rfl) ?_
  refine gX1_26 (x := (some x0)) b hE rfl t24 dX1_newRule_92 ?_
  obtain ⟨a25, ea25, hf⟩ := oN_s hf
  obtain ⟨t26, hf⟩ := oC_s hf
  have t26 := of_decide_eq_true t26
  refine gX1_57 (x := (hR h23 131 x0)) b hE ea25 t26 dX1_newRule_95 ?_
  refine lv_iconst (v := 1) b.1 b.2.1 dX1_newRule_98 (by decide) ?_
  refine lv_isub b.1 b.2.1 dX1_newRule_99 ?_
  refine lv_iconst (v := 5) b.1 b.2.1 dX1_newRule_100 (by decide) ?_
  refine lv_imul b.1 b.2.1 dX1_newRule_101 ?_
  refine lv_iconst (v := 4) b.1 b.2.1 dX1_newRule_102 (by decide) ?_
  refine lv_iadd b.1 b.2.1 dX1_newRule_103 ?_
  refine lv_dup2_11 b.1 b.2.1 dX1_newRule_104 rfl (rf_cat _) ?_
  obtain ⟨a27, ea27, hf⟩ := oN_s hf
  obtain ⟨t28, hf⟩ := oC_s hf
  have t28 := of_decide_eq_true t28
  obtain ⟨g29, hf⟩ := oC_s hf
  refine q_iald (x := (hR h23 135 x0)) b hE ea27 t28 g29 dX1_newRule_105 ?_
  refine lv_iconst (v := 1) b.1 b.2.1 dX1_newRule_106 (by decide) ?_
  refine lv_iadd b.1 b.2.1 dX1_newRule_107 ?_
  obtain ⟨g30, hf⟩ := oC_s hf
  obtain ⟨h31, eh31, hf⟩ := oL_s hf
  refine q_iast (x := (hR h23 135 x0)) b hE ea27 t28 g30 eh31 dX1_newRule_108 (fun H locs hE => ?_)
  refine lv_aload_n b.1 b.2.1 dX1_newRule_109 rfl (lv_at hl 0 rfl) ?_
  have t32 := tg_sA eh31 t24
  refine gX1_44 (x := (some x0)) b hE rfl t32 dX1_newRule_110 ?_
  refine lv_iload_n b.1 b.2.1 dX1_newRule_113 rfl (lv_at hl 1 rfl) ?_
  obtain ⟨a33, ea33, hf⟩ := oN_s hf
  obtain ⟨t34, hf⟩ := oC_s hf
  have t34 := of_decide_eq_true t34
  obtain ⟨g35, hf⟩ := oC_s hf
  refine q_aald4 (x := (hR h31 136 x0)) b hE ea33 t34 g35 dX1_newRule_114 ?_
  cases hf
  exact k_aret b hlk hr hE (le_c hk) (le_c hs) dX1_newRule_115
def fX1_newRule_0  (h : PH) (x0 : Nat) (x1 : Int32) (x2 : Int32) : Option (PH × Option Nat × Nat × Nat) :=
  if x1 < 0 then (some (h, none, 0, 0)) else (oC (decide (hT h x0 = 2)) (oN (hR h 132 x0) (fun a38 => oC (decide (hT h a38 = 8)) (if (hI h 897 a38) ≤ x1 then (some (h, none, 0, 0)) else (oN (hR h 131 x0) (fun a41 => oC (decide (hT h a41 = 8)) (if (hI h 897 a41) = 0 then (some (h, none, 0, 0)) else (oN (hR h 136 x0) (fun a44 => oC (decide (hT h a44 = 104)) (oC (ix x1 (hN h a44)) (if (hC h a44 (Int32.toNatClampNeg x1)) = none then (oL (nO h 9) (fun h50 => oK4 1 6 (oB3 (fX8_init h50 (hZ h)) (fun h57 i58 j59 => oK4 i58 j59 (oC (decide (hT h57 a44 = 104)) (oC (decide (hT h57 (hZ h) = 9)) (oC (ix x1 (hN h57 a44)) (oL (sC h57 a44 (Int32.toNatClampNeg x1) (some (hZ h))) (fun h65 => fX1_newRule_49  h65 x0 x1 x2))))))))) else (fX1_newRule_49  h x0 x1 x2))))))))))))
set_option maxHeartbeats 4000000 in
theorem wfX1_newRule_0 {mc ms cells slots : Nat} {args : Array Value} (b : Bd p s m c cX1_newRule 3 RX1 D aC) (hlk : meth.locks = false) (hr : meth.sig.returnType = some (.object "StatuteBench$Rule")) {Z : State → Prop} (zs : Z s) (zk : ZOK Z (Rg ad)) {hz : PH} {rz : Option Nat} {h : PH} {x0 : Nat} {x1 : Int32} {x2 : Int32} {kz : Nat} {mz : Nat}  {H : Heap} {locs : List Loc} {ls : Array Slot} (hf : fX1_newRule_0 h x0 x1 x2 = some (hz, rz, kz, mz)) (hk : cells + kz ≤ mc) (hs : slots + mz ≤ ms) (hE : CE (EX D aC ad h) (Rg ad) s H locs) (hl : lv_has ls 3 [(0, .ref (ad x0)), (1, .int x1), (2, .int x2)]) : W p l e (RM 3 64 mc ms) s m args below meth c H locs cells slots (MQ below (PQ (EX D aC ad hz) (Rg ad) (some (va_rf (Option.map ad rz)))) args s mc ms (Rg ad)) (F0 m 0 ls []) := by
  unfold fX1_newRule_0 at hf
  refine lv_iload_n b.1 b.2.1 dX1_newRule_0 rfl (lv_at hl 1 rfl) ?_
  refine lv_if_lt (tgt := 25) b.1 b.2.1 dX1_newRule_1 (by decide) (fun c36 => ?_) (fun c36 => ?_)
  · have hf := oI_t c36 hf
    refine lv_null b.1 b.2.1 dX1_newRule_25 ?_
    cases hf
    exact k_aret b hlk hr hE (le_c hk) (le_c hs) dX1_newRule_26
  · have hf := oI_f c36 hf
    refine lv_iload_n b.1 b.2.1 dX1_newRule_4 rfl (lv_at hl 1 rfl) ?_
    refine lv_aload_n b.1 b.2.1 dX1_newRule_5 rfl (lv_at hl 0 rfl) ?_
    obtain ⟨t37, hf⟩ := oC_s hf
    have t37 := of_decide_eq_true t37
    refine gX1_29 (x := (some x0)) b hE rfl t37 dX1_newRule_6 ?_
    obtain ⟨a38, ea38, hf⟩ := oN_s hf
    obtain ⟨t39, hf⟩ := oC_s hf
    have t39 := of_decide_eq_true t39
    refine gX1_57 (x := (hR h 132 x0)) b hE ea38 t39 dX1_newRule_9 ?_
    refine lv_icmp_ge (tgt := 25) b.1 b.2.1 dX1_newRule_12 (by decide) (fun c40 => ?_) (fun c40 => ?_)
    · have hf := oI_t c40 hf
      refine lv_null b.1 b.2.1 dX1_newRule_25 ?_
      cases hf
      exact k_aret b hlk hr hE (le_c hk) (le_c hs) dX1_newRule_26
    · have hf := oI_f c40 hf
      refine lv_aload_n b.1 b.2.1 dX1_newRule_15 rfl (lv_at hl 0 rfl) ?_
      refine gX1_26 (x := (some x0)) b hE rfl t37 dX1_newRule_16 ?_
      obtain ⟨a41, ea41, hf⟩ := oN_s hf
      obtain ⟨t42, hf⟩ := oC_s hf
      have t42 := of_decide_eq_true t42
      refine gX1_57 (x := (hR h 131 x0)) b hE ea41 t42 dX1_newRule_19 ?_
      refine lv_if_ne (tgt := 27) b.1 b.2.1 dX1_newRule_22 (by decide) (fun c43 => ?_) (fun c43 => ?_)
      · have hf := oI_f c43 hf
        refine lv_aload_n b.1 b.2.1 dX1_newRule_27 rfl (lv_at hl 0 rfl) ?_
        refine gX1_44 (x := (some x0)) b hE rfl t37 dX1_newRule_28 ?_
        refine lv_iload_n b.1 b.2.1 dX1_newRule_31 rfl (lv_at hl 1 rfl) ?_
        obtain ⟨a44, ea44, hf⟩ := oN_s hf
        obtain ⟨t45, hf⟩ := oC_s hf
        have t45 := of_decide_eq_true t45
        obtain ⟨g46, hf⟩ := oC_s hf
        refine q_aald4 (x := (hR h 136 x0)) b hE ea44 t45 g46 dX1_newRule_32 ?_
        refine k_ifnonnull (x := Option.map ad (hC h a44 (Int32.toNatClampNeg x1))) b dX1_newRule_33 (tgt := 49) (by decide) (fun c47 => ?_) (fun c47 => ?_)
        · have hf := oI_f (fun z => c47 (Option.map_eq_none_iff.mpr z)) hf
          exact wfX1_newRule_49 b hlk hr zs zk  hf hk hs hE (lv_sub hl [0, 1, 2] rfl)
        · have hf := oI_t (Option.map_eq_none_iff.mp c47) hf
          refine lv_aload_n b.1 b.2.1 dX1_newRule_36 rfl (lv_at hl 0 rfl) ?_
          refine gX1_44 (x := (some x0)) b hE rfl t37 dX1_newRule_37 ?_
          refine lv_iload_n b.1 b.2.1 dX1_newRule_40 rfl (lv_at hl 1 rfl) ?_
          obtain ⟨h50, eh50, hf⟩ := oL_s hf
          obtain ⟨i48, j49, ei48, ej49, hf⟩ := oK4_s hf
          have t51 := tg_nO (t := 1) hE eh50 t37
          have t52 := tg_nO (t := 7) hE eh50 t39
          have t53 := tg_nO (t := 7) hE eh50 t42
          have t54 := tg_nO (t := 103) hE eh50 t45
          have t55 := tg_nO0 eh50
          refine nX1_42 b hE (le_room hk ei48) (le_room hs ej49) eh50 dX1_newRule_41 (fun H hE => ?_)
          have hk := le_step hk ei48
          have hs := le_step hs ej49
          refine lv_dup b.1 b.2.1 dX1_newRule_44 rfl ?_
          obtain ⟨h57, i58, j59, hc56, hf⟩ := oB3_s hf
          obtain ⟨i60, j61, ei60, ej61, hf⟩ := oK4_s hf
          refine k_callIN b zs zk hE (CX8_init l D aC ad zk hc56) mc_X8_init (in2 213 rfl rfl) mi_X8_init ini_RX8 rfl ok_X8_init ⟨Nat.le_of_ble_eq_true rfl, Nat.le_of_ble_eq_true rfl⟩ rfl hl.1 rfl (k_room _ (by exact Nat.le_of_ble_eq_true rfl)) ⟨le_room hk ei60, le_room hs ej61⟩ dX1_newRule_45 (fun H locs hE => ?_)
          have hk := le_step hk ei60
          have hs := le_step hs ej61
          obtain ⟨t62, hf⟩ := oC_s hf
          have t62 := of_decide_eq_true t62
          obtain ⟨t63, hf⟩ := oC_s hf
          have t63 := of_decide_eq_true t63
          obtain ⟨g64, hf⟩ := oC_s hf
          obtain ⟨h65, eh65, hf⟩ := oL_s hf
          refine q_aast4 (x := (hR h 136 x0)) (y := (some (hZ h))) b hE ea44 rfl t63 t62 g64 eh65 dX1_newRule_48 (fun H locs hE => ?_)
          exact wfX1_newRule_49 b hlk hr zs zk  hf hk hs hE (lv_sub hl [0, 1, 2] rfl)
      · have hf := oI_t c43 hf
        refine lv_null b.1 b.2.1 dX1_newRule_25 ?_
        cases hf
        exact k_aret b hlk hr hE (le_c hk) (le_c hs) dX1_newRule_26
def fX1_newRule (h : PH) (x0 : Nat) (x1 : Int32) (x2 : Int32) : Option (PH × Option Nat × Nat × Nat) := fX1_newRule_0 h x0 x1 x2
set_option maxHeartbeats 4000000 in
theorem CX1_newRule (l : Launch) (D : va_G) (aC : Nat → ClassId) (ad : Nat → Nat) {Z : State → Prop} (zk : ZOK Z (Rg ad)) {h : PH} {x0 : Nat} {x1 : Int32} {x2 : Int32} {hz : PH} {rz : Option Nat} {kz : Nat} {mz : Nat} (hf : fX1_newRule h x0 x1 x2 = some (hz, rz, kz, mz)) : CM l D aC Z yX1_newRule cX1_newRule 3 (some (.object "StatuteBench$Rule")) 3 64 kz mz (EX D aC ad h) [.ref (ad x0), .int x1, .int x2] (EX D aC ad hz) (some (va_rf (Option.map ad rz))) (Rg ad) := by
  refine CM.of rfl ?_
  intro p e s m below meth c b hr hlk hin2 zs hE
  refine k_ent (Nat.le_of_ble_eq_true rfl) (fun ls hl => ?_)
  exact wfX1_newRule_0 b hlk hr zs zk hf (by omega) (by omega) hE (lv_sub hl [0, 1, 2] rfl)
theorem dX1_addOver_0 : decode cX1_addOver 0 = .ok (.aload_n 0, 1) := by decide +kernel
theorem dX1_addOver_1 : decode cX1_addOver 1 = .ok (.getfield 64, 3) := by decide +kernel
theorem dX1_addOver_4 : decode cX1_addOver 4 = .ok (.bipush 20, 2) := by decide +kernel
theorem dX1_addOver_6 : decode cX1_addOver 6 = .ok (.if_icmp .ge 33, 3) := by decide +kernel
theorem dX1_addOver_9 : decode cX1_addOver 9 = .ok (.aload_n 0, 1) := by decide +kernel
theorem dX1_addOver_10 : decode cX1_addOver 10 = .ok (.getfield 48, 3) := by decide +kernel
theorem dX1_addOver_13 : decode cX1_addOver 13 = .ok (.aload_n 0, 1) := by decide +kernel
theorem dX1_addOver_14 : decode cX1_addOver 14 = .ok (.getfield 64, 3) := by decide +kernel
theorem dX1_addOver_17 : decode cX1_addOver 17 = .ok (.iload_n 1, 1) := by decide +kernel
theorem dX1_addOver_18 : decode cX1_addOver 18 = .ok (.iastore, 1) := by decide +kernel
theorem dX1_addOver_19 : decode cX1_addOver 19 = .ok (.aload_n 0, 1) := by decide +kernel
theorem dX1_addOver_20 : decode cX1_addOver 20 = .ok (.getfield 51, 3) := by decide +kernel
theorem dX1_addOver_23 : decode cX1_addOver 23 = .ok (.aload_n 0, 1) := by decide +kernel
theorem dX1_addOver_24 : decode cX1_addOver 24 = .ok (.getfield 64, 3) := by decide +kernel
theorem dX1_addOver_27 : decode cX1_addOver 27 = .ok (.iload_n 2, 1) := by decide +kernel
theorem dX1_addOver_28 : decode cX1_addOver 28 = .ok (.iastore, 1) := by decide +kernel
theorem dX1_addOver_29 : decode cX1_addOver 29 = .ok (.aload_n 0, 1) := by decide +kernel
theorem dX1_addOver_30 : decode cX1_addOver 30 = .ok (.dup, 1) := by decide +kernel
theorem dX1_addOver_31 : decode cX1_addOver 31 = .ok (.getfield 64, 3) := by decide +kernel
theorem dX1_addOver_34 : decode cX1_addOver 34 = .ok (.iconst 1, 1) := by decide +kernel
theorem dX1_addOver_35 : decode cX1_addOver 35 = .ok (.iadd, 1) := by decide +kernel
theorem dX1_addOver_36 : decode cX1_addOver 36 = .ok (.putfield 64, 3) := by decide +kernel
theorem dX1_addOver_39 : decode cX1_addOver 39 = .ok (.return_, 1) := by decide +kernel
def fX1_addOver_0  (h : PH) (x0 : Nat) (x1 : Int32) (x2 : Int32) : Option (PH) :=
  oC (decide (hT h x0 = 2)) (if 20 ≤ (hI h 139 x0) then (some (h)) else (oN (hR h 137 x0) (fun a3 => oC (decide (hT h a3 = 101)) (oC (ix (hI h 139 x0) (hN h a3)) (oL (sA h a3 (Int32.toNatClampNeg (hI h 139 x0)) x1) (fun h6 => oN (hR h6 138 x0) (fun a8 => oC (decide (hT h6 a8 = 101)) (oC (ix (hI h6 139 x0) (hN h6 a8)) (oL (sA h6 a8 (Int32.toNatClampNeg (hI h6 139 x0)) x2) (fun h11 => oL (sI h11 139 x0 ((hI h11 139 x0) + 1)) (fun h13 => some (h13))))))))))))
set_option maxHeartbeats 4000000 in
theorem wfX1_addOver_0 {args : Array Value} (b : Bd p s m c cX1_addOver 3 RX1 D aC) (hlk : meth.locks = false) (hr : meth.sig.returnType = none) {Z : State → Prop} (zs : Z s) (zk : ZOK Z (Rg ad)) {hz : PH} {h : PH} {x0 : Nat} {x1 : Int32} {x2 : Int32}  {H : Heap} {locs : List Loc} {ls : Array Slot} (hf : fX1_addOver_0 h x0 x1 x2 = some hz) (hE : CE (EX D aC ad h) (Rg ad) s H locs) (hl : lv_has ls 3 [(0, .ref (ad x0)), (1, .int x1), (2, .int x2)]) : W p l e (RM 0 0 0 0) s m args below meth c H locs 0 0 (MQ below (PQ (EX D aC ad hz) (Rg ad) none) args s 0 0 (Rg ad)) (F0 m 0 ls []) := by
  unfold fX1_addOver_0 at hf
  refine lv_aload_n b.1 b.2.1 dX1_addOver_0 rfl (lv_at hl 0 rfl) ?_
  obtain ⟨t1, hf⟩ := oC_s hf
  have t1 := of_decide_eq_true t1
  refine gX1_64 (x := (some x0)) b hE rfl t1 dX1_addOver_1 ?_
  refine lv_bipush (v := 20) b.1 b.2.1 dX1_addOver_4 (by decide) ?_
  refine lv_icmp_ge (tgt := 39) b.1 b.2.1 dX1_addOver_6 (by decide) (fun c2 => ?_) (fun c2 => ?_)
  · have hf := oI_t c2 hf
    cases hf
    exact k_vret b hlk hr hE (Nat.le_refl _) (Nat.le_refl _) dX1_addOver_39
  · have hf := oI_f c2 hf
    refine lv_aload_n b.1 b.2.1 dX1_addOver_9 rfl (lv_at hl 0 rfl) ?_
    refine gX1_48 (x := (some x0)) b hE rfl t1 dX1_addOver_10 ?_
    refine lv_aload_n b.1 b.2.1 dX1_addOver_13 rfl (lv_at hl 0 rfl) ?_
    refine gX1_64 (x := (some x0)) b hE rfl t1 dX1_addOver_14 ?_
    refine lv_iload_n b.1 b.2.1 dX1_addOver_17 rfl (lv_at hl 1 rfl) ?_
    obtain ⟨a3, ea3, hf⟩ := oN_s hf
    obtain ⟨t4, hf⟩ := oC_s hf
    have t4 := of_decide_eq_true t4
    obtain ⟨g5, hf⟩ := oC_s hf
    obtain ⟨h6, eh6, hf⟩ := oL_s hf
    refine q_iast (x := (hR h 137 x0)) b hE ea3 t4 g5 eh6 dX1_addOver_18 (fun H locs hE => ?_)
    refine lv_aload_n b.1 b.2.1 dX1_addOver_19 rfl (lv_at hl 0 rfl) ?_
    have t7 := tg_sA eh6 t1
    refine gX1_51 (x := (some x0)) b hE rfl t7 dX1_addOver_20 ?_
    refine lv_aload_n b.1 b.2.1 dX1_addOver_23 rfl (lv_at hl 0 rfl) ?_
    refine gX1_64 (x := (some x0)) b hE rfl t7 dX1_addOver_24 ?_
    refine lv_iload_n b.1 b.2.1 dX1_addOver_27 rfl (lv_at hl 2 rfl) ?_
    obtain ⟨a8, ea8, hf⟩ := oN_s hf
    obtain ⟨t9, hf⟩ := oC_s hf
    have t9 := of_decide_eq_true t9
    obtain ⟨g10, hf⟩ := oC_s hf
    obtain ⟨h11, eh11, hf⟩ := oL_s hf
    refine q_iast (x := (hR h6 138 x0)) b hE ea8 t9 g10 eh11 dX1_addOver_28 (fun H locs hE => ?_)
    refine lv_aload_n b.1 b.2.1 dX1_addOver_29 rfl (lv_at hl 0 rfl) ?_
    refine lv_dup b.1 b.2.1 dX1_addOver_30 rfl ?_
    have t12 := tg_sA eh11 t7
    refine gX1_64 (x := (some x0)) b hE rfl t12 dX1_addOver_31 ?_
    refine lv_iconst (v := 1) b.1 b.2.1 dX1_addOver_34 (by decide) ?_
    refine lv_iadd b.1 b.2.1 dX1_addOver_35 ?_
    obtain ⟨h13, eh13, hf⟩ := oL_s hf
    refine pX1_64 (x := (some x0)) b hE rfl t12 eh13 dX1_addOver_36 (fun H locs hE => ?_)
    cases hf
    exact k_vret b hlk hr hE (Nat.le_refl _) (Nat.le_refl _) dX1_addOver_39
def fX1_addOver (h : PH) (x0 : Nat) (x1 : Int32) (x2 : Int32) : Option (PH) := fX1_addOver_0 h x0 x1 x2
set_option maxHeartbeats 4000000 in
theorem CX1_addOver (l : Launch) (D : va_G) (aC : Nat → ClassId) (ad : Nat → Nat) {Z : State → Prop} (zk : ZOK Z (Rg ad)) {h : PH} {x0 : Nat} {x1 : Int32} {x2 : Int32} {hz : PH} (hf : fX1_addOver h x0 x1 x2 = some hz) : CM l D aC Z yX1_addOver cX1_addOver 3 (none) 0 0 0 0 (EX D aC ad h) [.ref (ad x0), .int x1, .int x2] (EX D aC ad hz) none (Rg ad) := by
  refine CM.of rfl ?_
  intro p e s m below meth c b hr hlk hin2 zs hE
  refine k_ent (Nat.le_of_ble_eq_true rfl) (fun ls hl => ?_)
  exact wfX1_addOver_0 b hlk hr zs zk hf hE (lv_sub hl [0, 1, 2] rfl)
theorem dX1_addStep_0 : decode cX1_addStep 0 = .ok (.aload_n 0, 1) := by decide +kernel
theorem dX1_addStep_1 : decode cX1_addStep 1 = .ok (.getfield 70, 3) := by decide +kernel
theorem dX1_addStep_4 : decode cX1_addStep 4 = .ok (.aload_n 0, 1) := by decide +kernel
theorem dX1_addStep_5 : decode cX1_addStep 5 = .ok (.getfield 54, 3) := by decide +kernel
theorem dX1_addStep_8 : decode cX1_addStep 8 = .ok (.arraylength, 1) := by decide +kernel
theorem dX1_addStep_9 : decode cX1_addStep 9 = .ok (.if_icmp .lt 21, 3) := by decide +kernel
theorem dX1_addStep_12 : decode cX1_addStep 12 = .ok (.aload_n 0, 1) := by decide +kernel
theorem dX1_addStep_13 : decode cX1_addStep 13 = .ok (.aload_n 0, 1) := by decide +kernel
theorem dX1_addStep_14 : decode cX1_addStep 14 = .ok (.getfield 54, 3) := by decide +kernel
theorem dX1_addStep_17 : decode cX1_addStep 17 = .ok (.aload_n 0, 1) := by decide +kernel
theorem dX1_addStep_18 : decode cX1_addStep 18 = .ok (.getfield 54, 3) := by decide +kernel
theorem dX1_addStep_21 : decode cX1_addStep 21 = .ok (.arraylength, 1) := by decide +kernel
theorem dX1_addStep_22 : decode cX1_addStep 22 = .ok (.iconst 2, 1) := by decide +kernel
theorem dX1_addStep_23 : decode cX1_addStep 23 = .ok (.imul, 1) := by decide +kernel
theorem dX1_addStep_24 : decode cX1_addStep 24 = .ok (.invokestatic 84, 3) := by decide +kernel
theorem dX1_addStep_27 : decode cX1_addStep 27 = .ok (.putfield 54, 3) := by decide +kernel
theorem dX1_addStep_30 : decode cX1_addStep 30 = .ok (.aload_n 0, 1) := by decide +kernel
theorem dX1_addStep_31 : decode cX1_addStep 31 = .ok (.getfield 54, 3) := by decide +kernel
theorem dX1_addStep_34 : decode cX1_addStep 34 = .ok (.aload_n 0, 1) := by decide +kernel
theorem dX1_addStep_35 : decode cX1_addStep 35 = .ok (.getfield 70, 3) := by decide +kernel
theorem dX1_addStep_38 : decode cX1_addStep 38 = .ok (.iload_n 1, 1) := by decide +kernel
theorem dX1_addStep_39 : decode cX1_addStep 39 = .ok (.bipush 20, 2) := by decide +kernel
theorem dX1_addStep_41 : decode cX1_addStep 41 = .ok (.ishl, 1) := by decide +kernel
theorem dX1_addStep_42 : decode cX1_addStep 42 = .ok (.iload_n 2, 1) := by decide +kernel
theorem dX1_addStep_43 : decode cX1_addStep 43 = .ok (.ior, 1) := by decide +kernel
theorem dX1_addStep_44 : decode cX1_addStep 44 = .ok (.iastore, 1) := by decide +kernel
theorem dX1_addStep_45 : decode cX1_addStep 45 = .ok (.aload_n 0, 1) := by decide +kernel
theorem dX1_addStep_46 : decode cX1_addStep 46 = .ok (.dup, 1) := by decide +kernel
theorem dX1_addStep_47 : decode cX1_addStep 47 = .ok (.getfield 70, 3) := by decide +kernel
theorem dX1_addStep_50 : decode cX1_addStep 50 = .ok (.iconst 1, 1) := by decide +kernel
theorem dX1_addStep_51 : decode cX1_addStep 51 = .ok (.iadd, 1) := by decide +kernel
theorem dX1_addStep_52 : decode cX1_addStep 52 = .ok (.putfield 70, 3) := by decide +kernel
theorem dX1_addStep_55 : decode cX1_addStep 55 = .ok (.return_, 1) := by decide +kernel
def fX1_addStep_30  (h : PH) (x0 : Nat) (x1 : Int32) (x2 : Int32) : Option (PH × Nat × Nat) :=
  oC (decide (hT h x0 = 2)) (oN (hR h 141 x0) (fun a2 => oC (decide (hT h a2 = 101)) (oC (ix (hI h 142 x0) (hN h a2)) (oL (sA h a2 (Int32.toNatClampNeg (hI h 142 x0)) ((x1 <<< (20 &&& 31)) ||| x2)) (fun h5 => oL (sI h5 142 x0 ((hI h5 142 x0) + 1)) (fun h7 => some (h7, 0, 0)))))))
set_option maxHeartbeats 4000000 in
theorem wfX1_addStep_30 {mc ms cells slots : Nat} {args : Array Value} (b : Bd p s m c cX1_addStep 3 RX1 D aC) (hlk : meth.locks = false) (hr : meth.sig.returnType = none) {Z : State → Prop} (zs : Z s) (zk : ZOK Z (Rg ad)) {hz : PH} {h : PH} {x0 : Nat} {x1 : Int32} {x2 : Int32} {kz : Nat} {mz : Nat}  {H : Heap} {locs : List Loc} {ls : Array Slot} (hf : fX1_addStep_30 h x0 x1 x2 = some (hz, kz, mz)) (hk : cells + kz ≤ mc) (hs : slots + mz ≤ ms) (hE : CE (EX D aC ad h) (Rg ad) s H locs) (hl : lv_has ls 3 [(0, .ref (ad x0)), (1, .int x1), (2, .int x2)]) : W p l e (RM 2 82 mc ms) s m args below meth c H locs cells slots (MQ below (PQ (EX D aC ad hz) (Rg ad) none) args s mc ms (Rg ad)) (F0 m 30 ls []) := by
  unfold fX1_addStep_30 at hf
  refine lv_aload_n b.1 b.2.1 dX1_addStep_30 rfl (lv_at hl 0 rfl) ?_
  obtain ⟨t1, hf⟩ := oC_s hf
  have t1 := of_decide_eq_true t1
  refine gX1_54 (x := (some x0)) b hE rfl t1 dX1_addStep_31 ?_
  refine lv_aload_n b.1 b.2.1 dX1_addStep_34 rfl (lv_at hl 0 rfl) ?_
  refine gX1_70 (x := (some x0)) b hE rfl t1 dX1_addStep_35 ?_
  refine lv_iload_n b.1 b.2.1 dX1_addStep_38 rfl (lv_at hl 1 rfl) ?_
  refine lv_bipush (v := 20) b.1 b.2.1 dX1_addStep_39 (by decide) ?_
  refine lv_ishl b.1 b.2.1 dX1_addStep_41 ?_
  refine lv_iload_n b.1 b.2.1 dX1_addStep_42 rfl (lv_at hl 2 rfl) ?_
  refine lv_ior b.1 b.2.1 dX1_addStep_43 ?_
  obtain ⟨a2, ea2, hf⟩ := oN_s hf
  obtain ⟨t3, hf⟩ := oC_s hf
  have t3 := of_decide_eq_true t3
  obtain ⟨g4, hf⟩ := oC_s hf
  obtain ⟨h5, eh5, hf⟩ := oL_s hf
  refine q_iast (x := (hR h 141 x0)) b hE ea2 t3 g4 eh5 dX1_addStep_44 (fun H locs hE => ?_)
  refine lv_aload_n b.1 b.2.1 dX1_addStep_45 rfl (lv_at hl 0 rfl) ?_
  refine lv_dup b.1 b.2.1 dX1_addStep_46 rfl ?_
  have t6 := tg_sA eh5 t1
  refine gX1_70 (x := (some x0)) b hE rfl t6 dX1_addStep_47 ?_
  refine lv_iconst (v := 1) b.1 b.2.1 dX1_addStep_50 (by decide) ?_
  refine lv_iadd b.1 b.2.1 dX1_addStep_51 ?_
  obtain ⟨h7, eh7, hf⟩ := oL_s hf
  refine pX1_70 (x := (some x0)) b hE rfl t6 eh7 dX1_addStep_52 (fun H locs hE => ?_)
  cases hf
  exact k_vret b hlk hr hE (le_c hk) (le_c hs) dX1_addStep_55
def fX1_addStep_0  (h : PH) (x0 : Nat) (x1 : Int32) (x2 : Int32) : Option (PH × Nat × Nat) :=
  oC (decide (hT h x0 = 2)) (oN (hR h 141 x0) (fun a9 => oC (decide (hT h a9 = 101)) (if (hI h 142 x0) < (nI (hN h a9)) then (fX1_addStep_30  h x0 x1 x2) else (oB4 (fJ7_copyOf_59c91 h (hR h 141 x0) ((nI (hN h a9)) * 2)) (fun h14 r13 i15 j16 => oK3 i15 j16 (oC (decide (hT h14 x0 = 2)) (oL (sR h14 141 x0 r13) (fun h20 => fX1_addStep_30  h20 x0 x1 x2))))))))
set_option maxHeartbeats 4000000 in
theorem wfX1_addStep_0 {mc ms cells slots : Nat} {args : Array Value} (b : Bd p s m c cX1_addStep 3 RX1 D aC) (hlk : meth.locks = false) (hr : meth.sig.returnType = none) {Z : State → Prop} (zs : Z s) (zk : ZOK Z (Rg ad)) {hz : PH} {h : PH} {x0 : Nat} {x1 : Int32} {x2 : Int32} {kz : Nat} {mz : Nat}  {H : Heap} {locs : List Loc} {ls : Array Slot} (hf : fX1_addStep_0 h x0 x1 x2 = some (hz, kz, mz)) (hk : cells + kz ≤ mc) (hs : slots + mz ≤ ms) (hE : CE (EX D aC ad h) (Rg ad) s H locs) (hl : lv_has ls 3 [(0, .ref (ad x0)), (1, .int x1), (2, .int x2)]) : W p l e (RM 2 82 mc ms) s m args below meth c H locs cells slots (MQ below (PQ (EX D aC ad hz) (Rg ad) none) args s mc ms (Rg ad)) (F0 m 0 ls []) := by
  unfold fX1_addStep_0 at hf
  refine lv_aload_n b.1 b.2.1 dX1_addStep_0 rfl (lv_at hl 0 rfl) ?_
  obtain ⟨t8, hf⟩ := oC_s hf
  have t8 := of_decide_eq_true t8
  refine gX1_70 (x := (some x0)) b hE rfl t8 dX1_addStep_1 ?_
  refine lv_aload_n b.1 b.2.1 dX1_addStep_4 rfl (lv_at hl 0 rfl) ?_
  refine gX1_54 (x := (some x0)) b hE rfl t8 dX1_addStep_5 ?_
  obtain ⟨a9, ea9, hf⟩ := oN_s hf
  obtain ⟨t10, hf⟩ := oC_s hf
  have t10 := of_decide_eq_true t10
  refine q_alen (x := (hR h 141 x0)) (k := 1) b hE ea9 (by decide) t10 dX1_addStep_8 ?_
  refine lv_icmp_lt (tgt := 30) b.1 b.2.1 dX1_addStep_9 (by decide) (fun c11 => ?_) (fun c11 => ?_)
  · have hf := oI_t c11 hf
    exact wfX1_addStep_30 b hlk hr zs zk  hf hk hs hE (lv_sub hl [0, 1, 2] rfl)
  · have hf := oI_f c11 hf
    refine lv_aload_n b.1 b.2.1 dX1_addStep_12 rfl (lv_at hl 0 rfl) ?_
    refine lv_aload_n b.1 b.2.1 dX1_addStep_13 rfl (lv_at hl 0 rfl) ?_
    refine gX1_54 (x := (some x0)) b hE rfl t8 dX1_addStep_14 ?_
    refine lv_aload_n b.1 b.2.1 dX1_addStep_17 rfl (lv_at hl 0 rfl) ?_
    refine gX1_54 (x := (some x0)) b hE rfl t8 dX1_addStep_18 ?_
    refine q_alen (x := (hR h 141 x0)) (k := 1) b hE ea9 (by decide) t10 dX1_addStep_21 ?_
    refine lv_iconst (v := 2) b.1 b.2.1 dX1_addStep_22 (by decide) ?_
    refine lv_imul b.1 b.2.1 dX1_addStep_23 ?_
    obtain ⟨h14, r13, i15, j16, hc12, hf⟩ := oB4_s hf
    obtain ⟨i17, j18, ei17, ej18, hf⟩ := oK3_s hf
    refine k_callS b zs zk hE (CJ7_copyOf_59c91 l D aC ad zk hc12) mc_J7_copyOf_59c91 (in3 86 rfl rfl) mt_J7_copyOf_59c91 ini_RJ7 ok_J7_copyOf_59c91 ⟨Nat.le_of_ble_eq_true rfl, Nat.le_of_ble_eq_true rfl⟩ rfl hl.1 rfl (k_room _ (by exact Nat.le_of_ble_eq_true rfl)) ⟨le_room hk ei17, le_room hs ej18⟩ dX1_addStep_24 (fun H locs hE => ?_)
    have hk := le_step hk ei17
    have hs := le_step hs ej18
    obtain ⟨t19, hf⟩ := oC_s hf
    have t19 := of_decide_eq_true t19
    obtain ⟨h20, eh20, hf⟩ := oL_s hf
    refine pX1_54 (x := (some x0)) (v := r13) b hE rfl t19 eh20 dX1_addStep_27 (fun H locs hE => ?_)
    exact wfX1_addStep_30 b hlk hr zs zk  hf hk hs hE (lv_sub hl [0, 1, 2] rfl)
def fX1_addStep (h : PH) (x0 : Nat) (x1 : Int32) (x2 : Int32) : Option (PH × Nat × Nat) := fX1_addStep_0 h x0 x1 x2
set_option maxHeartbeats 4000000 in
theorem CX1_addStep (l : Launch) (D : va_G) (aC : Nat → ClassId) (ad : Nat → Nat) {Z : State → Prop} (zk : ZOK Z (Rg ad)) {h : PH} {x0 : Nat} {x1 : Int32} {x2 : Int32} {hz : PH} {kz : Nat} {mz : Nat} (hf : fX1_addStep h x0 x1 x2 = some (hz, kz, mz)) : CM l D aC Z yX1_addStep cX1_addStep 3 (none) 2 82 kz mz (EX D aC ad h) [.ref (ad x0), .int x1, .int x2] (EX D aC ad hz) none (Rg ad) := by
  refine CM.of rfl ?_
  intro p e s m below meth c b hr hlk hin2 zs hE
  refine k_ent (Nat.le_of_ble_eq_true rfl) (fun ls hl => ?_)
  exact wfX1_addStep_0 b hlk hr zs zk hf (by omega) (by omega) hE (lv_sub hl [0, 1, 2] rfl)
theorem dX1_isRanked_0 : decode cX1_isRanked 0 = .ok (.aload_n 0, 1) := by decide +kernel
theorem dX1_isRanked_1 : decode cX1_isRanked 1 = .ok (.iload_n 1, 1) := by decide +kernel
theorem dX1_isRanked_2 : decode cX1_isRanked 2 = .ok (.invokevirtual 90, 3) := by decide +kernel
theorem dX1_isRanked_5 : decode cX1_isRanked 5 = .ok (.astore_n 2, 1) := by decide +kernel
theorem dX1_isRanked_6 : decode cX1_isRanked 6 = .ok (.aload_n 2, 1) := by decide +kernel
theorem dX1_isRanked_7 : decode cX1_isRanked 7 = .ok (.ifnull 15, 3) := by decide +kernel
theorem dX1_isRanked_10 : decode cX1_isRanked 10 = .ok (.aload_n 2, 1) := by decide +kernel
theorem dX1_isRanked_11 : decode cX1_isRanked 11 = .ok (.getfield 80, 3) := by decide +kernel
theorem dX1_isRanked_14 : decode cX1_isRanked 14 = .ok (.iconst 2, 1) := by decide +kernel
theorem dX1_isRanked_15 : decode cX1_isRanked 15 = .ok (.if_icmp .eq 7, 3) := by decide +kernel
theorem dX1_isRanked_18 : decode cX1_isRanked 18 = .ok (.iconst 1, 1) := by decide +kernel
theorem dX1_isRanked_19 : decode cX1_isRanked 19 = .ok (.goto 4, 3) := by decide +kernel
theorem dX1_isRanked_22 : decode cX1_isRanked 22 = .ok (.iconst 0, 1) := by decide +kernel
theorem dX1_isRanked_23 : decode cX1_isRanked 23 = .ok (.ireturn, 1) := by decide +kernel
def fX1_isRanked_0  (h : PH) (x0 : Nat) (x1 : Int32) : Option (Int32) :=
  oC (decide (hT h x0 = 2)) (oB (fX1_ruleAt h x0 x1) (fun r3 => if r3 = none then (some (0)) else (oN r3 (fun a5 => oC (decide (hT h a5 = 9)) (if (hI h 1025 a5) = 2 then (some (0)) else (some (1)))))))
set_option maxHeartbeats 4000000 in
theorem wfX1_isRanked_0 {args : Array Value} (b : Bd p s m c cX1_isRanked 3 RX1 D aC) (hlk : meth.locks = false) (hr : meth.sig.returnType = some .boolean) {Z : State → Prop} (zs : Z s) (zk : ZOK Z (Rg ad)) {rz : Int32} {h : PH} {x0 : Nat} {x1 : Int32}  {H : Heap} {locs : List Loc} {ls : Array Slot} (hf : fX1_isRanked_0 h x0 x1 = some rz) (hE : CE (EX D aC ad h) (Rg ad) s H locs) (hl : lv_has ls 3 [(0, .ref (ad x0)), (1, .int x1)]) : W p l e (RM 1 21 0 0) s m args below meth c H locs 0 0 (MQ below (PQ (EX D aC ad h) (Rg ad) (some (.int rz))) args s 0 0 (Rg ad)) (F0 m 0 ls []) := by
  unfold fX1_isRanked_0 at hf
  refine lv_aload_n b.1 b.2.1 dX1_isRanked_0 rfl (lv_at hl 0 rfl) ?_
  refine lv_iload_n b.1 b.2.1 dX1_isRanked_1 rfl (lv_at hl 1 rfl) ?_
  obtain ⟨t1, hf⟩ := oC_s hf
  have t1 := of_decide_eq_true t1
  obtain ⟨r3, hc2, hf⟩ := oB_s hf
  refine k_callV0 (C := RX1) b zs zk hE (CX1_ruleAt l D aC ad zk hc2) mc_X1_ruleAt (in3 175 rfl rfl) mi_X1_ruleAt ms_X1_ruleAt ini_RX1 ok_X1_ruleAt (x_recv b hE (ci := 1) rfl (by decide) t1) ⟨Nat.le_of_ble_eq_true rfl, Nat.le_of_ble_eq_true rfl⟩ rfl hl.1 rfl (k_room _ (by exact Nat.le_of_ble_eq_true rfl)) ⟨Nat.le_refl _, Nat.le_refl _⟩ dX1_isRanked_2 (fun H locs hE => ?_)
  refine k_astore_n (x := Option.map ad r3) (lv' := [(2, va_rf (Option.map ad r3)), (0, .ref (ad x0)), (1, .int x1)]) b dX1_isRanked_5 rfl hl (by decide) rfl (fun ls hl => ?_)
  have hl := lv_sub (l' := [(2, va_rf (Option.map ad r3))]) hl [0] rfl
  refine k_aload_n (x := Option.map ad r3) b dX1_isRanked_6 rfl (lv_at hl 0 rfl) ?_
  refine k_ifnull (x := Option.map ad r3) b dX1_isRanked_7 (tgt := 22) (by decide) (fun c4 => ?_) (fun c4 => ?_)
  · have hf := oI_t (Option.map_eq_none_iff.mp c4) hf
    refine lv_iconst (v := 0) b.1 b.2.1 dX1_isRanked_22 (by decide) ?_
    cases hf
    exact k_zret b hlk hr (by decide) hE (Nat.le_refl _) (Nat.le_refl _) dX1_isRanked_23
  · have hf := oI_f (fun z => c4 (Option.map_eq_none_iff.mpr z)) hf
    refine k_aload_n (x := Option.map ad r3) b dX1_isRanked_10 rfl (lv_at hl 0 rfl) ?_
    obtain ⟨a5, ea5, hf⟩ := oN_s hf
    obtain ⟨t6, hf⟩ := oC_s hf
    have t6 := of_decide_eq_true t6
    refine gX1_80 (x := r3) b hE ea5 t6 dX1_isRanked_11 ?_
    refine lv_iconst (v := 2) b.1 b.2.1 dX1_isRanked_14 (by decide) ?_
    refine lv_icmp_eq (tgt := 22) b.1 b.2.1 dX1_isRanked_15 (by decide) (fun c7 => ?_) (fun c7 => ?_)
    · have hf := oI_t c7 hf
      refine lv_iconst (v := 0) b.1 b.2.1 dX1_isRanked_22 (by decide) ?_
      cases hf
      exact k_zret b hlk hr (by decide) hE (Nat.le_refl _) (Nat.le_refl _) dX1_isRanked_23
    · have hf := oI_f c7 hf
      refine lv_iconst (v := 1) b.1 b.2.1 dX1_isRanked_18 (by decide) ?_
      refine lv_goto (tgt := 23) b.1 b.2.1 dX1_isRanked_19 (by decide) ?_
      cases hf
      exact k_zret b hlk hr (by decide) hE (Nat.le_refl _) (Nat.le_refl _) dX1_isRanked_23
def fX1_isRanked (h : PH) (x0 : Nat) (x1 : Int32) : Option (Int32) := fX1_isRanked_0 h x0 x1
set_option maxHeartbeats 4000000 in
theorem CX1_isRanked (l : Launch) (D : va_G) (aC : Nat → ClassId) (ad : Nat → Nat) {Z : State → Prop} (zk : ZOK Z (Rg ad)) {h : PH} {x0 : Nat} {x1 : Int32} {rz : Int32} (hf : fX1_isRanked h x0 x1 = some rz) : CM l D aC Z yX1_isRanked cX1_isRanked 3 (some .boolean) 1 21 0 0 (EX D aC ad h) [.ref (ad x0), .int x1] (EX D aC ad h) (some (.int rz)) (Rg ad) := by
  refine CM.of rfl ?_
  intro p e s m below meth c b hr hlk hin2 zs hE
  refine k_ent (Nat.le_of_ble_eq_true rfl) (fun ls hl => ?_)
  exact wfX1_isRanked_0 b hlk hr zs zk hf hE (lv_sub hl [0, 1] rfl)
theorem dX1_isAbove_0 : decode cX1_isAbove 0 = .ok (.aload_n 0, 1) := by decide +kernel
theorem dX1_isAbove_1 : decode cX1_isAbove 1 = .ok (.iload_n 1, 1) := by decide +kernel
theorem dX1_isAbove_2 : decode cX1_isAbove 2 = .ok (.invokevirtual 90, 3) := by decide +kernel
theorem dX1_isAbove_5 : decode cX1_isAbove 5 = .ok (.astore_n 3, 1) := by decide +kernel
theorem dX1_isAbove_6 : decode cX1_isAbove 6 = .ok (.aload_n 0, 1) := by decide +kernel
theorem dX1_isAbove_7 : decode cX1_isAbove 7 = .ok (.iload_n 2, 1) := by decide +kernel
theorem dX1_isAbove_8 : decode cX1_isAbove 8 = .ok (.invokevirtual 90, 3) := by decide +kernel
theorem dX1_isAbove_11 : decode cX1_isAbove 11 = .ok (.astore 4, 2) := by decide +kernel
theorem dX1_isAbove_13 : decode cX1_isAbove 13 = .ok (.aload_n 3, 1) := by decide +kernel
theorem dX1_isAbove_14 : decode cX1_isAbove 14 = .ok (.ifnull 8, 3) := by decide +kernel
theorem dX1_isAbove_17 : decode cX1_isAbove 17 = .ok (.aload 4, 2) := by decide +kernel
theorem dX1_isAbove_19 : decode cX1_isAbove 19 = .ok (.ifnonnull 5, 3) := by decide +kernel
theorem dX1_isAbove_22 : decode cX1_isAbove 22 = .ok (.iconst 0, 1) := by decide +kernel
theorem dX1_isAbove_23 : decode cX1_isAbove 23 = .ok (.ireturn, 1) := by decide +kernel
theorem dX1_isAbove_24 : decode cX1_isAbove 24 = .ok (.iconst 0, 1) := by decide +kernel
theorem dX1_isAbove_25 : decode cX1_isAbove 25 = .ok (.istore 5, 2) := by decide +kernel
theorem dX1_isAbove_27 : decode cX1_isAbove 27 = .ok (.iload 5, 2) := by decide +kernel
theorem dX1_isAbove_29 : decode cX1_isAbove 29 = .ok (.aload_n 0, 1) := by decide +kernel
theorem dX1_isAbove_30 : decode cX1_isAbove 30 = .ok (.getfield 64, 3) := by decide +kernel
theorem dX1_isAbove_33 : decode cX1_isAbove 33 = .ok (.if_icmp .ge 57, 3) := by decide +kernel
theorem dX1_isAbove_36 : decode cX1_isAbove 36 = .ok (.aload_n 0, 1) := by decide +kernel
theorem dX1_isAbove_37 : decode cX1_isAbove 37 = .ok (.getfield 48, 3) := by decide +kernel
theorem dX1_isAbove_40 : decode cX1_isAbove 40 = .ok (.iload 5, 2) := by decide +kernel
theorem dX1_isAbove_42 : decode cX1_isAbove 42 = .ok (.iaload, 1) := by decide +kernel
theorem dX1_isAbove_43 : decode cX1_isAbove 43 = .ok (.iload_n 1, 1) := by decide +kernel
theorem dX1_isAbove_44 : decode cX1_isAbove 44 = .ok (.if_icmp .ne 16, 3) := by decide +kernel
theorem dX1_isAbove_47 : decode cX1_isAbove 47 = .ok (.aload_n 0, 1) := by decide +kernel
theorem dX1_isAbove_48 : decode cX1_isAbove 48 = .ok (.getfield 51, 3) := by decide +kernel
theorem dX1_isAbove_51 : decode cX1_isAbove 51 = .ok (.iload 5, 2) := by decide +kernel
theorem dX1_isAbove_53 : decode cX1_isAbove 53 = .ok (.iaload, 1) := by decide +kernel
theorem dX1_isAbove_54 : decode cX1_isAbove 54 = .ok (.iload_n 2, 1) := by decide +kernel
theorem dX1_isAbove_55 : decode cX1_isAbove 55 = .ok (.if_icmp .ne 5, 3) := by decide +kernel
theorem dX1_isAbove_58 : decode cX1_isAbove 58 = .ok (.iconst 1, 1) := by decide +kernel
theorem dX1_isAbove_59 : decode cX1_isAbove 59 = .ok (.ireturn, 1) := by decide +kernel
theorem dX1_isAbove_60 : decode cX1_isAbove 60 = .ok (.aload_n 0, 1) := by decide +kernel
theorem dX1_isAbove_61 : decode cX1_isAbove 61 = .ok (.getfield 48, 3) := by decide +kernel
theorem dX1_isAbove_64 : decode cX1_isAbove 64 = .ok (.iload 5, 2) := by decide +kernel
theorem dX1_isAbove_66 : decode cX1_isAbove 66 = .ok (.iaload, 1) := by decide +kernel
theorem dX1_isAbove_67 : decode cX1_isAbove 67 = .ok (.iload_n 2, 1) := by decide +kernel
theorem dX1_isAbove_68 : decode cX1_isAbove 68 = .ok (.if_icmp .ne 16, 3) := by decide +kernel
theorem dX1_isAbove_71 : decode cX1_isAbove 71 = .ok (.aload_n 0, 1) := by decide +kernel
theorem dX1_isAbove_72 : decode cX1_isAbove 72 = .ok (.getfield 51, 3) := by decide +kernel
theorem dX1_isAbove_75 : decode cX1_isAbove 75 = .ok (.iload 5, 2) := by decide +kernel
theorem dX1_isAbove_77 : decode cX1_isAbove 77 = .ok (.iaload, 1) := by decide +kernel
theorem dX1_isAbove_78 : decode cX1_isAbove 78 = .ok (.iload_n 1, 1) := by decide +kernel
theorem dX1_isAbove_79 : decode cX1_isAbove 79 = .ok (.if_icmp .ne 5, 3) := by decide +kernel
theorem dX1_isAbove_82 : decode cX1_isAbove 82 = .ok (.iconst 0, 1) := by decide +kernel
theorem dX1_isAbove_83 : decode cX1_isAbove 83 = .ok (.ireturn, 1) := by decide +kernel
theorem dX1_isAbove_84 : decode cX1_isAbove 84 = .ok (.iinc 5 1, 3) := by decide +kernel
theorem dX1_isAbove_87 : decode cX1_isAbove 87 = .ok (.goto (-60), 3) := by decide +kernel
theorem dX1_isAbove_90 : decode cX1_isAbove 90 = .ok (.iconst 0, 1) := by decide +kernel
theorem dX1_isAbove_91 : decode cX1_isAbove 91 = .ok (.istore 5, 2) := by decide +kernel
theorem dX1_isAbove_93 : decode cX1_isAbove 93 = .ok (.iload 5, 2) := by decide +kernel
theorem dX1_isAbove_95 : decode cX1_isAbove 95 = .ok (.iconst 2, 1) := by decide +kernel
theorem dX1_isAbove_96 : decode cX1_isAbove 96 = .ok (.if_icmp .gt 54, 3) := by decide +kernel
theorem dX1_isAbove_99 : decode cX1_isAbove 99 = .ok (.aload_n 0, 1) := by decide +kernel
theorem dX1_isAbove_100 : decode cX1_isAbove 100 = .ok (.aload_n 3, 1) := by decide +kernel
theorem dX1_isAbove_101 : decode cX1_isAbove 101 = .ok (.getfield 77, 3) := by decide +kernel
theorem dX1_isAbove_104 : decode cX1_isAbove 104 = .ok (.iload 5, 2) := by decide +kernel
theorem dX1_isAbove_106 : decode cX1_isAbove 106 = .ok (.invokevirtual 94, 3) := by decide +kernel
theorem dX1_isAbove_109 : decode cX1_isAbove 109 = .ok (.istore 6, 2) := by decide +kernel
theorem dX1_isAbove_111 : decode cX1_isAbove 111 = .ok (.aload_n 0, 1) := by decide +kernel
theorem dX1_isAbove_112 : decode cX1_isAbove 112 = .ok (.aload 4, 2) := by decide +kernel
theorem dX1_isAbove_114 : decode cX1_isAbove 114 = .ok (.getfield 77, 3) := by decide +kernel
theorem dX1_isAbove_117 : decode cX1_isAbove 117 = .ok (.iload 5, 2) := by decide +kernel
theorem dX1_isAbove_119 : decode cX1_isAbove 119 = .ok (.invokevirtual 94, 3) := by decide +kernel
theorem dX1_isAbove_122 : decode cX1_isAbove 122 = .ok (.istore 7, 2) := by decide +kernel
theorem dX1_isAbove_124 : decode cX1_isAbove 124 = .ok (.iload 6, 2) := by decide +kernel
theorem dX1_isAbove_126 : decode cX1_isAbove 126 = .ok (.iload 7, 2) := by decide +kernel
theorem dX1_isAbove_128 : decode cX1_isAbove 128 = .ok (.if_icmp .eq 16, 3) := by decide +kernel
theorem dX1_isAbove_131 : decode cX1_isAbove 131 = .ok (.iload 6, 2) := by decide +kernel
theorem dX1_isAbove_133 : decode cX1_isAbove 133 = .ok (.iload 7, 2) := by decide +kernel
theorem dX1_isAbove_135 : decode cX1_isAbove 135 = .ok (.if_icmp .le 7, 3) := by decide +kernel
theorem dX1_isAbove_138 : decode cX1_isAbove 138 = .ok (.iconst 1, 1) := by decide +kernel
theorem dX1_isAbove_139 : decode cX1_isAbove 139 = .ok (.goto 4, 3) := by decide +kernel
theorem dX1_isAbove_142 : decode cX1_isAbove 142 = .ok (.iconst 0, 1) := by decide +kernel
theorem dX1_isAbove_143 : decode cX1_isAbove 143 = .ok (.ireturn, 1) := by decide +kernel
theorem dX1_isAbove_144 : decode cX1_isAbove 144 = .ok (.iinc 5 1, 3) := by decide +kernel
theorem dX1_isAbove_147 : decode cX1_isAbove 147 = .ok (.goto (-54), 3) := by decide +kernel
theorem dX1_isAbove_150 : decode cX1_isAbove 150 = .ok (.iconst 0, 1) := by decide +kernel
theorem dX1_isAbove_151 : decode cX1_isAbove 151 = .ok (.ireturn, 1) := by decide +kernel
def fX1_isAbove_93F (k93 : PH → Nat → Option Nat → Option Nat → Int32 → Option (Int32)) (h : PH) (x0 : Nat) (x3 : Option Nat) (x4 : Option Nat) (x5 : Int32) : Option (Int32) :=
  if 2 < x5 then (some (0)) else (oN x3 (fun a2 => oC (decide (hT h a2 = 9)) (oC (decide (hT h x0 = 2)) (oB (fX1_lawColumn h x0 (hI h 1024 a2) x5) (fun r6 => oN x4 (fun a7 => oC (decide (hT h a7 = 9)) (oB (fX1_lawColumn h x0 (hI h 1024 a7) x5) (fun r10 => if r6 = r10 then (oL (x5 + 1) (fun y12 => k93 h x0 x3 x4 y12)) else (if r6 ≤ r10 then (some (0)) else (some (1)))))))))))
set_option maxHeartbeats 4000000 in
theorem wfX1_isAbove_93F {args : Array Value} (b : Bd p s m c cX1_isAbove 8 RX1 D aC) (hlk : meth.locks = false) (hr : meth.sig.returnType = some .boolean) {Z : State → Prop} (zs : Z s) (zk : ZOK Z (Rg ad)) {rz : Int32} {k93 : PH → Nat → Option Nat → Option Nat → Int32 → Option (Int32)} (H93 : ∀ (h : PH) (x0 : Nat) (x3 : Option Nat) (x4 : Option Nat) (x5 : Int32), ∀ (H : Heap) (locs : List Loc) (ls : Array Slot), k93 h x0 x3 x4 x5 = some rz → CE (EX D aC ad h) (Rg ad) s H locs → lv_has ls 8 [(0, .ref (ad x0)), (3, va_rf (Option.map ad x3)), (4, va_rf (Option.map ad x4)), (5, .int x5)] → W p l e (RM 1 23 0 0) s m args below meth c H locs 0 0 (MQ below (PQ (EX D aC ad h) (Rg ad) (some (.int rz))) args s 0 0 (Rg ad)) (F0 m 93 ls [])) {h : PH} {x0 : Nat} {x3 : Option Nat} {x4 : Option Nat} {x5 : Int32}  {H : Heap} {locs : List Loc} {ls : Array Slot} (hf : fX1_isAbove_93F k93 h x0 x3 x4 x5 = some rz) (hE : CE (EX D aC ad h) (Rg ad) s H locs) (hl : lv_has ls 8 [(0, .ref (ad x0)), (3, va_rf (Option.map ad x3)), (4, va_rf (Option.map ad x4)), (5, .int x5)]) : W p l e (RM 1 23 0 0) s m args below meth c H locs 0 0 (MQ below (PQ (EX D aC ad h) (Rg ad) (some (.int rz))) args s 0 0 (Rg ad)) (F0 m 93 ls []) := by
  unfold fX1_isAbove_93F at hf
  refine lv_iload b.1 b.2.1 dX1_isAbove_93 (lv_at hl 3 rfl) ?_
  refine lv_iconst (v := 2) b.1 b.2.1 dX1_isAbove_95 (by decide) ?_
  refine lv_icmp_gt (tgt := 150) b.1 b.2.1 dX1_isAbove_96 (by decide) (fun c1 => ?_) (fun c1 => ?_)
  · have hf := oI_t c1 hf
    refine lv_iconst (v := 0) b.1 b.2.1 dX1_isAbove_150 (by decide) ?_
    cases hf
    exact k_zret b hlk hr (by decide) hE (Nat.le_refl _) (Nat.le_refl _) dX1_isAbove_151
  · have hf := oI_f c1 hf
    refine lv_aload_n b.1 b.2.1 dX1_isAbove_99 rfl (lv_at hl 0 rfl) ?_
    refine k_aload_n (x := Option.map ad x3) b dX1_isAbove_100 rfl (lv_at hl 1 rfl) ?_
    obtain ⟨a2, ea2, hf⟩ := oN_s hf
    obtain ⟨t3, hf⟩ := oC_s hf
    have t3 := of_decide_eq_true t3
    refine gX1_77 (x := x3) b hE ea2 t3 dX1_isAbove_101 ?_
    refine lv_iload b.1 b.2.1 dX1_isAbove_104 (lv_at hl 3 rfl) ?_
    obtain ⟨t4, hf⟩ := oC_s hf
    have t4 := of_decide_eq_true t4
    obtain ⟨r6, hc5, hf⟩ := oB_s hf
    refine k_callV0 (C := RX1) b zs zk hE (CX1_lawColumn l D aC ad zk hc5) mc_X1_lawColumn (in4 179 rfl rfl) mi_X1_lawColumn ms_X1_lawColumn ini_RX1 ok_X1_lawColumn (x_recv b hE (ci := 1) rfl (by decide) t4) ⟨Nat.le_of_ble_eq_true rfl, Nat.le_of_ble_eq_true rfl⟩ rfl hl.1 rfl (k_room _ (by exact Nat.le_of_ble_eq_true rfl)) ⟨Nat.le_refl _, Nat.le_refl _⟩ dX1_isAbove_106 (fun H locs hE => ?_)
    refine lv_istore (lv' := [(6, .int r6), (0, .ref (ad x0)), (3, va_rf (Option.map ad x3)), (4, va_rf (Option.map ad x4)), (5, .int x5)]) b.1 b.2.1 dX1_isAbove_109 hl (by decide) rfl (fun ls hl => ?_)
    refine lv_aload_n b.1 b.2.1 dX1_isAbove_111 rfl (lv_at hl 1 rfl) ?_
    refine k_aload (x := Option.map ad x4) b dX1_isAbove_112 (lv_at hl 3 rfl) ?_
    obtain ⟨a7, ea7, hf⟩ := oN_s hf
    obtain ⟨t8, hf⟩ := oC_s hf
    have t8 := of_decide_eq_true t8
    refine gX1_77 (x := x4) b hE ea7 t8 dX1_isAbove_114 ?_
    refine lv_iload b.1 b.2.1 dX1_isAbove_117 (lv_at hl 4 rfl) ?_
    obtain ⟨r10, hc9, hf⟩ := oB_s hf
    refine k_callV0 (C := RX1) b zs zk hE (CX1_lawColumn l D aC ad zk hc9) mc_X1_lawColumn (in4 179 rfl rfl) mi_X1_lawColumn ms_X1_lawColumn ini_RX1 ok_X1_lawColumn (x_recv b hE (ci := 1) rfl (by decide) t4) ⟨Nat.le_of_ble_eq_true rfl, Nat.le_of_ble_eq_true rfl⟩ rfl hl.1 rfl (k_room _ (by exact Nat.le_of_ble_eq_true rfl)) ⟨Nat.le_refl _, Nat.le_refl _⟩ dX1_isAbove_119 (fun H locs hE => ?_)
    refine lv_istore (lv' := [(7, .int r10), (6, .int r6), (0, .ref (ad x0)), (3, va_rf (Option.map ad x3)), (4, va_rf (Option.map ad x4)), (5, .int x5)]) b.1 b.2.1 dX1_isAbove_122 hl (by decide) rfl (fun ls hl => ?_)
    refine lv_iload b.1 b.2.1 dX1_isAbove_124 (lv_at hl 1 rfl) ?_
    refine lv_iload b.1 b.2.1 dX1_isAbove_126 (lv_at hl 0 rfl) ?_
    refine lv_icmp_eq (tgt := 144) b.1 b.2.1 dX1_isAbove_128 (by decide) (fun c11 => ?_) (fun c11 => ?_)
    · have hf := oI_t c11 hf
      obtain ⟨y12, ey12, hf⟩ := oL_s hf
      refine lv_iinc (v := y12) (lv' := [(5, .int y12), (7, .int r10), (6, .int r6), (0, .ref (ad x0)), (3, va_rf (Option.map ad x3)), (4, va_rf (Option.map ad x4))]) b.1 b.2.1 dX1_isAbove_144 hl (k := 5) rfl (by rw [ey12]; rfl) (by decide) (by cases x4 <;> rfl) (fun ls hl => ?_)
      refine lv_goto (tgt := 93) b.1 b.2.1 dX1_isAbove_147 (by decide) ?_
      exact H93 h x0 x3 x4 y12 _ _ _ hf hE (lv_sub hl [3, 4, 5, 0] rfl)
    · have hf := oI_f c11 hf
      refine lv_iload b.1 b.2.1 dX1_isAbove_131 (lv_at hl 1 rfl) ?_
      refine lv_iload b.1 b.2.1 dX1_isAbove_133 (lv_at hl 0 rfl) ?_
      refine lv_icmp_le (tgt := 142) b.1 b.2.1 dX1_isAbove_135 (by decide) (fun c13 => ?_) (fun c13 => ?_)
      · have hf := oI_t c13 hf
        refine lv_iconst (v := 0) b.1 b.2.1 dX1_isAbove_142 (by decide) ?_
        cases hf
        exact k_zret b hlk hr (by decide) hE (Nat.le_refl _) (Nat.le_refl _) dX1_isAbove_143
      · have hf := oI_f c13 hf
        refine lv_iconst (v := 1) b.1 b.2.1 dX1_isAbove_138 (by decide) ?_
        refine lv_goto (tgt := 143) b.1 b.2.1 dX1_isAbove_139 (by decide) ?_
        cases hf
        exact k_zret b hlk hr (by decide) hE (Nat.le_refl _) (Nat.le_refl _) dX1_isAbove_143
def fX1_isAbove_93  : Nat → PH → Nat → Option Nat → Option Nat → Int32 → Option (Int32)
  | 0 => fun _ _ _ _ _ => none
  | n + 1 => fX1_isAbove_93F  (fX1_isAbove_93  n)
set_option maxHeartbeats 4000000 in
theorem wfX1_isAbove_93 {args : Array Value} (b : Bd p s m c cX1_isAbove 8 RX1 D aC) (hlk : meth.locks = false) (hr : meth.sig.returnType = some .boolean) {Z : State → Prop} (zs : Z s) (zk : ZOK Z (Rg ad)) {rz : Int32} : ∀ n : Nat, ∀ (h : PH) (x0 : Nat) (x3 : Option Nat) (x4 : Option Nat) (x5 : Int32), ∀ (H : Heap) (locs : List Loc) (ls : Array Slot), fX1_isAbove_93  n h x0 x3 x4 x5 = some rz → CE (EX D aC ad h) (Rg ad) s H locs → lv_has ls 8 [(0, .ref (ad x0)), (3, va_rf (Option.map ad x3)), (4, va_rf (Option.map ad x4)), (5, .int x5)] → W p l e (RM 1 23 0 0) s m args below meth c H locs 0 0 (MQ below (PQ (EX D aC ad h) (Rg ad) (some (.int rz))) args s 0 0 (Rg ad)) (F0 m 93 ls []) := by
  intro n
  induction n with
  | zero =>
    intro h x0 x3 x4 x5 H locs ls hf
    have hf : (none : Option (Int32)) = some _ := hf
    cases hf
  | succ n ih =>
    intro h x0 x3 x4 x5 H locs ls hf hE hl
    exact wfX1_isAbove_93F b hlk hr zs zk  ih hf hE hl
def fX1_isAbove_84 (k27 : PH → Nat → Int32 → Int32 → Option Nat → Option Nat → Int32 → Option (Int32)) (h : PH) (x0 : Nat) (x1 : Int32) (x2 : Int32) (x3 : Option Nat) (x4 : Option Nat) (x5 : Int32) : Option (Int32) :=
  oL (x5 + 1) (fun y14 => k27 h x0 x1 x2 x3 x4 y14)
set_option maxHeartbeats 4000000 in
theorem wfX1_isAbove_84 {args : Array Value} (b : Bd p s m c cX1_isAbove 8 RX1 D aC) (hlk : meth.locks = false) (hr : meth.sig.returnType = some .boolean) {Z : State → Prop} (zs : Z s) (zk : ZOK Z (Rg ad)) {rz : Int32} {k27 : PH → Nat → Int32 → Int32 → Option Nat → Option Nat → Int32 → Option (Int32)} (H27 : ∀ (h : PH) (x0 : Nat) (x1 : Int32) (x2 : Int32) (x3 : Option Nat) (x4 : Option Nat) (x5 : Int32), ∀ (H : Heap) (locs : List Loc) (ls : Array Slot), k27 h x0 x1 x2 x3 x4 x5 = some rz → CE (EX D aC ad h) (Rg ad) s H locs → lv_has ls 8 [(0, .ref (ad x0)), (1, .int x1), (2, .int x2), (3, va_rf (Option.map ad x3)), (4, va_rf (Option.map ad x4)), (5, .int x5)] → W p l e (RM 1 23 0 0) s m args below meth c H locs 0 0 (MQ below (PQ (EX D aC ad h) (Rg ad) (some (.int rz))) args s 0 0 (Rg ad)) (F0 m 27 ls [])) {h : PH} {x0 : Nat} {x1 : Int32} {x2 : Int32} {x3 : Option Nat} {x4 : Option Nat} {x5 : Int32}  {H : Heap} {locs : List Loc} {ls : Array Slot} (hf : fX1_isAbove_84 k27 h x0 x1 x2 x3 x4 x5 = some rz) (hE : CE (EX D aC ad h) (Rg ad) s H locs) (hl : lv_has ls 8 [(0, .ref (ad x0)), (1, .int x1), (2, .int x2), (3, va_rf (Option.map ad x3)), (4, va_rf (Option.map ad x4)), (5, .int x5)]) : W p l e (RM 1 23 0 0) s m args below meth c H locs 0 0 (MQ below (PQ (EX D aC ad h) (Rg ad) (some (.int rz))) args s 0 0 (Rg ad)) (F0 m 84 ls []) := by
  unfold fX1_isAbove_84 at hf
  obtain ⟨y14, ey14, hf⟩ := oL_s hf
  refine lv_iinc (v := y14) (lv' := [(5, .int y14), (0, .ref (ad x0)), (1, .int x1), (2, .int x2), (3, va_rf (Option.map ad x3)), (4, va_rf (Option.map ad x4))]) b.1 b.2.1 dX1_isAbove_84 hl (k := 5) rfl (by rw [ey14]; rfl) (by decide) (by cases x4 <;> rfl) (fun ls hl => ?_)
  refine lv_goto (tgt := 27) b.1 b.2.1 dX1_isAbove_87 (by decide) ?_
  exact H27 h x0 x1 x2 x3 x4 y14 _ _ _ hf hE (lv_sub hl [1, 2, 3, 4, 5, 0] rfl)
def fX1_isAbove_60 (k27 : PH → Nat → Int32 → Int32 → Option Nat → Option Nat → Int32 → Option (Int32)) (h : PH) (x0 : Nat) (x1 : Int32) (x2 : Int32) (x3 : Option Nat) (x4 : Option Nat) (x5 : Int32) : Option (Int32) :=
  oC (decide (hT h x0 = 2)) (oN (hR h 137 x0) (fun a16 => oC (decide (hT h a16 = 101)) (oC (ix x5 (hN h a16)) (if (hA h a16 (Int32.toNatClampNeg x5)) = x2 then (oN (hR h 138 x0) (fun a20 => oC (decide (hT h a20 = 101)) (oC (ix x5 (hN h a20)) (if (hA h a20 (Int32.toNatClampNeg x5)) = x1 then (some (0)) else (fX1_isAbove_84 k27 h x0 x1 x2 x3 x4 x5))))) else (fX1_isAbove_84 k27 h x0 x1 x2 x3 x4 x5)))))
set_option maxHeartbeats 4000000 in
theorem wfX1_isAbove_60 {args : Array Value} (b : Bd p s m c cX1_isAbove 8 RX1 D aC) (hlk : meth.locks = false) (hr : meth.sig.returnType = some .boolean) {Z : State → Prop} (zs : Z s) (zk : ZOK Z (Rg ad)) {rz : Int32} {k27 : PH → Nat → Int32 → Int32 → Option Nat → Option Nat → Int32 → Option (Int32)} (H27 : ∀ (h : PH) (x0 : Nat) (x1 : Int32) (x2 : Int32) (x3 : Option Nat) (x4 : Option Nat) (x5 : Int32), ∀ (H : Heap) (locs : List Loc) (ls : Array Slot), k27 h x0 x1 x2 x3 x4 x5 = some rz → CE (EX D aC ad h) (Rg ad) s H locs → lv_has ls 8 [(0, .ref (ad x0)), (1, .int x1), (2, .int x2), (3, va_rf (Option.map ad x3)), (4, va_rf (Option.map ad x4)), (5, .int x5)] → W p l e (RM 1 23 0 0) s m args below meth c H locs 0 0 (MQ below (PQ (EX D aC ad h) (Rg ad) (some (.int rz))) args s 0 0 (Rg ad)) (F0 m 27 ls [])) {h : PH} {x0 : Nat} {x1 : Int32} {x2 : Int32} {x3 : Option Nat} {x4 : Option Nat} {x5 : Int32}  {H : Heap} {locs : List Loc} {ls : Array Slot} (hf : fX1_isAbove_60 k27 h x0 x1 x2 x3 x4 x5 = some rz) (hE : CE (EX D aC ad h) (Rg ad) s H locs) (hl : lv_has ls 8 [(0, .ref (ad x0)), (1, .int x1), (2, .int x2), (3, va_rf (Option.map ad x3)), (4, va_rf (Option.map ad x4)), (5, .int x5)]) : W p l e (RM 1 23 0 0) s m args below meth c H locs 0 0 (MQ below (PQ (EX D aC ad h) (Rg ad) (some (.int rz))) args s 0 0 (Rg ad)) (F0 m 60 ls []) := by
  unfold fX1_isAbove_60 at hf
  refine lv_aload_n b.1 b.2.1 dX1_isAbove_60 rfl (lv_at hl 0 rfl) ?_
  obtain ⟨t15, hf⟩ := oC_s hf
  have t15 := of_decide_eq_true t15
  refine gX1_48 (x := (some x0)) b hE rfl t15 dX1_isAbove_61 ?_
  refine lv_iload b.1 b.2.1 dX1_isAbove_64 (lv_at hl 5 rfl) ?_
  obtain ⟨a16, ea16, hf⟩ := oN_s hf
  obtain ⟨t17, hf⟩ := oC_s hf
  have t17 := of_decide_eq_true t17
  obtain ⟨g18, hf⟩ := oC_s hf
  refine q_iald (x := (hR h 137 x0)) b hE ea16 t17 g18 dX1_isAbove_66 ?_
  refine lv_iload_n b.1 b.2.1 dX1_isAbove_67 rfl (lv_at hl 2 rfl) ?_
  refine lv_icmp_ne (tgt := 84) b.1 b.2.1 dX1_isAbove_68 (by decide) (fun c19 => ?_) (fun c19 => ?_)
  · have hf := oI_f c19 hf
    exact wfX1_isAbove_84 b hlk hr zs zk H27 hf hE (lv_sub hl [0, 1, 2, 3, 4, 5] rfl)
  · have hf := oI_t c19 hf
    refine lv_aload_n b.1 b.2.1 dX1_isAbove_71 rfl (lv_at hl 0 rfl) ?_
    refine gX1_51 (x := (some x0)) b hE rfl t15 dX1_isAbove_72 ?_
    refine lv_iload b.1 b.2.1 dX1_isAbove_75 (lv_at hl 5 rfl) ?_
    obtain ⟨a20, ea20, hf⟩ := oN_s hf
    obtain ⟨t21, hf⟩ := oC_s hf
    have t21 := of_decide_eq_true t21
    obtain ⟨g22, hf⟩ := oC_s hf
    refine q_iald (x := (hR h 138 x0)) b hE ea20 t21 g22 dX1_isAbove_77 ?_
    refine lv_iload_n b.1 b.2.1 dX1_isAbove_78 rfl (lv_at hl 1 rfl) ?_
    refine lv_icmp_ne (tgt := 84) b.1 b.2.1 dX1_isAbove_79 (by decide) (fun c23 => ?_) (fun c23 => ?_)
    · have hf := oI_f c23 hf
      exact wfX1_isAbove_84 b hlk hr zs zk H27 hf hE (lv_sub hl [0, 1, 2, 3, 4, 5] rfl)
    · have hf := oI_t c23 hf
      refine lv_iconst (v := 0) b.1 b.2.1 dX1_isAbove_82 (by decide) ?_
      cases hf
      exact k_zret b hlk hr (by decide) hE (Nat.le_refl _) (Nat.le_refl _) dX1_isAbove_83
def fX1_isAbove_27F (k27 : PH → Nat → Int32 → Int32 → Option Nat → Option Nat → Int32 → Option (Int32)) (h : PH) (x0 : Nat) (x1 : Int32) (x2 : Int32) (x3 : Option Nat) (x4 : Option Nat) (x5 : Int32) : Option (Int32) :=
  oC (decide (hT h x0 = 2)) (if (hI h 139 x0) ≤ x5 then (fX1_isAbove_93  FU h x0 x3 x4 0) else (oN (hR h 137 x0) (fun a26 => oC (decide (hT h a26 = 101)) (oC (ix x5 (hN h a26)) (if (hA h a26 (Int32.toNatClampNeg x5)) = x1 then (oN (hR h 138 x0) (fun a30 => oC (decide (hT h a30 = 101)) (oC (ix x5 (hN h a30)) (if (hA h a30 (Int32.toNatClampNeg x5)) = x2 then (some (1)) else (fX1_isAbove_60 k27 h x0 x1 x2 x3 x4 x5))))) else (fX1_isAbove_60 k27 h x0 x1 x2 x3 x4 x5))))))
set_option maxHeartbeats 4000000 in
theorem wfX1_isAbove_27F {args : Array Value} (b : Bd p s m c cX1_isAbove 8 RX1 D aC) (hlk : meth.locks = false) (hr : meth.sig.returnType = some .boolean) {Z : State → Prop} (zs : Z s) (zk : ZOK Z (Rg ad)) {rz : Int32} {k27 : PH → Nat → Int32 → Int32 → Option Nat → Option Nat → Int32 → Option (Int32)} (H27 : ∀ (h : PH) (x0 : Nat) (x1 : Int32) (x2 : Int32) (x3 : Option Nat) (x4 : Option Nat) (x5 : Int32), ∀ (H : Heap) (locs : List Loc) (ls : Array Slot), k27 h x0 x1 x2 x3 x4 x5 = some rz → CE (EX D aC ad h) (Rg ad) s H locs → lv_has ls 8 [(0, .ref (ad x0)), (1, .int x1), (2, .int x2), (3, va_rf (Option.map ad x3)), (4, va_rf (Option.map ad x4)), (5, .int x5)] → W p l e (RM 1 23 0 0) s m args below meth c H locs 0 0 (MQ below (PQ (EX D aC ad h) (Rg ad) (some (.int rz))) args s 0 0 (Rg ad)) (F0 m 27 ls [])) {h : PH} {x0 : Nat} {x1 : Int32} {x2 : Int32} {x3 : Option Nat} {x4 : Option Nat} {x5 : Int32}  {H : Heap} {locs : List Loc} {ls : Array Slot} (hf : fX1_isAbove_27F k27 h x0 x1 x2 x3 x4 x5 = some rz) (hE : CE (EX D aC ad h) (Rg ad) s H locs) (hl : lv_has ls 8 [(0, .ref (ad x0)), (1, .int x1), (2, .int x2), (3, va_rf (Option.map ad x3)), (4, va_rf (Option.map ad x4)), (5, .int x5)]) : W p l e (RM 1 23 0 0) s m args below meth c H locs 0 0 (MQ below (PQ (EX D aC ad h) (Rg ad) (some (.int rz))) args s 0 0 (Rg ad)) (F0 m 27 ls []) := by
  unfold fX1_isAbove_27F at hf
  refine lv_iload b.1 b.2.1 dX1_isAbove_27 (lv_at hl 5 rfl) ?_
  refine lv_aload_n b.1 b.2.1 dX1_isAbove_29 rfl (lv_at hl 0 rfl) ?_
  obtain ⟨t24, hf⟩ := oC_s hf
  have t24 := of_decide_eq_true t24
  refine gX1_64 (x := (some x0)) b hE rfl t24 dX1_isAbove_30 ?_
  refine lv_icmp_ge (tgt := 90) b.1 b.2.1 dX1_isAbove_33 (by decide) (fun c25 => ?_) (fun c25 => ?_)
  · have hf := oI_t c25 hf
    refine lv_iconst (v := 0) b.1 b.2.1 dX1_isAbove_90 (by decide) ?_
    refine lv_istore (lv' := [(5, .int 0), (0, .ref (ad x0)), (1, .int x1), (2, .int x2), (3, va_rf (Option.map ad x3)), (4, va_rf (Option.map ad x4))]) b.1 b.2.1 dX1_isAbove_91 hl (by decide) (by cases x4 <;> rfl) (fun ls hl => ?_)
    have hl := lv_sub (l' := [(5, .int 0), (0, .ref (ad x0)), (3, va_rf (Option.map ad x3)), (4, va_rf (Option.map ad x4))]) hl [0, 1, 4, 5] rfl
    exact wfX1_isAbove_93 b hlk hr zs zk  FU h x0 x3 x4 0 _ _ _ hf hE (lv_sub hl [1, 2, 3, 0] rfl)
  · have hf := oI_f c25 hf
    refine lv_aload_n b.1 b.2.1 dX1_isAbove_36 rfl (lv_at hl 0 rfl) ?_
    refine gX1_48 (x := (some x0)) b hE rfl t24 dX1_isAbove_37 ?_
    refine lv_iload b.1 b.2.1 dX1_isAbove_40 (lv_at hl 5 rfl) ?_
    obtain ⟨a26, ea26, hf⟩ := oN_s hf
    obtain ⟨t27, hf⟩ := oC_s hf
    have t27 := of_decide_eq_true t27
    obtain ⟨g28, hf⟩ := oC_s hf
    refine q_iald (x := (hR h 137 x0)) b hE ea26 t27 g28 dX1_isAbove_42 ?_
    refine lv_iload_n b.1 b.2.1 dX1_isAbove_43 rfl (lv_at hl 1 rfl) ?_
    refine lv_icmp_ne (tgt := 60) b.1 b.2.1 dX1_isAbove_44 (by decide) (fun c29 => ?_) (fun c29 => ?_)
    · have hf := oI_f c29 hf
      exact wfX1_isAbove_60 b hlk hr zs zk H27 hf hE (lv_sub hl [0, 1, 2, 3, 4, 5] rfl)
    · have hf := oI_t c29 hf
      refine lv_aload_n b.1 b.2.1 dX1_isAbove_47 rfl (lv_at hl 0 rfl) ?_
      refine gX1_51 (x := (some x0)) b hE rfl t24 dX1_isAbove_48 ?_
      refine lv_iload b.1 b.2.1 dX1_isAbove_51 (lv_at hl 5 rfl) ?_
      obtain ⟨a30, ea30, hf⟩ := oN_s hf
      obtain ⟨t31, hf⟩ := oC_s hf
      have t31 := of_decide_eq_true t31
      obtain ⟨g32, hf⟩ := oC_s hf
      refine q_iald (x := (hR h 138 x0)) b hE ea30 t31 g32 dX1_isAbove_53 ?_
      refine lv_iload_n b.1 b.2.1 dX1_isAbove_54 rfl (lv_at hl 2 rfl) ?_
      refine lv_icmp_ne (tgt := 60) b.1 b.2.1 dX1_isAbove_55 (by decide) (fun c33 => ?_) (fun c33 => ?_)
      · have hf := oI_f c33 hf
        exact wfX1_isAbove_60 b hlk hr zs zk H27 hf hE (lv_sub hl [0, 1, 2, 3, 4, 5] rfl)
      · have hf := oI_t c33 hf
        refine lv_iconst (v := 1) b.1 b.2.1 dX1_isAbove_58 (by decide) ?_
        cases hf
        exact k_zret b hlk hr (by decide) hE (Nat.le_refl _) (Nat.le_refl _) dX1_isAbove_59
def fX1_isAbove_27  : Nat → PH → Nat → Int32 → Int32 → Option Nat → Option Nat → Int32 → Option (Int32)
  | 0 => fun _ _ _ _ _ _ _ => none
  | n + 1 => fX1_isAbove_27F  (fX1_isAbove_27  n)
set_option maxHeartbeats 4000000 in
theorem wfX1_isAbove_27 {args : Array Value} (b : Bd p s m c cX1_isAbove 8 RX1 D aC) (hlk : meth.locks = false) (hr : meth.sig.returnType = some .boolean) {Z : State → Prop} (zs : Z s) (zk : ZOK Z (Rg ad)) {rz : Int32} : ∀ n : Nat, ∀ (h : PH) (x0 : Nat) (x1 : Int32) (x2 : Int32) (x3 : Option Nat) (x4 : Option Nat) (x5 : Int32), ∀ (H : Heap) (locs : List Loc) (ls : Array Slot), fX1_isAbove_27  n h x0 x1 x2 x3 x4 x5 = some rz → CE (EX D aC ad h) (Rg ad) s H locs → lv_has ls 8 [(0, .ref (ad x0)), (1, .int x1), (2, .int x2), (3, va_rf (Option.map ad x3)), (4, va_rf (Option.map ad x4)), (5, .int x5)] → W p l e (RM 1 23 0 0) s m args below meth c H locs 0 0 (MQ below (PQ (EX D aC ad h) (Rg ad) (some (.int rz))) args s 0 0 (Rg ad)) (F0 m 27 ls []) := by
  intro n
  induction n with
  | zero =>
    intro h x0 x1 x2 x3 x4 x5 H locs ls hf
    have hf : (none : Option (Int32)) = some _ := hf
    cases hf
  | succ n ih =>
    intro h x0 x1 x2 x3 x4 x5 H locs ls hf hE hl
    exact wfX1_isAbove_27F b hlk hr zs zk  ih hf hE hl
def fX1_isAbove_0  (h : PH) (x0 : Nat) (x1 : Int32) (x2 : Int32) : Option (Int32) :=
  oC (decide (hT h x0 = 2)) (oB (fX1_ruleAt h x0 x1) (fun r36 => oB (fX1_ruleAt h x0 x2) (fun r38 => if r36 = none then (some (0)) else (if r38 = none then (some (0)) else (fX1_isAbove_27  FU h x0 x1 x2 r36 r38 0)))))
set_option maxHeartbeats 4000000 in
theorem wfX1_isAbove_0 {args : Array Value} (b : Bd p s m c cX1_isAbove 8 RX1 D aC) (hlk : meth.locks = false) (hr : meth.sig.returnType = some .boolean) {Z : State → Prop} (zs : Z s) (zk : ZOK Z (Rg ad)) {rz : Int32} {h : PH} {x0 : Nat} {x1 : Int32} {x2 : Int32}  {H : Heap} {locs : List Loc} {ls : Array Slot} (hf : fX1_isAbove_0 h x0 x1 x2 = some rz) (hE : CE (EX D aC ad h) (Rg ad) s H locs) (hl : lv_has ls 8 [(0, .ref (ad x0)), (1, .int x1), (2, .int x2)]) : W p l e (RM 1 23 0 0) s m args below meth c H locs 0 0 (MQ below (PQ (EX D aC ad h) (Rg ad) (some (.int rz))) args s 0 0 (Rg ad)) (F0 m 0 ls []) := by
  unfold fX1_isAbove_0 at hf
  refine lv_aload_n b.1 b.2.1 dX1_isAbove_0 rfl (lv_at hl 0 rfl) ?_
  refine lv_iload_n b.1 b.2.1 dX1_isAbove_1 rfl (lv_at hl 1 rfl) ?_
  obtain ⟨t34, hf⟩ := oC_s hf
  have t34 := of_decide_eq_true t34
  obtain ⟨r36, hc35, hf⟩ := oB_s hf
  refine k_callV0 (C := RX1) b zs zk hE (CX1_ruleAt l D aC ad zk hc35) mc_X1_ruleAt (in3 175 rfl rfl) mi_X1_ruleAt ms_X1_ruleAt ini_RX1 ok_X1_ruleAt (x_recv b hE (ci := 1) rfl (by decide) t34) ⟨Nat.le_of_ble_eq_true rfl, Nat.le_of_ble_eq_true rfl⟩ rfl hl.1 rfl (k_room _ (by exact Nat.le_of_ble_eq_true rfl)) ⟨Nat.le_refl _, Nat.le_refl _⟩ dX1_isAbove_2 (fun H locs hE => ?_)
  refine k_astore_n (x := Option.map ad r36) (lv' := [(3, va_rf (Option.map ad r36)), (0, .ref (ad x0)), (1, .int x1), (2, .int x2)]) b dX1_isAbove_5 rfl hl (by decide) rfl (fun ls hl => ?_)
  refine lv_aload_n b.1 b.2.1 dX1_isAbove_6 rfl (lv_at hl 1 rfl) ?_
  refine lv_iload_n b.1 b.2.1 dX1_isAbove_7 rfl (lv_at hl 3 rfl) ?_
  obtain ⟨r38, hc37, hf⟩ := oB_s hf
  refine k_callV0 (C := RX1) b zs zk hE (CX1_ruleAt l D aC ad zk hc37) mc_X1_ruleAt (in3 175 rfl rfl) mi_X1_ruleAt ms_X1_ruleAt ini_RX1 ok_X1_ruleAt (x_recv b hE (ci := 1) rfl (by decide) t34) ⟨Nat.le_of_ble_eq_true rfl, Nat.le_of_ble_eq_true rfl⟩ rfl hl.1 rfl (k_room _ (by exact Nat.le_of_ble_eq_true rfl)) ⟨Nat.le_refl _, Nat.le_refl _⟩ dX1_isAbove_8 (fun H locs hE => ?_)
  refine k_astore (x := Option.map ad r38) (lv' := [(4, va_rf (Option.map ad r38)), (3, va_rf (Option.map ad r36)), (0, .ref (ad x0)), (1, .int x1), (2, .int x2)]) b dX1_isAbove_11 hl (by decide) (by cases r36 <;> rfl) (fun ls hl => ?_)
  refine k_aload_n (x := Option.map ad r36) b dX1_isAbove_13 rfl (lv_at hl 1 rfl) ?_
  refine k_ifnull (x := Option.map ad r36) b dX1_isAbove_14 (tgt := 22) (by decide) (fun c39 => ?_) (fun c39 => ?_)
  · have hf := oI_t (Option.map_eq_none_iff.mp c39) hf
    refine lv_iconst (v := 0) b.1 b.2.1 dX1_isAbove_22 (by decide) ?_
    cases hf
    exact k_zret b hlk hr (by decide) hE (Nat.le_refl _) (Nat.le_refl _) dX1_isAbove_23
  · have hf := oI_f (fun z => c39 (Option.map_eq_none_iff.mpr z)) hf
    refine k_aload (x := Option.map ad r38) b dX1_isAbove_17 (lv_at hl 0 rfl) ?_
    refine k_ifnonnull (x := Option.map ad r38) b dX1_isAbove_19 (tgt := 24) (by decide) (fun c40 => ?_) (fun c40 => ?_)
    · have hf := oI_f (fun z => c40 (Option.map_eq_none_iff.mpr z)) hf
      refine lv_iconst (v := 0) b.1 b.2.1 dX1_isAbove_24 (by decide) ?_
      refine lv_istore (lv' := [(5, .int 0), (4, va_rf (Option.map ad r38)), (3, va_rf (Option.map ad r36)), (0, .ref (ad x0)), (1, .int x1), (2, .int x2)]) b.1 b.2.1 dX1_isAbove_25 hl (by decide) (by cases r38 <;> rfl) (fun ls hl => ?_)
      exact wfX1_isAbove_27 b hlk hr zs zk  FU h x0 x1 x2 r36 r38 0 _ _ _ hf hE (lv_sub hl [3, 4, 5, 2, 1, 0] rfl)
    · have hf := oI_t (Option.map_eq_none_iff.mp c40) hf
      refine lv_iconst (v := 0) b.1 b.2.1 dX1_isAbove_22 (by decide) ?_
      cases hf
      exact k_zret b hlk hr (by decide) hE (Nat.le_refl _) (Nat.le_refl _) dX1_isAbove_23
def fX1_isAbove (h : PH) (x0 : Nat) (x1 : Int32) (x2 : Int32) : Option (Int32) := fX1_isAbove_0 h x0 x1 x2
set_option maxHeartbeats 4000000 in
theorem CX1_isAbove (l : Launch) (D : va_G) (aC : Nat → ClassId) (ad : Nat → Nat) {Z : State → Prop} (zk : ZOK Z (Rg ad)) {h : PH} {x0 : Nat} {x1 : Int32} {x2 : Int32} {rz : Int32} (hf : fX1_isAbove h x0 x1 x2 = some rz) : CM l D aC Z yX1_isAbove cX1_isAbove 8 (some .boolean) 1 23 0 0 (EX D aC ad h) [.ref (ad x0), .int x1, .int x2] (EX D aC ad h) (some (.int rz)) (Rg ad) := by
  refine CM.of rfl ?_
  intro p e s m below meth c b hr hlk hin2 zs hE
  refine k_ent (Nat.le_of_ble_eq_true rfl) (fun ls hl => ?_)
  exact wfX1_isAbove_0 b hlk hr zs zk hf hE (lv_sub hl [0, 1, 2] rfl)
theorem dX1_isInForce_0 : decode cX1_isInForce 0 = .ok (.aload_n 0, 1) := by decide +kernel
theorem dX1_isInForce_1 : decode cX1_isInForce 1 = .ok (.aload_n 1, 1) := by decide +kernel
theorem dX1_isInForce_2 : decode cX1_isInForce 2 = .ok (.getfield 77, 3) := by decide +kernel
theorem dX1_isInForce_5 : decode cX1_isInForce 5 = .ok (.iconst 3, 1) := by decide +kernel
theorem dX1_isInForce_6 : decode cX1_isInForce 6 = .ok (.invokevirtual 94, 3) := by decide +kernel
theorem dX1_isInForce_9 : decode cX1_isInForce 9 = .ok (.istore 4, 2) := by decide +kernel
theorem dX1_isInForce_11 : decode cX1_isInForce 11 = .ok (.aload_n 0, 1) := by decide +kernel
theorem dX1_isInForce_12 : decode cX1_isInForce 12 = .ok (.aload_n 1, 1) := by decide +kernel
theorem dX1_isInForce_13 : decode cX1_isInForce 13 = .ok (.getfield 77, 3) := by decide +kernel
theorem dX1_isInForce_16 : decode cX1_isInForce 16 = .ok (.iconst 1, 1) := by decide +kernel
theorem dX1_isInForce_17 : decode cX1_isInForce 17 = .ok (.invokevirtual 94, 3) := by decide +kernel
theorem dX1_isInForce_20 : decode cX1_isInForce 20 = .ok (.iload_n 2, 1) := by decide +kernel
theorem dX1_isInForce_21 : decode cX1_isInForce 21 = .ok (.if_icmp .gt 32, 3) := by decide +kernel
theorem dX1_isInForce_24 : decode cX1_isInForce 24 = .ok (.aload_n 0, 1) := by decide +kernel
theorem dX1_isInForce_25 : decode cX1_isInForce 25 = .ok (.aload_n 1, 1) := by decide +kernel
theorem dX1_isInForce_26 : decode cX1_isInForce 26 = .ok (.getfield 77, 3) := by decide +kernel
theorem dX1_isInForce_29 : decode cX1_isInForce 29 = .ok (.iconst 2, 1) := by decide +kernel
theorem dX1_isInForce_30 : decode cX1_isInForce 30 = .ok (.invokevirtual 94, 3) := by decide +kernel
theorem dX1_isInForce_33 : decode cX1_isInForce 33 = .ok (.iload_n 3, 1) := by decide +kernel
theorem dX1_isInForce_34 : decode cX1_isInForce 34 = .ok (.if_icmp .gt 19, 3) := by decide +kernel
theorem dX1_isInForce_37 : decode cX1_isInForce 37 = .ok (.iload 4, 2) := by decide +kernel
theorem dX1_isInForce_39 : decode cX1_isInForce 39 = .ok (.iconst (-1), 1) := by decide +kernel
theorem dX1_isInForce_40 : decode cX1_isInForce 40 = .ok (.if_icmp .eq 9, 3) := by decide +kernel
theorem dX1_isInForce_43 : decode cX1_isInForce 43 = .ok (.iload_n 3, 1) := by decide +kernel
theorem dX1_isInForce_44 : decode cX1_isInForce 44 = .ok (.iload 4, 2) := by decide +kernel
theorem dX1_isInForce_46 : decode cX1_isInForce 46 = .ok (.if_icmp .ge 7, 3) := by decide +kernel
theorem dX1_isInForce_49 : decode cX1_isInForce 49 = .ok (.iconst 1, 1) := by decide +kernel
theorem dX1_isInForce_50 : decode cX1_isInForce 50 = .ok (.goto 4, 3) := by decide +kernel
theorem dX1_isInForce_53 : decode cX1_isInForce 53 = .ok (.iconst 0, 1) := by decide +kernel
theorem dX1_isInForce_54 : decode cX1_isInForce 54 = .ok (.ireturn, 1) := by decide +kernel
def fX1_isInForce_0  (h : PH) (x0 : Nat) (x1 : Option Nat) (x2 : Int32) (x3 : Int32) : Option (Int32) :=
  oN x1 (fun a1 => oC (decide (hT h a1 = 9)) (oC (decide (hT h x0 = 2)) (oB (fX1_lawColumn h x0 (hI h 1024 a1) 3) (fun r5 => oB (fX1_lawColumn h x0 (hI h 1024 a1) 1) (fun r7 => if x2 < r7 then (some (0)) else (oB (fX1_lawColumn h x0 (hI h 1024 a1) 2) (fun r10 => if x3 < r10 then (some (0)) else (if r5 = (-1) then (some (1)) else (if r5 ≤ x3 then (some (0)) else (some (1)))))))))))
set_option maxHeartbeats 4000000 in
theorem wfX1_isInForce_0 {args : Array Value} (b : Bd p s m c cX1_isInForce 5 RX1 D aC) (hlk : meth.locks = false) (hr : meth.sig.returnType = some .boolean) {Z : State → Prop} (zs : Z s) (zk : ZOK Z (Rg ad)) {rz : Int32} {h : PH} {x0 : Nat} {x1 : Option Nat} {x2 : Int32} {x3 : Int32}  {H : Heap} {locs : List Loc} {ls : Array Slot} (hf : fX1_isInForce_0 h x0 x1 x2 x3 = some rz) (hE : CE (EX D aC ad h) (Rg ad) s H locs) (hl : lv_has ls 5 [(0, .ref (ad x0)), (1, va_rf (Option.map ad x1)), (2, .int x2), (3, .int x3)]) : W p l e (RM 1 23 0 0) s m args below meth c H locs 0 0 (MQ below (PQ (EX D aC ad h) (Rg ad) (some (.int rz))) args s 0 0 (Rg ad)) (F0 m 0 ls []) := by
  unfold fX1_isInForce_0 at hf
  refine lv_aload_n b.1 b.2.1 dX1_isInForce_0 rfl (lv_at hl 0 rfl) ?_
  refine k_aload_n (x := Option.map ad x1) b dX1_isInForce_1 rfl (lv_at hl 1 rfl) ?_
  obtain ⟨a1, ea1, hf⟩ := oN_s hf
  obtain ⟨t2, hf⟩ := oC_s hf
  have t2 := of_decide_eq_true t2
  refine gX1_77 (x := x1) b hE ea1 t2 dX1_isInForce_2 ?_
  refine lv_iconst (v := 3) b.1 b.2.1 dX1_isInForce_5 (by decide) ?_
  obtain ⟨t3, hf⟩ := oC_s hf
  have t3 := of_decide_eq_true t3
  obtain ⟨r5, hc4, hf⟩ := oB_s hf
  refine k_callV0 (C := RX1) b zs zk hE (CX1_lawColumn l D aC ad zk hc4) mc_X1_lawColumn (in4 179 rfl rfl) mi_X1_lawColumn ms_X1_lawColumn ini_RX1 ok_X1_lawColumn (x_recv b hE (ci := 1) rfl (by decide) t3) ⟨Nat.le_of_ble_eq_true rfl, Nat.le_of_ble_eq_true rfl⟩ rfl hl.1 rfl (k_room _ (by exact Nat.le_of_ble_eq_true rfl)) ⟨Nat.le_refl _, Nat.le_refl _⟩ dX1_isInForce_6 (fun H locs hE => ?_)
  refine lv_istore (lv' := [(4, .int r5), (0, .ref (ad x0)), (1, va_rf (Option.map ad x1)), (2, .int x2), (3, .int x3)]) b.1 b.2.1 dX1_isInForce_9 hl (by decide) rfl (fun ls hl => ?_)
  refine lv_aload_n b.1 b.2.1 dX1_isInForce_11 rfl (lv_at hl 1 rfl) ?_
  refine k_aload_n (x := Option.map ad x1) b dX1_isInForce_12 rfl (lv_at hl 2 rfl) ?_
  refine gX1_77 (x := x1) b hE ea1 t2 dX1_isInForce_13 ?_
  refine lv_iconst (v := 1) b.1 b.2.1 dX1_isInForce_16 (by decide) ?_
  obtain ⟨r7, hc6, hf⟩ := oB_s hf
  refine k_callV0 (C := RX1) b zs zk hE (CX1_lawColumn l D aC ad zk hc6) mc_X1_lawColumn (in4 179 rfl rfl) mi_X1_lawColumn ms_X1_lawColumn ini_RX1 ok_X1_lawColumn (x_recv b hE (ci := 1) rfl (by decide) t3) ⟨Nat.le_of_ble_eq_true rfl, Nat.le_of_ble_eq_true rfl⟩ rfl hl.1 rfl (k_room _ (by exact Nat.le_of_ble_eq_true rfl)) ⟨Nat.le_refl _, Nat.le_refl _⟩ dX1_isInForce_17 (fun H locs hE => ?_)
  refine lv_iload_n b.1 b.2.1 dX1_isInForce_20 rfl (lv_at hl 3 rfl) ?_
  refine lv_icmp_gt (tgt := 53) b.1 b.2.1 dX1_isInForce_21 (by decide) (fun c8 => ?_) (fun c8 => ?_)
  · have hf := oI_t c8 hf
    refine lv_iconst (v := 0) b.1 b.2.1 dX1_isInForce_53 (by decide) ?_
    cases hf
    exact k_zret b hlk hr (by decide) hE (Nat.le_refl _) (Nat.le_refl _) dX1_isInForce_54
  · have hf := oI_f c8 hf
    refine lv_aload_n b.1 b.2.1 dX1_isInForce_24 rfl (lv_at hl 1 rfl) ?_
    refine k_aload_n (x := Option.map ad x1) b dX1_isInForce_25 rfl (lv_at hl 2 rfl) ?_
    refine gX1_77 (x := x1) b hE ea1 t2 dX1_isInForce_26 ?_
    refine lv_iconst (v := 2) b.1 b.2.1 dX1_isInForce_29 (by decide) ?_
    obtain ⟨r10, hc9, hf⟩ := oB_s hf
    refine k_callV0 (C := RX1) b zs zk hE (CX1_lawColumn l D aC ad zk hc9) mc_X1_lawColumn (in4 179 rfl rfl) mi_X1_lawColumn ms_X1_lawColumn ini_RX1 ok_X1_lawColumn (x_recv b hE (ci := 1) rfl (by decide) t3) ⟨Nat.le_of_ble_eq_true rfl, Nat.le_of_ble_eq_true rfl⟩ rfl hl.1 rfl (k_room _ (by exact Nat.le_of_ble_eq_true rfl)) ⟨Nat.le_refl _, Nat.le_refl _⟩ dX1_isInForce_30 (fun H locs hE => ?_)
    refine lv_iload_n b.1 b.2.1 dX1_isInForce_33 rfl (lv_at hl 4 rfl) ?_
    refine lv_icmp_gt (tgt := 53) b.1 b.2.1 dX1_isInForce_34 (by decide) (fun c11 => ?_) (fun c11 => ?_)
    · have hf := oI_t c11 hf
      refine lv_iconst (v := 0) b.1 b.2.1 dX1_isInForce_53 (by decide) ?_
      cases hf
      exact k_zret b hlk hr (by decide) hE (Nat.le_refl _) (Nat.le_refl _) dX1_isInForce_54
    · have hf := oI_f c11 hf
      refine lv_iload b.1 b.2.1 dX1_isInForce_37 (lv_at hl 0 rfl) ?_
      refine lv_iconst (v := (-1)) b.1 b.2.1 dX1_isInForce_39 (by decide) ?_
      refine lv_icmp_eq (tgt := 49) b.1 b.2.1 dX1_isInForce_40 (by decide) (fun c12 => ?_) (fun c12 => ?_)
      · have hf := oI_t c12 hf
        refine lv_iconst (v := 1) b.1 b.2.1 dX1_isInForce_49 (by decide) ?_
        refine lv_goto (tgt := 54) b.1 b.2.1 dX1_isInForce_50 (by decide) ?_
        cases hf
        exact k_zret b hlk hr (by decide) hE (Nat.le_refl _) (Nat.le_refl _) dX1_isInForce_54
      · have hf := oI_f c12 hf
        refine lv_iload_n b.1 b.2.1 dX1_isInForce_43 rfl (lv_at hl 4 rfl) ?_
        refine lv_iload b.1 b.2.1 dX1_isInForce_44 (lv_at hl 0 rfl) ?_
        refine lv_icmp_ge (tgt := 53) b.1 b.2.1 dX1_isInForce_46 (by decide) (fun c13 => ?_) (fun c13 => ?_)
        · have hf := oI_t c13 hf
          refine lv_iconst (v := 0) b.1 b.2.1 dX1_isInForce_53 (by decide) ?_
          cases hf
          exact k_zret b hlk hr (by decide) hE (Nat.le_refl _) (Nat.le_refl _) dX1_isInForce_54
        · have hf := oI_f c13 hf
          refine lv_iconst (v := 1) b.1 b.2.1 dX1_isInForce_49 (by decide) ?_
          refine lv_goto (tgt := 54) b.1 b.2.1 dX1_isInForce_50 (by decide) ?_
          cases hf
          exact k_zret b hlk hr (by decide) hE (Nat.le_refl _) (Nat.le_refl _) dX1_isInForce_54
def fX1_isInForce (h : PH) (x0 : Nat) (x1 : Option Nat) (x2 : Int32) (x3 : Int32) : Option (Int32) := fX1_isInForce_0 h x0 x1 x2 x3
set_option maxHeartbeats 4000000 in
theorem CX1_isInForce (l : Launch) (D : va_G) (aC : Nat → ClassId) (ad : Nat → Nat) {Z : State → Prop} (zk : ZOK Z (Rg ad)) {h : PH} {x0 : Nat} {x1 : Option Nat} {x2 : Int32} {x3 : Int32} {rz : Int32} (hf : fX1_isInForce h x0 x1 x2 x3 = some rz) : CM l D aC Z yX1_isInForce cX1_isInForce 5 (some .boolean) 1 23 0 0 (EX D aC ad h) [.ref (ad x0), va_rf (Option.map ad x1), .int x2, .int x3] (EX D aC ad h) (some (.int rz)) (Rg ad) := by
  refine CM.of rfl ?_
  intro p e s m below meth c b hr hlk hin2 zs hE
  cases x1 <;> (
    refine k_ent (Nat.le_of_ble_eq_true rfl) (fun ls hl => ?_)
    exact wfX1_isInForce_0 b hlk hr zs zk hf hE (lv_sub hl [0, 1, 2, 3] rfl))
theorem dX1_literalNumber_0 : decode cX1_literalNumber 0 = .ok (.iload_n 0, 1) := by decide +kernel
theorem dX1_literalNumber_1 : decode cX1_literalNumber 1 = .ok (.iconst 5, 1) := by decide +kernel
theorem dX1_literalNumber_2 : decode cX1_literalNumber 2 = .ok (.imul, 1) := by decide +kernel
theorem dX1_literalNumber_3 : decode cX1_literalNumber 3 = .ok (.iload_n 2, 1) := by decide +kernel
theorem dX1_literalNumber_4 : decode cX1_literalNumber 4 = .ok (.iadd, 1) := by decide +kernel
theorem dX1_literalNumber_5 : decode cX1_literalNumber 5 = .ok (.iconst 5, 1) := by decide +kernel
theorem dX1_literalNumber_6 : decode cX1_literalNumber 6 = .ok (.imul, 1) := by decide +kernel
theorem dX1_literalNumber_7 : decode cX1_literalNumber 7 = .ok (.iload_n 3, 1) := by decide +kernel
theorem dX1_literalNumber_8 : decode cX1_literalNumber 8 = .ok (.iadd, 1) := by decide +kernel
theorem dX1_literalNumber_9 : decode cX1_literalNumber 9 = .ok (.iconst 2, 1) := by decide +kernel
theorem dX1_literalNumber_10 : decode cX1_literalNumber 10 = .ok (.imul, 1) := by decide +kernel
theorem dX1_literalNumber_11 : decode cX1_literalNumber 11 = .ok (.iload_n 1, 1) := by decide +kernel
theorem dX1_literalNumber_12 : decode cX1_literalNumber 12 = .ok (.ifCond .eq 7, 3) := by decide +kernel
theorem dX1_literalNumber_15 : decode cX1_literalNumber 15 = .ok (.iconst 0, 1) := by decide +kernel
theorem dX1_literalNumber_16 : decode cX1_literalNumber 16 = .ok (.goto 4, 3) := by decide +kernel
theorem dX1_literalNumber_19 : decode cX1_literalNumber 19 = .ok (.iconst 1, 1) := by decide +kernel
theorem dX1_literalNumber_20 : decode cX1_literalNumber 20 = .ok (.iadd, 1) := by decide +kernel
theorem dX1_literalNumber_21 : decode cX1_literalNumber 21 = .ok (.ireturn, 1) := by decide +kernel
def fX1_literalNumber_20  (s0 : Int32) (s1 : Int32) : Option (Int32) :=
  some ((s1 + s0))
set_option maxHeartbeats 4000000 in
theorem wfX1_literalNumber_20 {E : Heap → Prop} {A : Nat → Prop} {args : Array Value} (b : Bd p s m c cX1_literalNumber 4 RX1 D aC) (hlk : meth.locks = false) (hr : meth.sig.returnType = some .int) {Z : State → Prop} (zs : Z s) (zk : ZOK Z A) {rz : Int32} {s0 : Int32} {s1 : Int32}  {H : Heap} {locs : List Loc} {ls : Array Slot} (hf : fX1_literalNumber_20 s0 s1 = some rz) (hE : CE E A s H locs) (hl : lv_has ls 4 []) : W p l e (RM 0 0 0 0) s m args below meth c H locs 0 0 (MQ below (PQ E A (some (.int rz))) args s 0 0 A) (F0 m 20 ls [.int s0, .int s1]) := by
  unfold fX1_literalNumber_20 at hf
  refine lv_iadd b.1 b.2.1 dX1_literalNumber_20 ?_
  cases hf
  exact k_iret b hlk hr hE (Nat.le_refl _) (Nat.le_refl _) dX1_literalNumber_21
def fX1_literalNumber_0  (x0 : Int32) (x1 : Int32) (x2 : Int32) (x3 : Int32) : Option (Int32) :=
  if x1 = 0 then (fX1_literalNumber_20  1 (((((x0 * 5) + x2) * 5) + x3) * 2)) else (fX1_literalNumber_20  0 (((((x0 * 5) + x2) * 5) + x3) * 2))
set_option maxHeartbeats 4000000 in
theorem wfX1_literalNumber_0 {E : Heap → Prop} {A : Nat → Prop} {args : Array Value} (b : Bd p s m c cX1_literalNumber 4 RX1 D aC) (hlk : meth.locks = false) (hr : meth.sig.returnType = some .int) {Z : State → Prop} (zs : Z s) (zk : ZOK Z A) {rz : Int32} {x0 : Int32} {x1 : Int32} {x2 : Int32} {x3 : Int32}  {H : Heap} {locs : List Loc} {ls : Array Slot} (hf : fX1_literalNumber_0 x0 x1 x2 x3 = some rz) (hE : CE E A s H locs) (hl : lv_has ls 4 [(0, .int x0), (1, .int x1), (2, .int x2), (3, .int x3)]) : W p l e (RM 0 0 0 0) s m args below meth c H locs 0 0 (MQ below (PQ E A (some (.int rz))) args s 0 0 A) (F0 m 0 ls []) := by
  unfold fX1_literalNumber_0 at hf
  refine lv_iload_n b.1 b.2.1 dX1_literalNumber_0 rfl (lv_at hl 0 rfl) ?_
  refine lv_iconst (v := 5) b.1 b.2.1 dX1_literalNumber_1 (by decide) ?_
  refine lv_imul b.1 b.2.1 dX1_literalNumber_2 ?_
  refine lv_iload_n b.1 b.2.1 dX1_literalNumber_3 rfl (lv_at hl 2 rfl) ?_
  refine lv_iadd b.1 b.2.1 dX1_literalNumber_4 ?_
  refine lv_iconst (v := 5) b.1 b.2.1 dX1_literalNumber_5 (by decide) ?_
  refine lv_imul b.1 b.2.1 dX1_literalNumber_6 ?_
  refine lv_iload_n b.1 b.2.1 dX1_literalNumber_7 rfl (lv_at hl 3 rfl) ?_
  refine lv_iadd b.1 b.2.1 dX1_literalNumber_8 ?_
  refine lv_iconst (v := 2) b.1 b.2.1 dX1_literalNumber_9 (by decide) ?_
  refine lv_imul b.1 b.2.1 dX1_literalNumber_10 ?_
  refine lv_iload_n b.1 b.2.1 dX1_literalNumber_11 rfl (lv_at hl 1 rfl) ?_
  refine lv_if_eq (tgt := 19) b.1 b.2.1 dX1_literalNumber_12 (by decide) (fun c1 => ?_) (fun c1 => ?_)
  · have hf := oI_t c1 hf
    refine lv_iconst (v := 1) b.1 b.2.1 dX1_literalNumber_19 (by decide) ?_
    exact wfX1_literalNumber_20 b hlk hr zs zk  hf hE (lv_sub hl [] rfl)
  · have hf := oI_f c1 hf
    refine lv_iconst (v := 0) b.1 b.2.1 dX1_literalNumber_15 (by decide) ?_
    refine lv_goto (tgt := 20) b.1 b.2.1 dX1_literalNumber_16 (by decide) ?_
    exact wfX1_literalNumber_20 b hlk hr zs zk  hf hE (lv_sub hl [] rfl)
def fX1_literalNumber (x0 : Int32) (x1 : Int32) (x2 : Int32) (x3 : Int32) : Option (Int32) := fX1_literalNumber_0 x0 x1 x2 x3
set_option maxHeartbeats 4000000 in
theorem CX1_literalNumber (l : Launch) (D : va_G) (aC : Nat → ClassId) {E : Heap → Prop} {A : Nat → Prop} {Z : State → Prop} (zk : ZOK Z A) {x0 : Int32} {x1 : Int32} {x2 : Int32} {x3 : Int32} {rz : Int32} (hf : fX1_literalNumber x0 x1 x2 x3 = some rz) : CM l D aC Z yX1_literalNumber cX1_literalNumber 4 (some .int) 0 0 0 0 E [.int x0, .int x1, .int x2, .int x3] E (some (.int rz)) A := by
  refine CM.of rfl ?_
  intro p e s m below meth c b hr hlk hin2 zs hE
  refine k_ent (Nat.le_of_ble_eq_true rfl) (fun ls hl => ?_)
  exact wfX1_literalNumber_0 b hlk hr zs zk hf hE (lv_sub hl [0, 1, 2, 3] rfl)
end
