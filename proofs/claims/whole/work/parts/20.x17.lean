section
variable {p : Program} {l : Launch} {e : Env} {s : State} {m : MethodId} {below : List Frame} {meth : Method} {c : Code} {D : va_G} {aC : Nat → ClassId} {ad : Nat → Nat}
theorem dX5_writeLiteral_0 : decode cX5_writeLiteral 0 = .ok (.aload_n 0, 1) := by decide +kernel
theorem dX5_writeLiteral_1 : decode cX5_writeLiteral 1 = .ok (.getfield 15, 3) := by decide +kernel
theorem dX5_writeLiteral_4 : decode cX5_writeLiteral 4 = .ok (.iload_n 1, 1) := by decide +kernel
theorem dX5_writeLiteral_5 : decode cX5_writeLiteral 5 = .ok (.baload, 1) := by decide +kernel
theorem dX5_writeLiteral_6 : decode cX5_writeLiteral 6 = .ok (.iconst 1, 1) := by decide +kernel
theorem dX5_writeLiteral_7 : decode cX5_writeLiteral 7 = .ok (.if_icmp .eq 4, 3) := by decide +kernel
theorem dX5_writeLiteral_10 : decode cX5_writeLiteral 10 = .ok (.return_, 1) := by decide +kernel
theorem dX5_writeLiteral_11 : decode cX5_writeLiteral 11 = .ok (.iload_n 1, 1) := by decide +kernel
theorem dX5_writeLiteral_12 : decode cX5_writeLiteral 12 = .ok (.invokestatic 200, 3) := by decide +kernel
theorem dX5_writeLiteral_15 : decode cX5_writeLiteral 15 = .ok (.istore_n 3, 1) := by decide +kernel
theorem dX5_writeLiteral_16 : decode cX5_writeLiteral 16 = .ok (.iload_n 1, 1) := by decide +kernel
theorem dX5_writeLiteral_17 : decode cX5_writeLiteral 17 = .ok (.iconst 2, 1) := by decide +kernel
theorem dX5_writeLiteral_18 : decode cX5_writeLiteral 18 = .ok (.irem, 1) := by decide +kernel
theorem dX5_writeLiteral_19 : decode cX5_writeLiteral 19 = .ok (.iconst 1, 1) := by decide +kernel
theorem dX5_writeLiteral_20 : decode cX5_writeLiteral 20 = .ok (.if_icmp .ne 9, 3) := by decide +kernel
theorem dX5_writeLiteral_23 : decode cX5_writeLiteral 23 = .ok (.aload_n 2, 1) := by decide +kernel
theorem dX5_writeLiteral_24 : decode cX5_writeLiteral 24 = .ok (.ldc 203, 2) := by decide +kernel
theorem dX5_writeLiteral_26 : decode cX5_writeLiteral 26 = .ok (.invokevirtual 205, 3) := by decide +kernel
theorem dX5_writeLiteral_29 : decode cX5_writeLiteral 29 = .ok (.aload_n 2, 1) := by decide +kernel
theorem dX5_writeLiteral_30 : decode cX5_writeLiteral 30 = .ok (.aload_n 0, 1) := by decide +kernel
theorem dX5_writeLiteral_31 : decode cX5_writeLiteral 31 = .ok (.getfield 50, 3) := by decide +kernel
theorem dX5_writeLiteral_34 : decode cX5_writeLiteral 34 = .ok (.getfield 77, 3) := by decide +kernel
theorem dX5_writeLiteral_37 : decode cX5_writeLiteral 37 = .ok (.iload_n 3, 1) := by decide +kernel
theorem dX5_writeLiteral_38 : decode cX5_writeLiteral 38 = .ok (.invokevirtual 211, 3) := by decide +kernel
theorem dX5_writeLiteral_41 : decode cX5_writeLiteral 41 = .ok (.invokevirtual 215, 3) := by decide +kernel
theorem dX5_writeLiteral_44 : decode cX5_writeLiteral 44 = .ok (.aload_n 0, 1) := by decide +kernel
theorem dX5_writeLiteral_45 : decode cX5_writeLiteral 45 = .ok (.getfield 50, 3) := by decide +kernel
theorem dX5_writeLiteral_48 : decode cX5_writeLiteral 48 = .ok (.iload_n 3, 1) := by decide +kernel
theorem dX5_writeLiteral_49 : decode cX5_writeLiteral 49 = .ok (.invokevirtual 219, 3) := by decide +kernel
theorem dX5_writeLiteral_52 : decode cX5_writeLiteral 52 = .ok (.ifCond .le 69, 3) := by decide +kernel
theorem dX5_writeLiteral_55 : decode cX5_writeLiteral 55 = .ok (.aload_n 2, 1) := by decide +kernel
theorem dX5_writeLiteral_56 : decode cX5_writeLiteral 56 = .ok (.bipush 40, 2) := by decide +kernel
theorem dX5_writeLiteral_58 : decode cX5_writeLiteral 58 = .ok (.invokevirtual 222, 3) := by decide +kernel
theorem dX5_writeLiteral_61 : decode cX5_writeLiteral 61 = .ok (.aload_n 2, 1) := by decide +kernel
theorem dX5_writeLiteral_62 : decode cX5_writeLiteral 62 = .ok (.aload_n 0, 1) := by decide +kernel
theorem dX5_writeLiteral_63 : decode cX5_writeLiteral 63 = .ok (.getfield 50, 3) := by decide +kernel
theorem dX5_writeLiteral_66 : decode cX5_writeLiteral 66 = .ok (.getfield 63, 3) := by decide +kernel
theorem dX5_writeLiteral_69 : decode cX5_writeLiteral 69 = .ok (.iload_n 1, 1) := by decide +kernel
theorem dX5_writeLiteral_70 : decode cX5_writeLiteral 70 = .ok (.invokestatic 226, 3) := by decide +kernel
theorem dX5_writeLiteral_73 : decode cX5_writeLiteral 73 = .ok (.invokevirtual 211, 3) := by decide +kernel
theorem dX5_writeLiteral_76 : decode cX5_writeLiteral 76 = .ok (.invokevirtual 215, 3) := by decide +kernel
theorem dX5_writeLiteral_79 : decode cX5_writeLiteral 79 = .ok (.aload_n 0, 1) := by decide +kernel
theorem dX5_writeLiteral_80 : decode cX5_writeLiteral 80 = .ok (.getfield 50, 3) := by decide +kernel
theorem dX5_writeLiteral_83 : decode cX5_writeLiteral 83 = .ok (.iload_n 3, 1) := by decide +kernel
theorem dX5_writeLiteral_84 : decode cX5_writeLiteral 84 = .ok (.invokevirtual 219, 3) := by decide +kernel
theorem dX5_writeLiteral_87 : decode cX5_writeLiteral 87 = .ok (.iconst 1, 1) := by decide +kernel
theorem dX5_writeLiteral_88 : decode cX5_writeLiteral 88 = .ok (.if_icmp .le 27, 3) := by decide +kernel
theorem dX5_writeLiteral_91 : decode cX5_writeLiteral 91 = .ok (.aload_n 2, 1) := by decide +kernel
theorem dX5_writeLiteral_92 : decode cX5_writeLiteral 92 = .ok (.bipush 44, 2) := by decide +kernel
theorem dX5_writeLiteral_94 : decode cX5_writeLiteral 94 = .ok (.invokevirtual 222, 3) := by decide +kernel
theorem dX5_writeLiteral_97 : decode cX5_writeLiteral 97 = .ok (.aload_n 2, 1) := by decide +kernel
theorem dX5_writeLiteral_98 : decode cX5_writeLiteral 98 = .ok (.aload_n 0, 1) := by decide +kernel
theorem dX5_writeLiteral_99 : decode cX5_writeLiteral 99 = .ok (.getfield 50, 3) := by decide +kernel
theorem dX5_writeLiteral_102 : decode cX5_writeLiteral 102 = .ok (.getfield 63, 3) := by decide +kernel
theorem dX5_writeLiteral_105 : decode cX5_writeLiteral 105 = .ok (.iload_n 1, 1) := by decide +kernel
theorem dX5_writeLiteral_106 : decode cX5_writeLiteral 106 = .ok (.invokestatic 229, 3) := by decide +kernel
theorem dX5_writeLiteral_109 : decode cX5_writeLiteral 109 = .ok (.invokevirtual 211, 3) := by decide +kernel
theorem dX5_writeLiteral_112 : decode cX5_writeLiteral 112 = .ok (.invokevirtual 215, 3) := by decide +kernel
theorem dX5_writeLiteral_115 : decode cX5_writeLiteral 115 = .ok (.aload_n 2, 1) := by decide +kernel
theorem dX5_writeLiteral_116 : decode cX5_writeLiteral 116 = .ok (.bipush 41, 2) := by decide +kernel
theorem dX5_writeLiteral_118 : decode cX5_writeLiteral 118 = .ok (.invokevirtual 222, 3) := by decide +kernel
theorem dX5_writeLiteral_121 : decode cX5_writeLiteral 121 = .ok (.aload_n 0, 1) := by decide +kernel
theorem dX5_writeLiteral_122 : decode cX5_writeLiteral 122 = .ok (.getfield 19, 3) := by decide +kernel
theorem dX5_writeLiteral_125 : decode cX5_writeLiteral 125 = .ok (.iload_n 1, 1) := by decide +kernel
theorem dX5_writeLiteral_126 : decode cX5_writeLiteral 126 = .ok (.iaload, 1) := by decide +kernel
theorem dX5_writeLiteral_127 : decode cX5_writeLiteral 127 = .ok (.bipush (-2), 2) := by decide +kernel
theorem dX5_writeLiteral_129 : decode cX5_writeLiteral 129 = .ok (.if_icmp .ne 12, 3) := by decide +kernel
theorem dX5_writeLiteral_132 : decode cX5_writeLiteral 132 = .ok (.aload_n 2, 1) := by decide +kernel
theorem dX5_writeLiteral_133 : decode cX5_writeLiteral 133 = .ok (.ldc 232, 2) := by decide +kernel
theorem dX5_writeLiteral_135 : decode cX5_writeLiteral 135 = .ok (.invokevirtual 205, 3) := by decide +kernel
theorem dX5_writeLiteral_138 : decode cX5_writeLiteral 138 = .ok (.goto 32, 3) := by decide +kernel
theorem dX5_writeLiteral_141 : decode cX5_writeLiteral 141 = .ok (.aload_n 2, 1) := by decide +kernel
theorem dX5_writeLiteral_142 : decode cX5_writeLiteral 142 = .ok (.ldc 234, 2) := by decide +kernel
theorem dX5_writeLiteral_144 : decode cX5_writeLiteral 144 = .ok (.invokevirtual 205, 3) := by decide +kernel
theorem dX5_writeLiteral_147 : decode cX5_writeLiteral 147 = .ok (.aload_n 2, 1) := by decide +kernel
theorem dX5_writeLiteral_148 : decode cX5_writeLiteral 148 = .ok (.aload_n 0, 1) := by decide +kernel
theorem dX5_writeLiteral_149 : decode cX5_writeLiteral 149 = .ok (.getfield 50, 3) := by decide +kernel
theorem dX5_writeLiteral_152 : decode cX5_writeLiteral 152 = .ok (.getfield 236, 3) := by decide +kernel
theorem dX5_writeLiteral_155 : decode cX5_writeLiteral 155 = .ok (.aload_n 0, 1) := by decide +kernel
theorem dX5_writeLiteral_156 : decode cX5_writeLiteral 156 = .ok (.getfield 19, 3) := by decide +kernel
theorem dX5_writeLiteral_159 : decode cX5_writeLiteral 159 = .ok (.iload_n 1, 1) := by decide +kernel
theorem dX5_writeLiteral_160 : decode cX5_writeLiteral 160 = .ok (.iaload, 1) := by decide +kernel
theorem dX5_writeLiteral_161 : decode cX5_writeLiteral 161 = .ok (.bipush 125, 2) := by decide +kernel
theorem dX5_writeLiteral_163 : decode cX5_writeLiteral 163 = .ok (.idiv, 1) := by decide +kernel
theorem dX5_writeLiteral_164 : decode cX5_writeLiteral 164 = .ok (.invokevirtual 211, 3) := by decide +kernel
theorem dX5_writeLiteral_167 : decode cX5_writeLiteral 167 = .ok (.invokevirtual 215, 3) := by decide +kernel
theorem dX5_writeLiteral_170 : decode cX5_writeLiteral 170 = .ok (.aload_n 2, 1) := by decide +kernel
theorem dX5_writeLiteral_171 : decode cX5_writeLiteral 171 = .ok (.bipush 10, 2) := by decide +kernel
theorem dX5_writeLiteral_173 : decode cX5_writeLiteral 173 = .ok (.invokevirtual 222, 3) := by decide +kernel
theorem dX5_writeLiteral_176 : decode cX5_writeLiteral 176 = .ok (.return_, 1) := by decide +kernel
def fX5_writeLiteral_170  (h : PH) (x2 : Option Nat) : Option (PH × Nat × Nat) :=
  oN x2 (fun a1 => oC (decide (hT h a1 = 1)) (oB3 (fX0_add h a1 10) (fun h4 i5 j6 => oK3 i5 j6 (some (h4, 0, 0)))))
set_option maxHeartbeats 4000000 in
theorem wfX5_writeLiteral_170 {mc ms cells slots : Nat} {args : Array Value} (b : Bd p s m c cX5_writeLiteral 4 RX5 D aC) (hlk : meth.locks = false) (hr : meth.sig.returnType = none) {Z : State → Prop} (zs : Z s) (zk : ZOK Z (Rg ad)) {adK adV : Nat → Nat} (hStr : ∀ U : State, Z U → ZS adK adV (Rg ad) U) {hz : PH} {h : PH} {x2 : Option Nat} {kz : Nat} {mz : Nat}  {H : Heap} {locs : List Loc} {ls : Array Slot} (hf : fX5_writeLiteral_170 h x2 = some (hz, kz, mz)) (hk : cells + kz ≤ mc) (hs : slots + mz ≤ ms) (hE : CE (EX D aC ad h) (Rg ad) s H locs) (hl : lv_has ls 4 [(2, va_rf (Option.map ad x2))]) : W p l e (RM 5 128 mc ms) s m args below meth c H locs cells slots (MQ below (PQ (EX D aC ad hz) (Rg ad) none) args s mc ms (Rg ad)) (F0 m 170 ls []) := by
  unfold fX5_writeLiteral_170 at hf
  refine k_aload_n (x := Option.map ad x2) b dX5_writeLiteral_170 rfl (lv_at hl 0 rfl) ?_
  refine lv_bipush (v := 10) b.1 b.2.1 dX5_writeLiteral_171 (by decide) ?_
  obtain ⟨a1, ea1, hf⟩ := oN_s hf
  obtain ⟨t2, hf⟩ := oC_s hf
  have t2 := of_decide_eq_true t2
  obtain ⟨h4, i5, j6, hc3, hf⟩ := oB3_s hf
  obtain ⟨i7, j8, ei7, ej8, hf⟩ := oK3_s hf
  refine k_stk [.int 10] ea1 ?_
  refine k_callV (C := RX0) b zs zk hE (CX0_add l D aC ad zk hc3) mc_X0_add (in5 141 rfl rfl) mi_X0_add ms_X0_add ini_RX0 ok_X0_add (x_recv b hE (ci := 0) rfl (by decide) t2) ⟨Nat.le_of_ble_eq_true rfl, Nat.le_of_ble_eq_true rfl⟩ rfl hl.1 rfl (k_room _ (by exact Nat.le_of_ble_eq_true rfl)) ⟨le_room hk ei7, le_room hs ej8⟩ dX5_writeLiteral_173 (fun H locs hE => ?_)
  have hk := le_step hk ei7
  have hs := le_step hs ej8
  cases hf
  exact k_vret b hlk hr hE (le_c hk) (le_c hs) dX5_writeLiteral_176
def fX5_writeLiteral_121  (h : PH) (x0 : Nat) (x1 : Int32) (x2 : Option Nat) : Option (PH × Nat × Nat) :=
  oC (decide (hT h x0 = 6)) (oN (hR h 647 x0) (fun a10 => oC (decide (hT h a10 = 101)) (oC (ix x1 (hN h a10)) (if (hA h a10 (Int32.toNatClampNeg x1)) = (-2) then (oN x2 (fun a39 => oC (decide (hT h a39 = 1)) (oB3 (fX0_addText h a39 1) (fun h42 i43 j44 => oK3 i43 j44 (fX5_writeLiteral_170  h42 x2))))) else (oN x2 (fun a14 => oC (decide (hT h a14 = 1)) (oB3 (fX0_addText h a14 2) (fun h17 i18 j19 => oK3 i18 j19 (oC (decide (hT h17 x0 = 6)) (oN (hR h17 640 x0) (fun a23 => oC (decide (hT h17 a23 = 2)) (oN (hR h17 647 x0) (fun a25 => oC (decide (hT h17 a25 = 101)) (oC (ix x1 (hN h17 a25)) (oN (hR h17 132 a23) (fun a28 => oC (decide (hT h17 a28 = 8)) (oB (fX7_nameAt h17 a28 ((hA h17 a25 (Int32.toNatClampNeg x1)) / 125)) (fun r31 => oC (decide (hT h17 a14 = 1)) (oB3 (fX0_addName h17 a14 r31) (fun h34 i35 j36 => oK3 i35 j36 (fX5_writeLiteral_170  h34 x2)))))))))))))))))))))
set_option maxHeartbeats 4000000 in
theorem wfX5_writeLiteral_121 {mc ms cells slots : Nat} {args : Array Value} (b : Bd p s m c cX5_writeLiteral 4 RX5 D aC) (hlk : meth.locks = false) (hr : meth.sig.returnType = none) {Z : State → Prop} (zs : Z s) (zk : ZOK Z (Rg ad)) {adK adV : Nat → Nat} (hStr : ∀ U : State, Z U → ZS adK adV (Rg ad) U) {hz : PH} {h : PH} {x0 : Nat} {x1 : Int32} {x2 : Option Nat} {kz : Nat} {mz : Nat}  {H : Heap} {locs : List Loc} {ls : Array Slot} (hf : fX5_writeLiteral_121 h x0 x1 x2 = some (hz, kz, mz)) (hk : cells + kz ≤ mc) (hs : slots + mz ≤ ms) (hE : CE (EX D aC ad h) (Rg ad) s H locs) (hl : lv_has ls 4 [(0, .ref (ad x0)), (1, .int x1), (2, va_rf (Option.map ad x2))]) : W p l e (RM 5 128 mc ms) s m args below meth c H locs cells slots (MQ below (PQ (EX D aC ad hz) (Rg ad) none) args s mc ms (Rg ad)) (F0 m 121 ls []) := by
  unfold fX5_writeLiteral_121 at hf
  refine lv_aload_n b.1 b.2.1 dX5_writeLiteral_121 rfl (lv_at hl 0 rfl) ?_
  obtain ⟨t9, hf⟩ := oC_s hf
  have t9 := of_decide_eq_true t9
  refine gX5_19 (x := (some x0)) b hE rfl t9 dX5_writeLiteral_122 ?_
  refine lv_iload_n b.1 b.2.1 dX5_writeLiteral_125 rfl (lv_at hl 1 rfl) ?_
  obtain ⟨a10, ea10, hf⟩ := oN_s hf
  obtain ⟨t11, hf⟩ := oC_s hf
  have t11 := of_decide_eq_true t11
  obtain ⟨g12, hf⟩ := oC_s hf
  refine q_iald (x := (hR h 647 x0)) b hE ea10 t11 g12 dX5_writeLiteral_126 ?_
  refine lv_bipush (v := (-2)) b.1 b.2.1 dX5_writeLiteral_127 (by decide) ?_
  refine lv_icmp_ne (tgt := 141) b.1 b.2.1 dX5_writeLiteral_129 (by decide) (fun c13 => ?_) (fun c13 => ?_)
  · have hf := oI_f c13 hf
    refine k_aload_n (x := Option.map ad x2) b dX5_writeLiteral_141 rfl (lv_at hl 2 rfl) ?_
    refine k_ldcS2 b (hStr s zs) dX5_writeLiteral_142 ?_
    obtain ⟨a14, ea14, hf⟩ := oN_s hf
    obtain ⟨t15, hf⟩ := oC_s hf
    have t15 := of_decide_eq_true t15
    obtain ⟨h17, i18, j19, hc16, hf⟩ := oB3_s hf
    obtain ⟨i20, j21, ei20, ej21, hf⟩ := oK3_s hf
    refine k_stk [.ref (adK 2)] ea14 ?_
    refine k_callV (C := RX0) b zs zk hE (CX0_addText l D aC ad zk hStr hc16) mc_X0_addText (in5 127 rfl rfl) mi_X0_addText ms_X0_addText ini_RX0 ok_X0_addText (x_recv b hE (ci := 0) rfl (by decide) t15) ⟨Nat.le_of_ble_eq_true rfl, Nat.le_of_ble_eq_true rfl⟩ rfl hl.1 rfl (k_room _ (by exact Nat.le_of_ble_eq_true rfl)) ⟨le_room hk ei20, le_room hs ej21⟩ dX5_writeLiteral_144 (fun H locs hE => ?_)
    have hk := le_step hk ei20
    have hs := le_step hs ej21
    refine k_aload_n (x := Option.map ad x2) b dX5_writeLiteral_147 rfl (lv_at hl 2 rfl) ?_
    refine lv_aload_n b.1 b.2.1 dX5_writeLiteral_148 rfl (lv_at hl 0 rfl) ?_
    obtain ⟨t22, hf⟩ := oC_s hf
    have t22 := of_decide_eq_true t22
    refine gX5_50 (x := (some x0)) b hE rfl t22 dX5_writeLiteral_149 ?_
    obtain ⟨a23, ea23, hf⟩ := oN_s hf
    obtain ⟨t24, hf⟩ := oC_s hf
    have t24 := of_decide_eq_true t24
    refine gX5_236 (x := (hR h17 640 x0)) b hE ea23 t24 dX5_writeLiteral_152 ?_
    refine lv_aload_n b.1 b.2.1 dX5_writeLiteral_155 rfl (lv_at hl 0 rfl) ?_
    refine gX5_19 (x := (some x0)) b hE rfl t22 dX5_writeLiteral_156 ?_
    refine lv_iload_n b.1 b.2.1 dX5_writeLiteral_159 rfl (lv_at hl 1 rfl) ?_
    obtain ⟨a25, ea25, hf⟩ := oN_s hf
    obtain ⟨t26, hf⟩ := oC_s hf
    have t26 := of_decide_eq_true t26
    obtain ⟨g27, hf⟩ := oC_s hf
    refine q_iald (x := (hR h17 647 x0)) b hE ea25 t26 g27 dX5_writeLiteral_160 ?_
    refine lv_bipush (v := 125) b.1 b.2.1 dX5_writeLiteral_161 (by decide) ?_
    refine lv_idiv b.1 b.2.1 dX5_writeLiteral_163 (by decide) ?_
    obtain ⟨a28, ea28, hf⟩ := oN_s hf
    obtain ⟨t29, hf⟩ := oC_s hf
    have t29 := of_decide_eq_true t29
    obtain ⟨r31, hc30, hf⟩ := oB_s hf
    refine k_stk [.int ((hA h17 a25 (Int32.toNatClampNeg x1)) / 125)] ea28 ?_
    refine k_callV0 (C := RX7) b zs zk hE (CX7_nameAt l D aC ad zk hc30) mc_X7_nameAt (in5 133 rfl rfl) mi_X7_nameAt ms_X7_nameAt ini_RX7 ok_X7_nameAt (x_recv b hE (ci := 7) rfl (by decide) t29) ⟨Nat.le_of_ble_eq_true rfl, Nat.le_of_ble_eq_true rfl⟩ rfl hl.1 rfl (k_room _ (by exact Nat.le_of_ble_eq_true rfl)) ⟨le_0 hk, le_0 hs⟩ dX5_writeLiteral_164 (fun H locs hE => ?_)
    obtain ⟨t32, hf⟩ := oC_s hf
    have t32 := of_decide_eq_true t32
    obtain ⟨h34, i35, j36, hc33, hf⟩ := oB3_s hf
    obtain ⟨i37, j38, ei37, ej38, hf⟩ := oK3_s hf
    refine k_stk [.long r31] ea14 ?_
    refine k_callV (C := RX0) b zs zk hE (CX0_addName l D aC ad zk hc33) mc_X0_addName (in5 137 rfl rfl) mi_X0_addName ms_X0_addName ini_RX0 ok_X0_addName (x_recv b hE (ci := 0) rfl (by decide) t32) ⟨Nat.le_of_ble_eq_true rfl, Nat.le_of_ble_eq_true rfl⟩ rfl hl.1 rfl (k_room _ (by exact Nat.le_of_ble_eq_true rfl)) ⟨le_room hk ei37, le_room hs ej38⟩ dX5_writeLiteral_167 (fun H locs hE => ?_)
    have hk := le_step hk ei37
    have hs := le_step hs ej38
    exact wfX5_writeLiteral_170 b hlk hr zs zk hStr  hf hk hs hE (lv_sub hl [2] rfl)
  · have hf := oI_t c13 hf
    refine k_aload_n (x := Option.map ad x2) b dX5_writeLiteral_132 rfl (lv_at hl 2 rfl) ?_
    refine k_ldcS1 b (hStr s zs) dX5_writeLiteral_133 ?_
    obtain ⟨a39, ea39, hf⟩ := oN_s hf
    obtain ⟨t40, hf⟩ := oC_s hf
    have t40 := of_decide_eq_true t40
    obtain ⟨h42, i43, j44, hc41, hf⟩ := oB3_s hf
    obtain ⟨i45, j46, ei45, ej46, hf⟩ := oK3_s hf
    refine k_stk [.ref (adK 1)] ea39 ?_
    refine k_callV (C := RX0) b zs zk hE (CX0_addText l D aC ad zk hStr hc41) mc_X0_addText (in5 127 rfl rfl) mi_X0_addText ms_X0_addText ini_RX0 ok_X0_addText (x_recv b hE (ci := 0) rfl (by decide) t40) ⟨Nat.le_of_ble_eq_true rfl, Nat.le_of_ble_eq_true rfl⟩ rfl hl.1 rfl (k_room _ (by exact Nat.le_of_ble_eq_true rfl)) ⟨le_room hk ei45, le_room hs ej46⟩ dX5_writeLiteral_135 (fun H locs hE => ?_)
    have hk := le_step hk ei45
    have hs := le_step hs ej46
    refine lv_goto (tgt := 170) b.1 b.2.1 dX5_writeLiteral_138 (by decide) ?_
    exact wfX5_writeLiteral_170 b hlk hr zs zk hStr  hf hk hs hE (lv_sub hl [2] rfl)
def fX5_writeLiteral_115  (h : PH) (x0 : Nat) (x1 : Int32) (x2 : Option Nat) : Option (PH × Nat × Nat) :=
  oN x2 (fun a47 => oC (decide (hT h a47 = 1)) (oB3 (fX0_add h a47 41) (fun h50 i51 j52 => oK3 i51 j52 (fX5_writeLiteral_121  h50 x0 x1 x2))))
set_option maxHeartbeats 4000000 in
theorem wfX5_writeLiteral_115 {mc ms cells slots : Nat} {args : Array Value} (b : Bd p s m c cX5_writeLiteral 4 RX5 D aC) (hlk : meth.locks = false) (hr : meth.sig.returnType = none) {Z : State → Prop} (zs : Z s) (zk : ZOK Z (Rg ad)) {adK adV : Nat → Nat} (hStr : ∀ U : State, Z U → ZS adK adV (Rg ad) U) {hz : PH} {h : PH} {x0 : Nat} {x1 : Int32} {x2 : Option Nat} {kz : Nat} {mz : Nat}  {H : Heap} {locs : List Loc} {ls : Array Slot} (hf : fX5_writeLiteral_115 h x0 x1 x2 = some (hz, kz, mz)) (hk : cells + kz ≤ mc) (hs : slots + mz ≤ ms) (hE : CE (EX D aC ad h) (Rg ad) s H locs) (hl : lv_has ls 4 [(0, .ref (ad x0)), (1, .int x1), (2, va_rf (Option.map ad x2))]) : W p l e (RM 5 128 mc ms) s m args below meth c H locs cells slots (MQ below (PQ (EX D aC ad hz) (Rg ad) none) args s mc ms (Rg ad)) (F0 m 115 ls []) := by
  unfold fX5_writeLiteral_115 at hf
  refine k_aload_n (x := Option.map ad x2) b dX5_writeLiteral_115 rfl (lv_at hl 2 rfl) ?_
  refine lv_bipush (v := 41) b.1 b.2.1 dX5_writeLiteral_116 (by decide) ?_
  obtain ⟨a47, ea47, hf⟩ := oN_s hf
  obtain ⟨t48, hf⟩ := oC_s hf
  have t48 := of_decide_eq_true t48
  obtain ⟨h50, i51, j52, hc49, hf⟩ := oB3_s hf
  obtain ⟨i53, j54, ei53, ej54, hf⟩ := oK3_s hf
  refine k_stk [.int 41] ea47 ?_
  refine k_callV (C := RX0) b zs zk hE (CX0_add l D aC ad zk hc49) mc_X0_add (in5 141 rfl rfl) mi_X0_add ms_X0_add ini_RX0 ok_X0_add (x_recv b hE (ci := 0) rfl (by decide) t48) ⟨Nat.le_of_ble_eq_true rfl, Nat.le_of_ble_eq_true rfl⟩ rfl hl.1 rfl (k_room _ (by exact Nat.le_of_ble_eq_true rfl)) ⟨le_room hk ei53, le_room hs ej54⟩ dX5_writeLiteral_118 (fun H locs hE => ?_)
  have hk := le_step hk ei53
  have hs := le_step hs ej54
  exact wfX5_writeLiteral_121 b hlk hr zs zk hStr  hf hk hs hE (lv_sub hl [0, 1, 2] rfl)
def fX5_writeLiteral_29  (h : PH) (x0 : Nat) (x1 : Int32) (x2 : Option Nat) (x3 : Int32) : Option (PH × Nat × Nat) :=
  oC (decide (hT h x0 = 6)) (oN (hR h 640 x0) (fun a56 => oC (decide (hT h a56 = 2)) (oN (hR h 129 a56) (fun a58 => oC (decide (hT h a58 = 8)) (oB (fX7_nameAt h a58 x3) (fun r61 => oN x2 (fun a62 => oC (decide (hT h a62 = 1)) (oB3 (fX0_addName h a62 r61) (fun h65 i66 j67 => oK3 i66 j67 (oC (decide (hT h65 x0 = 6)) (oN (hR h65 640 x0) (fun a71 => oC (decide (hT h65 a71 = 2)) (oB (fX1_placesOf h65 a71 x3) (fun r74 => if r74 ≤ 0 then (fX5_writeLiteral_121  h65 x0 x1 x2) else (oC (decide (hT h65 a62 = 1)) (oB3 (fX0_add h65 a62 40) (fun h78 i79 j80 => oK3 i79 j80 (oC (decide (hT h78 x0 = 6)) (oN (hR h78 640 x0) (fun a84 => oC (decide (hT h78 a84 = 2)) (oB (fX5_firstOf x1) (fun r87 => oN (hR h78 128 a84) (fun a88 => oC (decide (hT h78 a88 = 8)) (oB (fX7_nameAt h78 a88 r87) (fun r91 => oC (decide (hT h78 a62 = 1)) (oB3 (fX0_addName h78 a62 r91) (fun h94 i95 j96 => oK3 i95 j96 (oC (decide (hT h94 x0 = 6)) (oN (hR h94 640 x0) (fun a100 => oC (decide (hT h94 a100 = 2)) (oB (fX1_placesOf h94 a100 x3) (fun r103 => if r103 ≤ 1 then (fX5_writeLiteral_115  h94 x0 x1 x2) else (oC (decide (hT h94 a62 = 1)) (oB3 (fX0_add h94 a62 44) (fun h107 i108 j109 => oK3 i108 j109 (oC (decide (hT h107 x0 = 6)) (oN (hR h107 640 x0) (fun a113 => oC (decide (hT h107 a113 = 2)) (oB (fX5_secondOf x1) (fun r116 => oN (hR h107 128 a113) (fun a117 => oC (decide (hT h107 a117 = 8)) (oB (fX7_nameAt h107 a117 r116) (fun r120 => oC (decide (hT h107 a62 = 1)) (oB3 (fX0_addName h107 a62 r120) (fun h123 i124 j125 => oK3 i124 j125 (fX5_writeLiteral_115  h123 x0 x1 x2))))))))))))))))))))))))))))))))))))))))))))))
set_option maxHeartbeats 4000000 in
theorem wfX5_writeLiteral_29 {mc ms cells slots : Nat} {args : Array Value} (b : Bd p s m c cX5_writeLiteral 4 RX5 D aC) (hlk : meth.locks = false) (hr : meth.sig.returnType = none) {Z : State → Prop} (zs : Z s) (zk : ZOK Z (Rg ad)) {adK adV : Nat → Nat} (hStr : ∀ U : State, Z U → ZS adK adV (Rg ad) U) {hz : PH} {h : PH} {x0 : Nat} {x1 : Int32} {x2 : Option Nat} {x3 : Int32} {kz : Nat} {mz : Nat}  {H : Heap} {locs : List Loc} {ls : Array Slot} (hf : fX5_writeLiteral_29 h x0 x1 x2 x3 = some (hz, kz, mz)) (hk : cells + kz ≤ mc) (hs : slots + mz ≤ ms) (hE : CE (EX D aC ad h) (Rg ad) s H locs) (hl : lv_has ls 4 [(0, .ref (ad x0)), (1, .int x1), (2, va_rf (Option.map ad x2)), (3, .int x3)]) : W p l e (RM 5 128 mc ms) s m args below meth c H locs cells slots (MQ below (PQ (EX D aC ad hz) (Rg ad) none) args s mc ms (Rg ad)) (F0 m 29 ls []) := by
  unfold fX5_writeLiteral_29 at hf
  refine k_aload_n (x := Option.map ad x2) b dX5_writeLiteral_29 rfl (lv_at hl 2 rfl) ?_
  refine lv_aload_n b.1 b.2.1 dX5_writeLiteral_30 rfl (lv_at hl 0 rfl) ?_
  obtain ⟨t55, hf⟩ := oC_s hf
  have t55 := of_decide_eq_true t55
  refine gX5_50 (x := (some x0)) b hE rfl t55 dX5_writeLiteral_31 ?_
  obtain ⟨a56, ea56, hf⟩ := oN_s hf
  obtain ⟨t57, hf⟩ := oC_s hf
  have t57 := of_decide_eq_true t57
  refine gX5_77 (x := (hR h 640 x0)) b hE ea56 t57 dX5_writeLiteral_34 ?_
  refine lv_iload_n b.1 b.2.1 dX5_writeLiteral_37 rfl (lv_at hl 3 rfl) ?_
  obtain ⟨a58, ea58, hf⟩ := oN_s hf
  obtain ⟨t59, hf⟩ := oC_s hf
  have t59 := of_decide_eq_true t59
  obtain ⟨r61, hc60, hf⟩ := oB_s hf
  refine k_stk [.int x3] ea58 ?_
  refine k_callV0 (C := RX7) b zs zk hE (CX7_nameAt l D aC ad zk hc60) mc_X7_nameAt (in5 133 rfl rfl) mi_X7_nameAt ms_X7_nameAt ini_RX7 ok_X7_nameAt (x_recv b hE (ci := 7) rfl (by decide) t59) ⟨Nat.le_of_ble_eq_true rfl, Nat.le_of_ble_eq_true rfl⟩ rfl hl.1 rfl (k_room _ (by exact Nat.le_of_ble_eq_true rfl)) ⟨le_0 hk, le_0 hs⟩ dX5_writeLiteral_38 (fun H locs hE => ?_)
  obtain ⟨a62, ea62, hf⟩ := oN_s hf
  obtain ⟨t63, hf⟩ := oC_s hf
  have t63 := of_decide_eq_true t63
  obtain ⟨h65, i66, j67, hc64, hf⟩ := oB3_s hf
  obtain ⟨i68, j69, ei68, ej69, hf⟩ := oK3_s hf
  refine k_stk [.long r61] ea62 ?_
  refine k_callV (C := RX0) b zs zk hE (CX0_addName l D aC ad zk hc64) mc_X0_addName (in5 137 rfl rfl) mi_X0_addName ms_X0_addName ini_RX0 ok_X0_addName (x_recv b hE (ci := 0) rfl (by decide) t63) ⟨Nat.le_of_ble_eq_true rfl, Nat.le_of_ble_eq_true rfl⟩ rfl hl.1 rfl (k_room _ (by exact Nat.le_of_ble_eq_true rfl)) ⟨le_room hk ei68, le_room hs ej69⟩ dX5_writeLiteral_41 (fun H locs hE => ?_)
  have hk := le_step hk ei68
  have hs := le_step hs ej69
  refine lv_aload_n b.1 b.2.1 dX5_writeLiteral_44 rfl (lv_at hl 0 rfl) ?_
  obtain ⟨t70, hf⟩ := oC_s hf
  have t70 := of_decide_eq_true t70
  refine gX5_50 (x := (some x0)) b hE rfl t70 dX5_writeLiteral_45 ?_
  refine lv_iload_n b.1 b.2.1 dX5_writeLiteral_48 rfl (lv_at hl 3 rfl) ?_
  obtain ⟨a71, ea71, hf⟩ := oN_s hf
  obtain ⟨t72, hf⟩ := oC_s hf
  have t72 := of_decide_eq_true t72
  obtain ⟨r74, hc73, hf⟩ := oB_s hf
  refine k_stk [.int x3] ea71 ?_
  refine k_callV0 (C := RX1) b zs zk hE (CX1_placesOf l D aC ad zk hc73) mc_X1_placesOf (in4 151 rfl rfl) mi_X1_placesOf ms_X1_placesOf ini_RX1 ok_X1_placesOf (x_recv b hE (ci := 1) rfl (by decide) t72) ⟨Nat.le_of_ble_eq_true rfl, Nat.le_of_ble_eq_true rfl⟩ rfl hl.1 rfl (k_room _ (by exact Nat.le_of_ble_eq_true rfl)) ⟨le_0 hk, le_0 hs⟩ dX5_writeLiteral_49 (fun H locs hE => ?_)
  refine lv_if_le (tgt := 121) b.1 b.2.1 dX5_writeLiteral_52 (by decide) (fun c75 => ?_) (fun c75 => ?_)
  · have hf := oI_t c75 hf
    exact wfX5_writeLiteral_121 b hlk hr zs zk hStr  hf hk hs hE (lv_sub hl [0, 1, 2] rfl)
  · have hf := oI_f c75 hf
    refine k_aload_n (x := Option.map ad x2) b dX5_writeLiteral_55 rfl (lv_at hl 2 rfl) ?_
    refine lv_bipush (v := 40) b.1 b.2.1 dX5_writeLiteral_56 (by decide) ?_
    obtain ⟨t76, hf⟩ := oC_s hf
    have t76 := of_decide_eq_true t76
    obtain ⟨h78, i79, j80, hc77, hf⟩ := oB3_s hf
    obtain ⟨i81, j82, ei81, ej82, hf⟩ := oK3_s hf
    refine k_stk [.int 40] ea62 ?_
    refine k_callV (C := RX0) b zs zk hE (CX0_add l D aC ad zk hc77) mc_X0_add (in5 141 rfl rfl) mi_X0_add ms_X0_add ini_RX0 ok_X0_add (x_recv b hE (ci := 0) rfl (by decide) t76) ⟨Nat.le_of_ble_eq_true rfl, Nat.le_of_ble_eq_true rfl⟩ rfl hl.1 rfl (k_room _ (by exact Nat.le_of_ble_eq_true rfl)) ⟨le_room hk ei81, le_room hs ej82⟩ dX5_writeLiteral_58 (fun H locs hE => ?_)
    have hk := le_step hk ei81
    have hs := le_step hs ej82
    refine k_aload_n (x := Option.map ad x2) b dX5_writeLiteral_61 rfl (lv_at hl 2 rfl) ?_
    refine lv_aload_n b.1 b.2.1 dX5_writeLiteral_62 rfl (lv_at hl 0 rfl) ?_
    obtain ⟨t83, hf⟩ := oC_s hf
    have t83 := of_decide_eq_true t83
    refine gX5_50 (x := (some x0)) b hE rfl t83 dX5_writeLiteral_63 ?_
    obtain ⟨a84, ea84, hf⟩ := oN_s hf
    obtain ⟨t85, hf⟩ := oC_s hf
    have t85 := of_decide_eq_true t85
    refine gX5_63 (x := (hR h78 640 x0)) b hE ea84 t85 dX5_writeLiteral_66 ?_
    refine lv_iload_n b.1 b.2.1 dX5_writeLiteral_69 rfl (lv_at hl 1 rfl) ?_
    obtain ⟨r87, hc86, hf⟩ := oB_s hf
    refine k_callS0 b zs zk hE (CX5_firstOf l D aC zk hc86) mc_X5_firstOf (in4 152 rfl rfl) mt_X5_firstOf ini_RX5 ok_X5_firstOf ⟨Nat.le_of_ble_eq_true rfl, Nat.le_of_ble_eq_true rfl⟩ rfl hl.1 rfl (k_room _ (by exact Nat.le_of_ble_eq_true rfl)) ⟨le_0 hk, le_0 hs⟩ dX5_writeLiteral_70 (fun H locs hE => ?_)
    obtain ⟨a88, ea88, hf⟩ := oN_s hf
    obtain ⟨t89, hf⟩ := oC_s hf
    have t89 := of_decide_eq_true t89
    obtain ⟨r91, hc90, hf⟩ := oB_s hf
    refine k_stk [.int r87] ea88 ?_
    refine k_callV0 (C := RX7) b zs zk hE (CX7_nameAt l D aC ad zk hc90) mc_X7_nameAt (in5 133 rfl rfl) mi_X7_nameAt ms_X7_nameAt ini_RX7 ok_X7_nameAt (x_recv b hE (ci := 7) rfl (by decide) t89) ⟨Nat.le_of_ble_eq_true rfl, Nat.le_of_ble_eq_true rfl⟩ rfl hl.1 rfl (k_room _ (by exact Nat.le_of_ble_eq_true rfl)) ⟨le_0 hk, le_0 hs⟩ dX5_writeLiteral_73 (fun H locs hE => ?_)
    obtain ⟨t92, hf⟩ := oC_s hf
    have t92 := of_decide_eq_true t92
    obtain ⟨h94, i95, j96, hc93, hf⟩ := oB3_s hf
    obtain ⟨i97, j98, ei97, ej98, hf⟩ := oK3_s hf
    refine k_stk [.long r91] ea62 ?_
    refine k_callV (C := RX0) b zs zk hE (CX0_addName l D aC ad zk hc93) mc_X0_addName (in5 137 rfl rfl) mi_X0_addName ms_X0_addName ini_RX0 ok_X0_addName (x_recv b hE (ci := 0) rfl (by decide) t92) ⟨Nat.le_of_ble_eq_true rfl, Nat.le_of_ble_eq_true rfl⟩ rfl hl.1 rfl (k_room _ (by exact Nat.le_of_ble_eq_true rfl)) ⟨le_room hk ei97, le_room hs ej98⟩ dX5_writeLiteral_76 (fun H locs hE => ?_)
    have hk := le_step hk ei97
    have hs := le_step hs ej98
    refine lv_aload_n b.1 b.2.1 dX5_writeLiteral_79 rfl (lv_at hl 0 rfl) ?_
    obtain ⟨t99, hf⟩ := oC_s hf
    have t99 := of_decide_eq_true t99
    refine gX5_50 (x := (some x0)) b hE rfl t99 dX5_writeLiteral_80 ?_
    refine lv_iload_n b.1 b.2.1 dX5_writeLiteral_83 rfl (lv_at hl 3 rfl) ?_
    obtain ⟨a100, ea100, hf⟩ := oN_s hf
    obtain ⟨t101, hf⟩ := oC_s hf
    have t101 := of_decide_eq_true t101
    obtain ⟨r103, hc102, hf⟩ := oB_s hf
    refine k_stk [.int x3] ea100 ?_
    refine k_callV0 (C := RX1) b zs zk hE (CX1_placesOf l D aC ad zk hc102) mc_X1_placesOf (in4 151 rfl rfl) mi_X1_placesOf ms_X1_placesOf ini_RX1 ok_X1_placesOf (x_recv b hE (ci := 1) rfl (by decide) t101) ⟨Nat.le_of_ble_eq_true rfl, Nat.le_of_ble_eq_true rfl⟩ rfl hl.1 rfl (k_room _ (by exact Nat.le_of_ble_eq_true rfl)) ⟨le_0 hk, le_0 hs⟩ dX5_writeLiteral_84 (fun H locs hE => ?_)
    refine lv_iconst (v := 1) b.1 b.2.1 dX5_writeLiteral_87 (by decide) ?_
    refine lv_icmp_le (tgt := 115) b.1 b.2.1 dX5_writeLiteral_88 (by decide) (fun c104 => ?_) (fun c104 => ?_)
    · have hf := oI_t c104 hf
      exact wfX5_writeLiteral_115 b hlk hr zs zk hStr  hf hk hs hE (lv_sub hl [0, 1, 2] rfl)
    · have hf := oI_f c104 hf
      refine k_aload_n (x := Option.map ad x2) b dX5_writeLiteral_91 rfl (lv_at hl 2 rfl) ?_
      refine lv_bipush (v := 44) b.1 b.2.1 dX5_writeLiteral_92 (by decide) ?_
      obtain ⟨t105, hf⟩ := oC_s hf
      have t105 := of_decide_eq_true t105
      obtain ⟨h107, i108, j109, hc106, hf⟩ := oB3_s hf
      obtain ⟨i110, j111, ei110, ej111, hf⟩ := oK3_s hf
      refine k_stk [.int 44] ea62 ?_
      refine k_callV (C := RX0) b zs zk hE (CX0_add l D aC ad zk hc106) mc_X0_add (in5 141 rfl rfl) mi_X0_add ms_X0_add ini_RX0 ok_X0_add (x_recv b hE (ci := 0) rfl (by decide) t105) ⟨Nat.le_of_ble_eq_true rfl, Nat.le_of_ble_eq_true rfl⟩ rfl hl.1 rfl (k_room _ (by exact Nat.le_of_ble_eq_true rfl)) ⟨le_room hk ei110, le_room hs ej111⟩ dX5_writeLiteral_94 (fun H locs hE => ?_)
      have hk := le_step hk ei110
      have hs := le_step hs ej111
      refine k_aload_n (x := Option.map ad x2) b dX5_writeLiteral_97 rfl (lv_at hl 2 rfl) ?_
      refine lv_aload_n b.1 b.2.1 dX5_writeLiteral_98 rfl (lv_at hl 0 rfl) ?_
      obtain ⟨t112, hf⟩ := oC_s hf
      have t112 := of_decide_eq_true t112
      refine gX5_50 (x := (some x0)) b hE rfl t112 dX5_writeLiteral_99 ?_
      obtain ⟨a113, ea113, hf⟩ := oN_s hf
      obtain ⟨t114, hf⟩ := oC_s hf
      have t114 := of_decide_eq_true t114
      refine gX5_63 (x := (hR h107 640 x0)) b hE ea113 t114 dX5_writeLiteral_102 ?_
      refine lv_iload_n b.1 b.2.1 dX5_writeLiteral_105 rfl (lv_at hl 1 rfl) ?_
      obtain ⟨r116, hc115, hf⟩ := oB_s hf
      refine k_callS0 b zs zk hE (CX5_secondOf l D aC zk hc115) mc_X5_secondOf (in4 155 rfl rfl) mt_X5_secondOf ini_RX5 ok_X5_secondOf ⟨Nat.le_of_ble_eq_true rfl, Nat.le_of_ble_eq_true rfl⟩ rfl hl.1 rfl (k_room _ (by exact Nat.le_of_ble_eq_true rfl)) ⟨le_0 hk, le_0 hs⟩ dX5_writeLiteral_106 (fun H locs hE => ?_)
      obtain ⟨a117, ea117, hf⟩ := oN_s hf
      obtain ⟨t118, hf⟩ := oC_s hf
      have t118 := of_decide_eq_true t118
      obtain ⟨r120, hc119, hf⟩ := oB_s hf
      refine k_stk [.int r116] ea117 ?_
      refine k_callV0 (C := RX7) b zs zk hE (CX7_nameAt l D aC ad zk hc119) mc_X7_nameAt (in5 133 rfl rfl) mi_X7_nameAt ms_X7_nameAt ini_RX7 ok_X7_nameAt (x_recv b hE (ci := 7) rfl (by decide) t118) ⟨Nat.le_of_ble_eq_true rfl, Nat.le_of_ble_eq_true rfl⟩ rfl hl.1 rfl (k_room _ (by exact Nat.le_of_ble_eq_true rfl)) ⟨le_0 hk, le_0 hs⟩ dX5_writeLiteral_109 (fun H locs hE => ?_)
      obtain ⟨t121, hf⟩ := oC_s hf
      have t121 := of_decide_eq_true t121
      obtain ⟨h123, i124, j125, hc122, hf⟩ := oB3_s hf
      obtain ⟨i126, j127, ei126, ej127, hf⟩ := oK3_s hf
      refine k_stk [.long r120] ea62 ?_
      refine k_callV (C := RX0) b zs zk hE (CX0_addName l D aC ad zk hc122) mc_X0_addName (in5 137 rfl rfl) mi_X0_addName ms_X0_addName ini_RX0 ok_X0_addName (x_recv b hE (ci := 0) rfl (by decide) t121) ⟨Nat.le_of_ble_eq_true rfl, Nat.le_of_ble_eq_true rfl⟩ rfl hl.1 rfl (k_room _ (by exact Nat.le_of_ble_eq_true rfl)) ⟨le_room hk ei126, le_room hs ej127⟩ dX5_writeLiteral_112 (fun H locs hE => ?_)
      have hk := le_step hk ei126
      have hs := le_step hs ej127
      exact wfX5_writeLiteral_115 b hlk hr zs zk hStr  hf hk hs hE (lv_sub hl [0, 1, 2] rfl)
def fX5_writeLiteral_0  (h : PH) (x0 : Nat) (x1 : Int32) (x2 : Option Nat) : Option (PH × Nat × Nat) :=
  oC (decide (hT h x0 = 6)) (oN (hR h 646 x0) (fun a129 => oC (decide (hT h a129 = 100)) (oC (ix x1 (hN h a129)) (if (hA h a129 (Int32.toNatClampNeg x1)) = 1 then (oB (fX5_wordOf x1) (fun r134 => if (x1 - x1 / 2 * 2) = 1 then (oN x2 (fun a136 => oC (decide (hT h a136 = 1)) (oB3 (fX0_addText h a136 0) (fun h139 i140 j141 => oK3 i140 j141 (fX5_writeLiteral_29  h139 x0 x1 x2 r134))))) else (fX5_writeLiteral_29  h x0 x1 x2 r134))) else (some (h, 0, 0))))))
set_option maxHeartbeats 4000000 in
theorem wfX5_writeLiteral_0 {mc ms cells slots : Nat} {args : Array Value} (b : Bd p s m c cX5_writeLiteral 4 RX5 D aC) (hlk : meth.locks = false) (hr : meth.sig.returnType = none) {Z : State → Prop} (zs : Z s) (zk : ZOK Z (Rg ad)) {adK adV : Nat → Nat} (hStr : ∀ U : State, Z U → ZS adK adV (Rg ad) U) {hz : PH} {h : PH} {x0 : Nat} {x1 : Int32} {x2 : Option Nat} {kz : Nat} {mz : Nat}  {H : Heap} {locs : List Loc} {ls : Array Slot} (hf : fX5_writeLiteral_0 h x0 x1 x2 = some (hz, kz, mz)) (hk : cells + kz ≤ mc) (hs : slots + mz ≤ ms) (hE : CE (EX D aC ad h) (Rg ad) s H locs) (hl : lv_has ls 4 [(0, .ref (ad x0)), (1, .int x1), (2, va_rf (Option.map ad x2))]) : W p l e (RM 5 128 mc ms) s m args below meth c H locs cells slots (MQ below (PQ (EX D aC ad hz) (Rg ad) none) args s mc ms (Rg ad)) (F0 m 0 ls []) := by
  unfold fX5_writeLiteral_0 at hf
  refine lv_aload_n b.1 b.2.1 dX5_writeLiteral_0 rfl (lv_at hl 0 rfl) ?_
  obtain ⟨t128, hf⟩ := oC_s hf
  have t128 := of_decide_eq_true t128
  refine gX5_15 (x := (some x0)) b hE rfl t128 dX5_writeLiteral_1 ?_
  refine lv_iload_n b.1 b.2.1 dX5_writeLiteral_4 rfl (lv_at hl 1 rfl) ?_
  obtain ⟨a129, ea129, hf⟩ := oN_s hf
  obtain ⟨t130, hf⟩ := oC_s hf
  have t130 := of_decide_eq_true t130
  obtain ⟨g131, hf⟩ := oC_s hf
  refine q_bald (x := (hR h 646 x0)) b hE ea129 t130 g131 dX5_writeLiteral_5 ?_
  refine lv_iconst (v := 1) b.1 b.2.1 dX5_writeLiteral_6 (by decide) ?_
  refine lv_icmp_eq (tgt := 11) b.1 b.2.1 dX5_writeLiteral_7 (by decide) (fun c132 => ?_) (fun c132 => ?_)
  · have hf := oI_t c132 hf
    refine lv_iload_n b.1 b.2.1 dX5_writeLiteral_11 rfl (lv_at hl 1 rfl) ?_
    obtain ⟨r134, hc133, hf⟩ := oB_s hf
    refine k_callS0 b zs zk hE (CX5_wordOf l D aC zk hc133) mc_X5_wordOf (in4 148 rfl rfl) mt_X5_wordOf ini_RX5 ok_X5_wordOf ⟨Nat.le_of_ble_eq_true rfl, Nat.le_of_ble_eq_true rfl⟩ rfl hl.1 rfl (k_room _ (by exact Nat.le_of_ble_eq_true rfl)) ⟨le_0 hk, le_0 hs⟩ dX5_writeLiteral_12 (fun H locs hE => ?_)
    refine lv_istore_n (lv' := [(3, .int r134), (0, .ref (ad x0)), (1, .int x1), (2, va_rf (Option.map ad x2))]) b.1 b.2.1 dX5_writeLiteral_15 rfl hl (by decide) (by cases x2 <;> rfl) (fun ls hl => ?_)
    refine lv_iload_n b.1 b.2.1 dX5_writeLiteral_16 rfl (lv_at hl 2 rfl) ?_
    refine lv_iconst (v := 2) b.1 b.2.1 dX5_writeLiteral_17 (by decide) ?_
    refine lv_irem b.1 b.2.1 dX5_writeLiteral_18 (by decide) ?_
    refine lv_iconst (v := 1) b.1 b.2.1 dX5_writeLiteral_19 (by decide) ?_
    refine lv_icmp_ne (tgt := 29) b.1 b.2.1 dX5_writeLiteral_20 (by decide) (fun c135 => ?_) (fun c135 => ?_)
    · have hf := oI_f c135 hf
      exact wfX5_writeLiteral_29 b hlk hr zs zk hStr  hf hk hs hE (lv_sub hl [1, 2, 3, 0] rfl)
    · have hf := oI_t c135 hf
      refine k_aload_n (x := Option.map ad x2) b dX5_writeLiteral_23 rfl (lv_at hl 3 rfl) ?_
      refine k_ldcS0 b (hStr s zs) dX5_writeLiteral_24 ?_
      obtain ⟨a136, ea136, hf⟩ := oN_s hf
      obtain ⟨t137, hf⟩ := oC_s hf
      have t137 := of_decide_eq_true t137
      obtain ⟨h139, i140, j141, hc138, hf⟩ := oB3_s hf
      obtain ⟨i142, j143, ei142, ej143, hf⟩ := oK3_s hf
      refine k_stk [.ref (adK 0)] ea136 ?_
      refine k_callV (C := RX0) b zs zk hE (CX0_addText l D aC ad zk hStr hc138) mc_X0_addText (in5 127 rfl rfl) mi_X0_addText ms_X0_addText ini_RX0 ok_X0_addText (x_recv b hE (ci := 0) rfl (by decide) t137) ⟨Nat.le_of_ble_eq_true rfl, Nat.le_of_ble_eq_true rfl⟩ rfl hl.1 rfl (k_room _ (by exact Nat.le_of_ble_eq_true rfl)) ⟨le_room hk ei142, le_room hs ej143⟩ dX5_writeLiteral_26 (fun H locs hE => ?_)
      have hk := le_step hk ei142
      have hs := le_step hs ej143
      exact wfX5_writeLiteral_29 b hlk hr zs zk hStr  hf hk hs hE (lv_sub hl [1, 2, 3, 0] rfl)
  · have hf := oI_f c132 hf
    cases hf
    exact k_vret b hlk hr hE (le_c hk) (le_c hs) dX5_writeLiteral_10
def fX5_writeLiteral (h : PH) (x0 : Nat) (x1 : Int32) (x2 : Option Nat) : Option (PH × Nat × Nat) := fX5_writeLiteral_0 h x0 x1 x2
set_option maxHeartbeats 4000000 in
theorem CX5_writeLiteral (l : Launch) (D : va_G) (aC : Nat → ClassId) (ad : Nat → Nat) {Z : State → Prop} (zk : ZOK Z (Rg ad)) {adK adV : Nat → Nat} (hStr : ∀ U : State, Z U → ZS adK adV (Rg ad) U) {h : PH} {x0 : Nat} {x1 : Int32} {x2 : Option Nat} {hz : PH} {kz : Nat} {mz : Nat} (hf : fX5_writeLiteral h x0 x1 x2 = some (hz, kz, mz)) : CM l D aC Z yX5_writeLiteral cX5_writeLiteral 4 (none) 5 128 kz mz (EX D aC ad h) [.ref (ad x0), .int x1, va_rf (Option.map ad x2)] (EX D aC ad hz) none (Rg ad) := by
  refine CM.of rfl ?_
  intro p e s m below meth c b hr hlk hin2 zs hE
  cases x2 <;> (
    refine k_ent (Nat.le_of_ble_eq_true rfl) (fun ls hl => ?_)
    exact wfX5_writeLiteral_0 b hlk hr zs zk hStr hf (by omega) (by omega) hE (lv_sub hl [0, 1, 2] rfl))
theorem dX5_writeSum_0 : decode cX5_writeSum 0 = .ok (.aload_n 0, 1) := by decide +kernel
theorem dX5_writeSum_1 : decode cX5_writeSum 1 = .ok (.getfield 43, 3) := by decide +kernel
theorem dX5_writeSum_4 : decode cX5_writeSum 4 = .ok (.iload_n 1, 1) := by decide +kernel
theorem dX5_writeSum_5 : decode cX5_writeSum 5 = .ok (.iaload, 1) := by decide +kernel
theorem dX5_writeSum_6 : decode cX5_writeSum 6 = .ok (.ifCond .ne 4, 3) := by decide +kernel
theorem dX5_writeSum_9 : decode cX5_writeSum 9 = .ok (.return_, 1) := by decide +kernel
theorem dX5_writeSum_10 : decode cX5_writeSum 10 = .ok (.aload_n 2, 1) := by decide +kernel
theorem dX5_writeSum_11 : decode cX5_writeSum 11 = .ok (.aload_n 0, 1) := by decide +kernel
theorem dX5_writeSum_12 : decode cX5_writeSum 12 = .ok (.getfield 50, 3) := by decide +kernel
theorem dX5_writeSum_15 : decode cX5_writeSum 15 = .ok (.getfield 82, 3) := by decide +kernel
theorem dX5_writeSum_18 : decode cX5_writeSum 18 = .ok (.iload_n 1, 1) := by decide +kernel
theorem dX5_writeSum_19 : decode cX5_writeSum 19 = .ok (.iconst 5, 1) := by decide +kernel
theorem dX5_writeSum_20 : decode cX5_writeSum 20 = .ok (.idiv, 1) := by decide +kernel
theorem dX5_writeSum_21 : decode cX5_writeSum 21 = .ok (.invokevirtual 211, 3) := by decide +kernel
theorem dX5_writeSum_24 : decode cX5_writeSum 24 = .ok (.invokevirtual 215, 3) := by decide +kernel
theorem dX5_writeSum_27 : decode cX5_writeSum 27 = .ok (.aload_n 2, 1) := by decide +kernel
theorem dX5_writeSum_28 : decode cX5_writeSum 28 = .ok (.bipush 40, 2) := by decide +kernel
theorem dX5_writeSum_30 : decode cX5_writeSum 30 = .ok (.invokevirtual 222, 3) := by decide +kernel
theorem dX5_writeSum_33 : decode cX5_writeSum 33 = .ok (.aload_n 2, 1) := by decide +kernel
theorem dX5_writeSum_34 : decode cX5_writeSum 34 = .ok (.aload_n 0, 1) := by decide +kernel
theorem dX5_writeSum_35 : decode cX5_writeSum 35 = .ok (.getfield 50, 3) := by decide +kernel
theorem dX5_writeSum_38 : decode cX5_writeSum 38 = .ok (.getfield 63, 3) := by decide +kernel
theorem dX5_writeSum_41 : decode cX5_writeSum 41 = .ok (.iload_n 1, 1) := by decide +kernel
theorem dX5_writeSum_42 : decode cX5_writeSum 42 = .ok (.iconst 5, 1) := by decide +kernel
theorem dX5_writeSum_43 : decode cX5_writeSum 43 = .ok (.irem, 1) := by decide +kernel
theorem dX5_writeSum_44 : decode cX5_writeSum 44 = .ok (.invokevirtual 211, 3) := by decide +kernel
theorem dX5_writeSum_47 : decode cX5_writeSum 47 = .ok (.invokevirtual 215, 3) := by decide +kernel
theorem dX5_writeSum_50 : decode cX5_writeSum 50 = .ok (.aload_n 2, 1) := by decide +kernel
theorem dX5_writeSum_51 : decode cX5_writeSum 51 = .ok (.ldc 239, 2) := by decide +kernel
theorem dX5_writeSum_53 : decode cX5_writeSum 53 = .ok (.invokevirtual 205, 3) := by decide +kernel
theorem dX5_writeSum_56 : decode cX5_writeSum 56 = .ok (.aload_n 0, 1) := by decide +kernel
theorem dX5_writeSum_57 : decode cX5_writeSum 57 = .ok (.getfield 46, 3) := by decide +kernel
theorem dX5_writeSum_60 : decode cX5_writeSum 60 = .ok (.iload_n 1, 1) := by decide +kernel
theorem dX5_writeSum_61 : decode cX5_writeSum 61 = .ok (.iconst 2, 1) := by decide +kernel
theorem dX5_writeSum_62 : decode cX5_writeSum 62 = .ok (.imul, 1) := by decide +kernel
theorem dX5_writeSum_63 : decode cX5_writeSum 63 = .ok (.iconst 1, 1) := by decide +kernel
theorem dX5_writeSum_64 : decode cX5_writeSum 64 = .ok (.iadd, 1) := by decide +kernel
theorem dX5_writeSum_65 : decode cX5_writeSum 65 = .ok (.laload, 1) := by decide +kernel
theorem dX5_writeSum_66 : decode cX5_writeSum 66 = .ok (.lstore_n 3, 1) := by decide +kernel
theorem dX5_writeSum_67 : decode cX5_writeSum 67 = .ok (.lload_n 3, 1) := by decide +kernel
theorem dX5_writeSum_68 : decode cX5_writeSum 68 = .ok (.lconst 0, 1) := by decide +kernel
theorem dX5_writeSum_69 : decode cX5_writeSum 69 = .ok (.lcmp, 1) := by decide +kernel
theorem dX5_writeSum_70 : decode cX5_writeSum 70 = .ok (.ifCond .ne 12, 3) := by decide +kernel
theorem dX5_writeSum_73 : decode cX5_writeSum 73 = .ok (.aload_n 2, 1) := by decide +kernel
theorem dX5_writeSum_74 : decode cX5_writeSum 74 = .ok (.ldc 241, 2) := by decide +kernel
theorem dX5_writeSum_76 : decode cX5_writeSum 76 = .ok (.invokevirtual 205, 3) := by decide +kernel
theorem dX5_writeSum_79 : decode cX5_writeSum 79 = .ok (.goto 32, 3) := by decide +kernel
theorem dX5_writeSum_82 : decode cX5_writeSum 82 = .ok (.aload_n 2, 1) := by decide +kernel
theorem dX5_writeSum_83 : decode cX5_writeSum 83 = .ok (.aload_n 0, 1) := by decide +kernel
theorem dX5_writeSum_84 : decode cX5_writeSum 84 = .ok (.getfield 46, 3) := by decide +kernel
theorem dX5_writeSum_87 : decode cX5_writeSum 87 = .ok (.iload_n 1, 1) := by decide +kernel
theorem dX5_writeSum_88 : decode cX5_writeSum 88 = .ok (.iconst 2, 1) := by decide +kernel
theorem dX5_writeSum_89 : decode cX5_writeSum 89 = .ok (.imul, 1) := by decide +kernel
theorem dX5_writeSum_90 : decode cX5_writeSum 90 = .ok (.laload, 1) := by decide +kernel
theorem dX5_writeSum_91 : decode cX5_writeSum 91 = .ok (.invokevirtual 242, 3) := by decide +kernel
theorem dX5_writeSum_94 : decode cX5_writeSum 94 = .ok (.lload_n 3, 1) := by decide +kernel
theorem dX5_writeSum_95 : decode cX5_writeSum 95 = .ok (.lconst 1, 1) := by decide +kernel
theorem dX5_writeSum_96 : decode cX5_writeSum 96 = .ok (.lcmp, 1) := by decide +kernel
theorem dX5_writeSum_97 : decode cX5_writeSum 97 = .ok (.ifCond .eq 14, 3) := by decide +kernel
theorem dX5_writeSum_100 : decode cX5_writeSum 100 = .ok (.aload_n 2, 1) := by decide +kernel
theorem dX5_writeSum_101 : decode cX5_writeSum 101 = .ok (.bipush 47, 2) := by decide +kernel
theorem dX5_writeSum_103 : decode cX5_writeSum 103 = .ok (.invokevirtual 222, 3) := by decide +kernel
theorem dX5_writeSum_106 : decode cX5_writeSum 106 = .ok (.aload_n 2, 1) := by decide +kernel
theorem dX5_writeSum_107 : decode cX5_writeSum 107 = .ok (.lload_n 3, 1) := by decide +kernel
theorem dX5_writeSum_108 : decode cX5_writeSum 108 = .ok (.invokevirtual 242, 3) := by decide +kernel
theorem dX5_writeSum_111 : decode cX5_writeSum 111 = .ok (.aload_n 2, 1) := by decide +kernel
theorem dX5_writeSum_112 : decode cX5_writeSum 112 = .ok (.bipush 10, 2) := by decide +kernel
theorem dX5_writeSum_114 : decode cX5_writeSum 114 = .ok (.invokevirtual 222, 3) := by decide +kernel
theorem dX5_writeSum_117 : decode cX5_writeSum 117 = .ok (.return_, 1) := by decide +kernel
def fX5_writeSum_111  (h : PH) (x2 : Option Nat) : Option (PH × Nat × Nat) :=
  oN x2 (fun a1 => oC (decide (hT h a1 = 1)) (oB3 (fX0_add h a1 10) (fun h4 i5 j6 => oK3 i5 j6 (some (h4, 0, 0)))))
set_option maxHeartbeats 4000000 in
theorem wfX5_writeSum_111 {mc ms cells slots : Nat} {args : Array Value} (b : Bd p s m c cX5_writeSum 5 RX5 D aC) (hlk : meth.locks = false) (hr : meth.sig.returnType = none) {Z : State → Prop} (zs : Z s) (zk : ZOK Z (Rg ad)) {adK adV : Nat → Nat} (hStr : ∀ U : State, Z U → ZS adK adV (Rg ad) U) {hz : PH} {h : PH} {x2 : Option Nat} {kz : Nat} {mz : Nat}  {H : Heap} {locs : List Loc} {ls : Array Slot} (hf : fX5_writeSum_111 h x2 = some (hz, kz, mz)) (hk : cells + kz ≤ mc) (hs : slots + mz ≤ ms) (hE : CE (EX D aC ad h) (Rg ad) s H locs) (hl : lv_has ls 5 [(2, va_rf (Option.map ad x2))]) : W p l e (RM 5 131 mc ms) s m args below meth c H locs cells slots (MQ below (PQ (EX D aC ad hz) (Rg ad) none) args s mc ms (Rg ad)) (F0 m 111 ls []) := by
  unfold fX5_writeSum_111 at hf
  refine k_aload_n (x := Option.map ad x2) b dX5_writeSum_111 rfl (lv_at hl 0 rfl) ?_
  refine lv_bipush (v := 10) b.1 b.2.1 dX5_writeSum_112 (by decide) ?_
  obtain ⟨a1, ea1, hf⟩ := oN_s hf
  obtain ⟨t2, hf⟩ := oC_s hf
  have t2 := of_decide_eq_true t2
  obtain ⟨h4, i5, j6, hc3, hf⟩ := oB3_s hf
  obtain ⟨i7, j8, ei7, ej8, hf⟩ := oK3_s hf
  refine k_stk [.int 10] ea1 ?_
  refine k_callV (C := RX0) b zs zk hE (CX0_add l D aC ad zk hc3) mc_X0_add (in5 141 rfl rfl) mi_X0_add ms_X0_add ini_RX0 ok_X0_add (x_recv b hE (ci := 0) rfl (by decide) t2) ⟨Nat.le_of_ble_eq_true rfl, Nat.le_of_ble_eq_true rfl⟩ rfl hl.1 rfl (k_room _ (by exact Nat.le_of_ble_eq_true rfl)) ⟨le_room hk ei7, le_room hs ej8⟩ dX5_writeSum_114 (fun H locs hE => ?_)
  have hk := le_step hk ei7
  have hs := le_step hs ej8
  cases hf
  exact k_vret b hlk hr hE (le_c hk) (le_c hs) dX5_writeSum_117
def fX5_writeSum_0  (h : PH) (x0 : Nat) (x1 : Int32) (x2 : Option Nat) : Option (PH × Nat × Nat) :=
  oC (decide (hT h x0 = 6)) (oN (hR h 657 x0) (fun a10 => oC (decide (hT h a10 = 101)) (oC (ix x1 (hN h a10)) (if (hA h a10 (Int32.toNatClampNeg x1)) = 0 then (some (h, 0, 0)) else (oN (hR h 640 x0) (fun a14 => oC (decide (hT h a14 = 2)) (oN (hR h 130 a14) (fun a16 => oC (decide (hT h a16 = 8)) (oB (fX7_nameAt h a16 (x1 / 5)) (fun r19 => oN x2 (fun a20 => oC (decide (hT h a20 = 1)) (oB3 (fX0_addName h a20 r19) (fun h23 i24 j25 => oK3 i24 j25 (oC (decide (hT h23 a20 = 1)) (oB3 (fX0_add h23 a20 40) (fun h30 i31 j32 => oK3 i31 j32 (oC (decide (hT h30 x0 = 6)) (oN (hR h30 640 x0) (fun a36 => oC (decide (hT h30 a36 = 2)) (oN (hR h30 128 a36) (fun a38 => oC (decide (hT h30 a38 = 8)) (oB (fX7_nameAt h30 a38 (x1 - x1 / 5 * 5)) (fun r41 => oC (decide (hT h30 a20 = 1)) (oB3 (fX0_addName h30 a20 r41) (fun h44 i45 j46 => oK3 i45 j46 (oC (decide (hT h44 a20 = 1)) (oB3 (fX0_addText h44 a20 3) (fun h51 i52 j53 => oK3 i52 j53 (oC (decide (hT h51 x0 = 6)) (oN (hR h51 658 x0) (fun a57 => oC (decide (hT h51 a57 = 102)) (oC (ix ((x1 * 2) + 1) (hN h51 a57)) (oL (hB h51 a57 (Int32.toNatClampNeg ((x1 * 2) + 1))) (fun y60 => if (lg_cmp y60 0) = 0 then (oC (decide (hT h51 a20 = 1)) (oB3 (fX0_addText h51 a20 4) (fun h87 i88 j89 => oK3 i88 j89 (fX5_writeSum_111  h87 x2)))) else (oC (ix (x1 * 2) (hN h51 a57)) (oC (decide (hT h51 a20 = 1)) (oB3 (fX0_addNumber h51 a20 (hB h51 a57 (Int32.toNatClampNeg (x1 * 2)))) (fun h65 i66 j67 => oK3 i66 j67 (if (lg_cmp y60 1) = 0 then (fX5_writeSum_111  h65 x2) else (oC (decide (hT h65 a20 = 1)) (oB3 (fX0_add h65 a20 47) (fun h73 i74 j75 => oK3 i74 j75 (oC (decide (hT h73 a20 = 1)) (oB3 (fX0_addNumber h73 a20 y60) (fun h80 i81 j82 => oK3 i81 j82 (fX5_writeSum_111  h80 x2))))))))))))))))))))))))))))))))))))))))))))))
set_option maxHeartbeats 4000000 in
theorem wfX5_writeSum_0 {mc ms cells slots : Nat} {args : Array Value} (b : Bd p s m c cX5_writeSum 5 RX5 D aC) (hlk : meth.locks = false) (hr : meth.sig.returnType = none) {Z : State → Prop} (zs : Z s) (zk : ZOK Z (Rg ad)) {adK adV : Nat → Nat} (hStr : ∀ U : State, Z U → ZS adK adV (Rg ad) U) {hz : PH} {h : PH} {x0 : Nat} {x1 : Int32} {x2 : Option Nat} {kz : Nat} {mz : Nat}  {H : Heap} {locs : List Loc} {ls : Array Slot} (hf : fX5_writeSum_0 h x0 x1 x2 = some (hz, kz, mz)) (hk : cells + kz ≤ mc) (hs : slots + mz ≤ ms) (hE : CE (EX D aC ad h) (Rg ad) s H locs) (hl : lv_has ls 5 [(0, .ref (ad x0)), (1, .int x1), (2, va_rf (Option.map ad x2))]) : W p l e (RM 5 131 mc ms) s m args below meth c H locs cells slots (MQ below (PQ (EX D aC ad hz) (Rg ad) none) args s mc ms (Rg ad)) (F0 m 0 ls []) := by
  unfold fX5_writeSum_0 at hf
  refine lv_aload_n b.1 b.2.1 dX5_writeSum_0 rfl (lv_at hl 0 rfl) ?_
  obtain ⟨t9, hf⟩ := oC_s hf
  have t9 := of_decide_eq_true t9
  refine gX5_43 (x := (some x0)) b hE rfl t9 dX5_writeSum_1 ?_
  refine lv_iload_n b.1 b.2.1 dX5_writeSum_4 rfl (lv_at hl 1 rfl) ?_
  obtain ⟨a10, ea10, hf⟩ := oN_s hf
  obtain ⟨t11, hf⟩ := oC_s hf
  have t11 := of_decide_eq_true t11
  obtain ⟨g12, hf⟩ := oC_s hf
  refine q_iald (x := (hR h 657 x0)) b hE ea10 t11 g12 dX5_writeSum_5 ?_
  refine lv_if_ne (tgt := 10) b.1 b.2.1 dX5_writeSum_6 (by decide) (fun c13 => ?_) (fun c13 => ?_)
  · have hf := oI_f c13 hf
    refine k_aload_n (x := Option.map ad x2) b dX5_writeSum_10 rfl (lv_at hl 2 rfl) ?_
    refine lv_aload_n b.1 b.2.1 dX5_writeSum_11 rfl (lv_at hl 0 rfl) ?_
    refine gX5_50 (x := (some x0)) b hE rfl t9 dX5_writeSum_12 ?_
    obtain ⟨a14, ea14, hf⟩ := oN_s hf
    obtain ⟨t15, hf⟩ := oC_s hf
    have t15 := of_decide_eq_true t15
    refine gX5_82 (x := (hR h 640 x0)) b hE ea14 t15 dX5_writeSum_15 ?_
    refine lv_iload_n b.1 b.2.1 dX5_writeSum_18 rfl (lv_at hl 1 rfl) ?_
    refine lv_iconst (v := 5) b.1 b.2.1 dX5_writeSum_19 (by decide) ?_
    refine lv_idiv b.1 b.2.1 dX5_writeSum_20 (by decide) ?_
    obtain ⟨a16, ea16, hf⟩ := oN_s hf
    obtain ⟨t17, hf⟩ := oC_s hf
    have t17 := of_decide_eq_true t17
    obtain ⟨r19, hc18, hf⟩ := oB_s hf
    refine k_stk [.int (x1 / 5)] ea16 ?_
    refine k_callV0 (C := RX7) b zs zk hE (CX7_nameAt l D aC ad zk hc18) mc_X7_nameAt (in5 133 rfl rfl) mi_X7_nameAt ms_X7_nameAt ini_RX7 ok_X7_nameAt (x_recv b hE (ci := 7) rfl (by decide) t17) ⟨Nat.le_of_ble_eq_true rfl, Nat.le_of_ble_eq_true rfl⟩ rfl hl.1 rfl (k_room _ (by exact Nat.le_of_ble_eq_true rfl)) ⟨le_0 hk, le_0 hs⟩ dX5_writeSum_21 (fun H locs hE => ?_)
    obtain ⟨a20, ea20, hf⟩ := oN_s hf
    obtain ⟨t21, hf⟩ := oC_s hf
    have t21 := of_decide_eq_true t21
    obtain ⟨h23, i24, j25, hc22, hf⟩ := oB3_s hf
    obtain ⟨i26, j27, ei26, ej27, hf⟩ := oK3_s hf
    refine k_stk [.long r19] ea20 ?_
    refine k_callV (C := RX0) b zs zk hE (CX0_addName l D aC ad zk hc22) mc_X0_addName (in5 137 rfl rfl) mi_X0_addName ms_X0_addName ini_RX0 ok_X0_addName (x_recv b hE (ci := 0) rfl (by decide) t21) ⟨Nat.le_of_ble_eq_true rfl, Nat.le_of_ble_eq_true rfl⟩ rfl hl.1 rfl (k_room _ (by exact Nat.le_of_ble_eq_true rfl)) ⟨le_room hk ei26, le_room hs ej27⟩ dX5_writeSum_24 (fun H locs hE => ?_)
    have hk := le_step hk ei26
    have hs := le_step hs ej27
    refine k_aload_n (x := Option.map ad x2) b dX5_writeSum_27 rfl (lv_at hl 2 rfl) ?_
    refine lv_bipush (v := 40) b.1 b.2.1 dX5_writeSum_28 (by decide) ?_
    obtain ⟨t28, hf⟩ := oC_s hf
    have t28 := of_decide_eq_true t28
    obtain ⟨h30, i31, j32, hc29, hf⟩ := oB3_s hf
    obtain ⟨i33, j34, ei33, ej34, hf⟩ := oK3_s hf
    refine k_stk [.int 40] ea20 ?_
    refine k_callV (C := RX0) b zs zk hE (CX0_add l D aC ad zk hc29) mc_X0_add (in5 141 rfl rfl) mi_X0_add ms_X0_add ini_RX0 ok_X0_add (x_recv b hE (ci := 0) rfl (by decide) t28) ⟨Nat.le_of_ble_eq_true rfl, Nat.le_of_ble_eq_true rfl⟩ rfl hl.1 rfl (k_room _ (by exact Nat.le_of_ble_eq_true rfl)) ⟨le_room hk ei33, le_room hs ej34⟩ dX5_writeSum_30 (fun H locs hE => ?_)
    have hk := le_step hk ei33
    have hs := le_step hs ej34
    refine k_aload_n (x := Option.map ad x2) b dX5_writeSum_33 rfl (lv_at hl 2 rfl) ?_
    refine lv_aload_n b.1 b.2.1 dX5_writeSum_34 rfl (lv_at hl 0 rfl) ?_
    obtain ⟨t35, hf⟩ := oC_s hf
    have t35 := of_decide_eq_true t35
    refine gX5_50 (x := (some x0)) b hE rfl t35 dX5_writeSum_35 ?_
    obtain ⟨a36, ea36, hf⟩ := oN_s hf
    obtain ⟨t37, hf⟩ := oC_s hf
    have t37 := of_decide_eq_true t37
    refine gX5_63 (x := (hR h30 640 x0)) b hE ea36 t37 dX5_writeSum_38 ?_
    refine lv_iload_n b.1 b.2.1 dX5_writeSum_41 rfl (lv_at hl 1 rfl) ?_
    refine lv_iconst (v := 5) b.1 b.2.1 dX5_writeSum_42 (by decide) ?_
    refine lv_irem b.1 b.2.1 dX5_writeSum_43 (by decide) ?_
    obtain ⟨a38, ea38, hf⟩ := oN_s hf
    obtain ⟨t39, hf⟩ := oC_s hf
    have t39 := of_decide_eq_true t39
    obtain ⟨r41, hc40, hf⟩ := oB_s hf
    refine k_stk [.int (x1 - x1 / 5 * 5)] ea38 ?_
    refine k_callV0 (C := RX7) b zs zk hE (CX7_nameAt l D aC ad zk hc40) mc_X7_nameAt (in5 133 rfl rfl) mi_X7_nameAt ms_X7_nameAt ini_RX7 ok_X7_nameAt (x_recv b hE (ci := 7) rfl (by decide) t39) ⟨Nat.le_of_ble_eq_true rfl, Nat.le_of_ble_eq_true rfl⟩ rfl hl.1 rfl (k_room _ (by exact Nat.le_of_ble_eq_true rfl)) ⟨le_0 hk, le_0 hs⟩ dX5_writeSum_44 (fun H locs hE => ?_)
    obtain ⟨t42, hf⟩ := oC_s hf
    have t42 := of_decide_eq_true t42
    obtain ⟨h44, i45, j46, hc43, hf⟩ := oB3_s hf
    obtain ⟨i47, j48, ei47, ej48, hf⟩ := oK3_s hf
    refine k_stk [.long r41] ea20 ?_
    refine k_callV (C := RX0) b zs zk hE (CX0_addName l D aC ad zk hc43) mc_X0_addName (in5 137 rfl rfl) mi_X0_addName ms_X0_addName ini_RX0 ok_X0_addName (x_recv b hE (ci := 0) rfl (by decide) t42) ⟨Nat.le_of_ble_eq_true rfl, Nat.le_of_ble_eq_true rfl⟩ rfl hl.1 rfl (k_room _ (by exact Nat.le_of_ble_eq_true rfl)) ⟨le_room hk ei47, le_room hs ej48⟩ dX5_writeSum_47 (fun H locs hE => ?_)
    have hk := le_step hk ei47
    have hs := le_step hs ej48
    refine k_aload_n (x := Option.map ad x2) b dX5_writeSum_50 rfl (lv_at hl 2 rfl) ?_
    refine k_ldcS3 b (hStr s zs) dX5_writeSum_51 ?_
    obtain ⟨t49, hf⟩ := oC_s hf
    have t49 := of_decide_eq_true t49
    obtain ⟨h51, i52, j53, hc50, hf⟩ := oB3_s hf
    obtain ⟨i54, j55, ei54, ej55, hf⟩ := oK3_s hf
    refine k_stk [.ref (adK 3)] ea20 ?_
    refine k_callV (C := RX0) b zs zk hE (CX0_addText l D aC ad zk hStr hc50) mc_X0_addText (in5 127 rfl rfl) mi_X0_addText ms_X0_addText ini_RX0 ok_X0_addText (x_recv b hE (ci := 0) rfl (by decide) t49) ⟨Nat.le_of_ble_eq_true rfl, Nat.le_of_ble_eq_true rfl⟩ rfl hl.1 rfl (k_room _ (by exact Nat.le_of_ble_eq_true rfl)) ⟨le_room hk ei54, le_room hs ej55⟩ dX5_writeSum_53 (fun H locs hE => ?_)
    have hk := le_step hk ei54
    have hs := le_step hs ej55
    refine lv_aload_n b.1 b.2.1 dX5_writeSum_56 rfl (lv_at hl 0 rfl) ?_
    obtain ⟨t56, hf⟩ := oC_s hf
    have t56 := of_decide_eq_true t56
    refine gX5_46 (x := (some x0)) b hE rfl t56 dX5_writeSum_57 ?_
    refine lv_iload_n b.1 b.2.1 dX5_writeSum_60 rfl (lv_at hl 1 rfl) ?_
    refine lv_iconst (v := 2) b.1 b.2.1 dX5_writeSum_61 (by decide) ?_
    refine lv_imul b.1 b.2.1 dX5_writeSum_62 ?_
    refine lv_iconst (v := 1) b.1 b.2.1 dX5_writeSum_63 (by decide) ?_
    refine lv_iadd b.1 b.2.1 dX5_writeSum_64 ?_
    obtain ⟨a57, ea57, hf⟩ := oN_s hf
    obtain ⟨t58, hf⟩ := oC_s hf
    have t58 := of_decide_eq_true t58
    obtain ⟨g59, hf⟩ := oC_s hf
    refine q_lald (x := (hR h51 658 x0)) b hE ea57 t58 g59 dX5_writeSum_65 ?_
    obtain ⟨y60, ey60, hf⟩ := oL_s hf
    refine k_nmL ey60 ?_
    refine lv_lstore_n (lv' := [(3, .long y60), (0, .ref (ad x0)), (1, .int x1), (2, va_rf (Option.map ad x2))]) b.1 b.2.1 dX5_writeSum_66 rfl hl (by decide) (by cases x2 <;> rfl) (fun ls hl => ?_)
    refine lv_lload_n b.1 b.2.1 dX5_writeSum_67 rfl (lv_at hl 0 rfl) ?_
    refine lv_lconst (v := 0) b.1 b.2.1 dX5_writeSum_68 rfl ?_
    refine W.lcmp b.1 b.2.1 dX5_writeSum_69 ?_
    refine lv_if_ne (tgt := 82) b.1 b.2.1 dX5_writeSum_70 (by decide) (fun c61 => ?_) (fun c61 => ?_)
    · have hf := oI_f c61 hf
      refine k_aload_n (x := Option.map ad x2) b dX5_writeSum_82 rfl (lv_at hl 3 rfl) ?_
      refine lv_aload_n b.1 b.2.1 dX5_writeSum_83 rfl (lv_at hl 1 rfl) ?_
      refine gX5_46 (x := (some x0)) b hE rfl t56 dX5_writeSum_84 ?_
      refine lv_iload_n b.1 b.2.1 dX5_writeSum_87 rfl (lv_at hl 2 rfl) ?_
      refine lv_iconst (v := 2) b.1 b.2.1 dX5_writeSum_88 (by decide) ?_
      refine lv_imul b.1 b.2.1 dX5_writeSum_89 ?_
      obtain ⟨g62, hf⟩ := oC_s hf
      refine q_lald (x := (hR h51 658 x0)) b hE ea57 t58 g62 dX5_writeSum_90 ?_
      obtain ⟨t63, hf⟩ := oC_s hf
      have t63 := of_decide_eq_true t63
      obtain ⟨h65, i66, j67, hc64, hf⟩ := oB3_s hf
      obtain ⟨i68, j69, ei68, ej69, hf⟩ := oK3_s hf
      refine k_stk [.long (hB h51 a57 (Int32.toNatClampNeg (x1 * 2)))] ea20 ?_
      refine k_callV (C := RX0) b zs zk hE (CX0_addNumber l D aC ad zk hc64) mc_X0_addNumber (in5 150 rfl rfl) mi_X0_addNumber ms_X0_addNumber ini_RX0 ok_X0_addNumber (x_recv b hE (ci := 0) rfl (by decide) t63) ⟨Nat.le_of_ble_eq_true rfl, Nat.le_of_ble_eq_true rfl⟩ rfl hl.1 rfl (k_room _ (by exact Nat.le_of_ble_eq_true rfl)) ⟨le_room hk ei68, le_room hs ej69⟩ dX5_writeSum_91 (fun H locs hE => ?_)
      have hk := le_step hk ei68
      have hs := le_step hs ej69
      refine lv_lload_n b.1 b.2.1 dX5_writeSum_94 rfl (lv_at hl 0 rfl) ?_
      refine lv_lconst (v := 1) b.1 b.2.1 dX5_writeSum_95 rfl ?_
      refine W.lcmp b.1 b.2.1 dX5_writeSum_96 ?_
      refine lv_if_eq (tgt := 111) b.1 b.2.1 dX5_writeSum_97 (by decide) (fun c70 => ?_) (fun c70 => ?_)
      · have hf := oI_t c70 hf
        exact wfX5_writeSum_111 b hlk hr zs zk hStr  hf hk hs hE (lv_sub hl [3] rfl)
      · have hf := oI_f c70 hf
        refine k_aload_n (x := Option.map ad x2) b dX5_writeSum_100 rfl (lv_at hl 3 rfl) ?_
        refine lv_bipush (v := 47) b.1 b.2.1 dX5_writeSum_101 (by decide) ?_
        obtain ⟨t71, hf⟩ := oC_s hf
        have t71 := of_decide_eq_true t71
        obtain ⟨h73, i74, j75, hc72, hf⟩ := oB3_s hf
        obtain ⟨i76, j77, ei76, ej77, hf⟩ := oK3_s hf
        refine k_stk [.int 47] ea20 ?_
        refine k_callV (C := RX0) b zs zk hE (CX0_add l D aC ad zk hc72) mc_X0_add (in5 141 rfl rfl) mi_X0_add ms_X0_add ini_RX0 ok_X0_add (x_recv b hE (ci := 0) rfl (by decide) t71) ⟨Nat.le_of_ble_eq_true rfl, Nat.le_of_ble_eq_true rfl⟩ rfl hl.1 rfl (k_room _ (by exact Nat.le_of_ble_eq_true rfl)) ⟨le_room hk ei76, le_room hs ej77⟩ dX5_writeSum_103 (fun H locs hE => ?_)
        have hk := le_step hk ei76
        have hs := le_step hs ej77
        refine k_aload_n (x := Option.map ad x2) b dX5_writeSum_106 rfl (lv_at hl 3 rfl) ?_
        refine lv_lload_n b.1 b.2.1 dX5_writeSum_107 rfl (lv_at hl 0 rfl) ?_
        obtain ⟨t78, hf⟩ := oC_s hf
        have t78 := of_decide_eq_true t78
        obtain ⟨h80, i81, j82, hc79, hf⟩ := oB3_s hf
        obtain ⟨i83, j84, ei83, ej84, hf⟩ := oK3_s hf
        refine k_stk [.long y60] ea20 ?_
        refine k_callV (C := RX0) b zs zk hE (CX0_addNumber l D aC ad zk hc79) mc_X0_addNumber (in5 150 rfl rfl) mi_X0_addNumber ms_X0_addNumber ini_RX0 ok_X0_addNumber (x_recv b hE (ci := 0) rfl (by decide) t78) ⟨Nat.le_of_ble_eq_true rfl, Nat.le_of_ble_eq_true rfl⟩ rfl hl.1 rfl (k_room _ (by exact Nat.le_of_ble_eq_true rfl)) ⟨le_room hk ei83, le_room hs ej84⟩ dX5_writeSum_108 (fun H locs hE => ?_)
        have hk := le_step hk ei83
        have hs := le_step hs ej84
        exact wfX5_writeSum_111 b hlk hr zs zk hStr  hf hk hs hE (lv_sub hl [3] rfl)
    · have hf := oI_t c61 hf
      refine k_aload_n (x := Option.map ad x2) b dX5_writeSum_73 rfl (lv_at hl 3 rfl) ?_
      refine k_ldcS4 b (hStr s zs) dX5_writeSum_74 ?_
      obtain ⟨t85, hf⟩ := oC_s hf
      have t85 := of_decide_eq_true t85
      obtain ⟨h87, i88, j89, hc86, hf⟩ := oB3_s hf
      obtain ⟨i90, j91, ei90, ej91, hf⟩ := oK3_s hf
      refine k_stk [.ref (adK 4)] ea20 ?_
      refine k_callV (C := RX0) b zs zk hE (CX0_addText l D aC ad zk hStr hc86) mc_X0_addText (in5 127 rfl rfl) mi_X0_addText ms_X0_addText ini_RX0 ok_X0_addText (x_recv b hE (ci := 0) rfl (by decide) t85) ⟨Nat.le_of_ble_eq_true rfl, Nat.le_of_ble_eq_true rfl⟩ rfl hl.1 rfl (k_room _ (by exact Nat.le_of_ble_eq_true rfl)) ⟨le_room hk ei90, le_room hs ej91⟩ dX5_writeSum_76 (fun H locs hE => ?_)
      have hk := le_step hk ei90
      have hs := le_step hs ej91
      refine lv_goto (tgt := 111) b.1 b.2.1 dX5_writeSum_79 (by decide) ?_
      exact wfX5_writeSum_111 b hlk hr zs zk hStr  hf hk hs hE (lv_sub hl [3] rfl)
  · have hf := oI_t c13 hf
    cases hf
    exact k_vret b hlk hr hE (le_c hk) (le_c hs) dX5_writeSum_9
def fX5_writeSum (h : PH) (x0 : Nat) (x1 : Int32) (x2 : Option Nat) : Option (PH × Nat × Nat) := fX5_writeSum_0 h x0 x1 x2
set_option maxHeartbeats 4000000 in
theorem CX5_writeSum (l : Launch) (D : va_G) (aC : Nat → ClassId) (ad : Nat → Nat) {Z : State → Prop} (zk : ZOK Z (Rg ad)) {adK adV : Nat → Nat} (hStr : ∀ U : State, Z U → ZS adK adV (Rg ad) U) {h : PH} {x0 : Nat} {x1 : Int32} {x2 : Option Nat} {hz : PH} {kz : Nat} {mz : Nat} (hf : fX5_writeSum h x0 x1 x2 = some (hz, kz, mz)) : CM l D aC Z yX5_writeSum cX5_writeSum 5 (none) 5 131 kz mz (EX D aC ad h) [.ref (ad x0), .int x1, va_rf (Option.map ad x2)] (EX D aC ad hz) none (Rg ad) := by
  refine CM.of rfl ?_
  intro p e s m below meth c b hr hlk hin2 zs hE
  cases x2 <;> (
    refine k_ent (Nat.le_of_ble_eq_true rfl) (fun ls hl => ?_)
    exact wfX5_writeSum_0 b hlk hr zs zk hStr hf (by omega) (by omega) hE (lv_sub hl [0, 1, 2] rfl))
theorem dX9_init_0 : decode cX9_init 0 = .ok (.aload_n 0, 1) := by decide +kernel
theorem dX9_init_1 : decode cX9_init 1 = .ok (.invokespecial 1, 3) := by decide +kernel
theorem dX9_init_4 : decode cX9_init 4 = .ok (.aload_n 0, 1) := by decide +kernel
theorem dX9_init_5 : decode cX9_init 5 = .ok (.iload_n 1, 1) := by decide +kernel
theorem dX9_init_6 : decode cX9_init 6 = .ok (.putfield 7, 3) := by decide +kernel
theorem dX9_init_9 : decode cX9_init 9 = .ok (.aload_n 0, 1) := by decide +kernel
theorem dX9_init_10 : decode cX9_init 10 = .ok (.iload_n 2, 1) := by decide +kernel
theorem dX9_init_11 : decode cX9_init 11 = .ok (.putfield 13, 3) := by decide +kernel
theorem dX9_init_14 : decode cX9_init 14 = .ok (.aload_n 0, 1) := by decide +kernel
theorem dX9_init_15 : decode cX9_init 15 = .ok (.iload_n 3, 1) := by decide +kernel
theorem dX9_init_16 : decode cX9_init 16 = .ok (.putfield 16, 3) := by decide +kernel
theorem dX9_init_19 : decode cX9_init 19 = .ok (.aload_n 0, 1) := by decide +kernel
theorem dX9_init_20 : decode cX9_init 20 = .ok (.iload 4, 2) := by decide +kernel
theorem dX9_init_22 : decode cX9_init 22 = .ok (.putfield 19, 3) := by decide +kernel
theorem dX9_init_25 : decode cX9_init 25 = .ok (.aload_n 0, 1) := by decide +kernel
theorem dX9_init_26 : decode cX9_init 26 = .ok (.iload 5, 2) := by decide +kernel
theorem dX9_init_28 : decode cX9_init 28 = .ok (.putfield 22, 3) := by decide +kernel
theorem dX9_init_31 : decode cX9_init 31 = .ok (.return_, 1) := by decide +kernel
def fX9_init_0  (h : PH) (x0 : Nat) (x1 : Int32) (x2 : Int32) (x3 : Int32) (x4 : Int32) (x5 : Int32) : Option (PH) :=
  oC (decide (hT h x0 = 10)) (oL (sI h 1152 x0 x1) (fun h2 => oL (sI h2 1153 x0 x2) (fun h4 => oL (sI h4 1154 x0 x3) (fun h6 => oL (sI h6 1155 x0 x4) (fun h8 => oL (sI h8 1156 x0 x5) (fun h10 => some (h10)))))))
set_option maxHeartbeats 4000000 in
theorem wfX9_init_0 {args : Array Value} (b : Bd p s m c cX9_init 6 RX9 D aC) (hlk : meth.locks = false) (hr : meth.sig.returnType = none) {Z : State → Prop} (zs : Z s) (zk : ZOK Z (Rg ad)) (hin2 : meth.name = "<init>") {hz : PH} {h : PH} {x0 : Nat} {x1 : Int32} {x2 : Int32} {x3 : Int32} {x4 : Int32} {x5 : Int32}  {H : Heap} {locs : List Loc} {ls : Array Slot} (hf : fX9_init_0 h x0 x1 x2 x3 x4 x5 = some hz) (hE : CE (EX D aC ad h) (Rg ad) s H locs) (hl : lv_has ls 6 [(0, .ref (ad x0)), (1, .int x1), (2, .int x2), (3, .int x3), (4, .int x4), (5, .int x5)]) : W p l e (RM 1 24 0 0) s m args below meth c H locs 0 0 (MQ below (PQ (EX D aC ad hz) (Rg ad) none) args s 0 0 (Rg ad)) (F0 m 0 ls []) := by
  unfold fX9_init_0 at hf
  refine lv_aload_n b.1 b.2.1 dX9_init_0 rfl (lv_at hl 0 rfl) ?_
  refine k_objInit b (in3 220 rfl rfl) objI objC hl.1 ⟨Nat.le_of_ble_eq_true rfl, Nat.le_of_ble_eq_true rfl⟩ (Nat.le_of_ble_eq_true rfl) dX9_init_1 ?_
  refine lv_aload_n b.1 b.2.1 dX9_init_4 rfl (lv_at hl 0 rfl) ?_
  refine lv_iload_n b.1 b.2.1 dX9_init_5 rfl (lv_at hl 1 rfl) ?_
  obtain ⟨t1, hf⟩ := oC_s hf
  have t1 := of_decide_eq_true t1
  obtain ⟨h2, eh2, hf⟩ := oL_s hf
  refine pX9_7 (x := (some x0)) b hin2 hE rfl t1 eh2 dX9_init_6 (fun H locs hE => ?_)
  refine lv_aload_n b.1 b.2.1 dX9_init_9 rfl (lv_at hl 0 rfl) ?_
  refine lv_iload_n b.1 b.2.1 dX9_init_10 rfl (lv_at hl 2 rfl) ?_
  have t3 := tg_sI eh2 t1
  obtain ⟨h4, eh4, hf⟩ := oL_s hf
  refine pX9_13 (x := (some x0)) b hin2 hE rfl t3 eh4 dX9_init_11 (fun H locs hE => ?_)
  refine lv_aload_n b.1 b.2.1 dX9_init_14 rfl (lv_at hl 0 rfl) ?_
  refine lv_iload_n b.1 b.2.1 dX9_init_15 rfl (lv_at hl 3 rfl) ?_
  have t5 := tg_sI eh4 t3
  obtain ⟨h6, eh6, hf⟩ := oL_s hf
  refine pX9_16 (x := (some x0)) b hin2 hE rfl t5 eh6 dX9_init_16 (fun H locs hE => ?_)
  refine lv_aload_n b.1 b.2.1 dX9_init_19 rfl (lv_at hl 0 rfl) ?_
  refine lv_iload b.1 b.2.1 dX9_init_20 (lv_at hl 4 rfl) ?_
  have t7 := tg_sI eh6 t5
  obtain ⟨h8, eh8, hf⟩ := oL_s hf
  refine pX9_19 (x := (some x0)) b hin2 hE rfl t7 eh8 dX9_init_22 (fun H locs hE => ?_)
  refine lv_aload_n b.1 b.2.1 dX9_init_25 rfl (lv_at hl 0 rfl) ?_
  refine lv_iload b.1 b.2.1 dX9_init_26 (lv_at hl 5 rfl) ?_
  have t9 := tg_sI eh8 t7
  obtain ⟨h10, eh10, hf⟩ := oL_s hf
  refine pX9_22 (x := (some x0)) b hin2 hE rfl t9 eh10 dX9_init_28 (fun H locs hE => ?_)
  cases hf
  exact k_vret b hlk hr hE (Nat.le_refl _) (Nat.le_refl _) dX9_init_31
def fX9_init (h : PH) (x0 : Nat) (x1 : Int32) (x2 : Int32) (x3 : Int32) (x4 : Int32) (x5 : Int32) : Option (PH) := fX9_init_0 h x0 x1 x2 x3 x4 x5
set_option maxHeartbeats 4000000 in
theorem CX9_init (l : Launch) (D : va_G) (aC : Nat → ClassId) (ad : Nat → Nat) {Z : State → Prop} (zk : ZOK Z (Rg ad)) {h : PH} {x0 : Nat} {x1 : Int32} {x2 : Int32} {x3 : Int32} {x4 : Int32} {x5 : Int32} {hz : PH} (hf : fX9_init h x0 x1 x2 x3 x4 x5 = some hz) : CM l D aC Z yX9_init cX9_init 6 (none) 1 24 0 0 (EX D aC ad h) [.ref (ad x0), .int x1, .int x2, .int x3, .int x4, .int x5] (EX D aC ad hz) none (Rg ad) := by
  refine CM.of rfl ?_
  intro p e s m below meth c b hr hlk hin2 zs hE
  refine k_ent (Nat.le_of_ble_eq_true rfl) (fun ls hl => ?_)
  exact wfX9_init_0 b hlk hr zs zk hin2 hf hE (lv_sub hl [0, 1, 2, 3, 4, 5] rfl)
theorem dX11_init_0 : decode cX11_init 0 = .ok (.aload_n 0, 1) := by decide +kernel
theorem dX11_init_1 : decode cX11_init 1 = .ok (.invokespecial 3, 3) := by decide +kernel
theorem dX11_init_4 : decode cX11_init 4 = .ok (.aload_n 0, 1) := by decide +kernel
theorem dX11_init_5 : decode cX11_init 5 = .ok (.new 9, 3) := by decide +kernel
theorem dX11_init_8 : decode cX11_init 8 = .ok (.dup, 1) := by decide +kernel
theorem dX11_init_9 : decode cX11_init 9 = .ok (.invokespecial 11, 3) := by decide +kernel
theorem dX11_init_12 : decode cX11_init 12 = .ok (.putfield 12, 3) := by decide +kernel
theorem dX11_init_15 : decode cX11_init 15 = .ok (.aload_n 0, 1) := by decide +kernel
theorem dX11_init_16 : decode cX11_init 16 = .ok (.new 9, 3) := by decide +kernel
theorem dX11_init_19 : decode cX11_init 19 = .ok (.dup, 1) := by decide +kernel
theorem dX11_init_20 : decode cX11_init 20 = .ok (.invokespecial 11, 3) := by decide +kernel
theorem dX11_init_23 : decode cX11_init 23 = .ok (.putfield 16, 3) := by decide +kernel
theorem dX11_init_26 : decode cX11_init 26 = .ok (.aload_n 0, 1) := by decide +kernel
theorem dX11_init_27 : decode cX11_init 27 = .ok (.new 19, 3) := by decide +kernel
theorem dX11_init_30 : decode cX11_init 30 = .ok (.dup, 1) := by decide +kernel
theorem dX11_init_31 : decode cX11_init 31 = .ok (.invokespecial 21, 3) := by decide +kernel
theorem dX11_init_34 : decode cX11_init 34 = .ok (.putfield 22, 3) := by decide +kernel
theorem dX11_init_37 : decode cX11_init 37 = .ok (.aload_n 0, 1) := by decide +kernel
theorem dX11_init_38 : decode cX11_init 38 = .ok (.new 26, 3) := by decide +kernel
theorem dX11_init_41 : decode cX11_init 41 = .ok (.dup, 1) := by decide +kernel
theorem dX11_init_42 : decode cX11_init 42 = .ok (.aload_n 0, 1) := by decide +kernel
theorem dX11_init_43 : decode cX11_init 43 = .ok (.getfield 22, 3) := by decide +kernel
theorem dX11_init_46 : decode cX11_init 46 = .ok (.invokespecial 28, 3) := by decide +kernel
theorem dX11_init_49 : decode cX11_init 49 = .ok (.putfield 31, 3) := by decide +kernel
theorem dX11_init_52 : decode cX11_init 52 = .ok (.aload_n 0, 1) := by decide +kernel
theorem dX11_init_53 : decode cX11_init 53 = .ok (.bipush 100, 2) := by decide +kernel
theorem dX11_init_55 : decode cX11_init 55 = .ok (.anewarray 35, 3) := by decide +kernel
theorem dX11_init_58 : decode cX11_init 58 = .ok (.putfield 37, 3) := by decide +kernel
theorem dX11_init_61 : decode cX11_init 61 = .ok (.aload_n 0, 1) := by decide +kernel
theorem dX11_init_62 : decode cX11_init 62 = .ok (.iconst (-1), 1) := by decide +kernel
theorem dX11_init_63 : decode cX11_init 63 = .ok (.putfield 41, 3) := by decide +kernel
theorem dX11_init_66 : decode cX11_init 66 = .ok (.return_, 1) := by decide +kernel
def fX11_init_0  (h : PH) (x0 : Nat) : Option (PH × Nat × Nat) :=
  oL (nO h 1) (fun h3 => oK3 1 2 (oB3 (fX0_init h3 (hZ h)) (fun h6 i7 j8 => oK3 i7 j8 (oC (decide (hT h6 x0 = 12)) (oL (sR h6 1408 x0 (some (hZ h))) (fun h12 => oL (nO h12 1) (fun h16 => oK3 1 2 (oB3 (fX0_init h16 (hZ h12)) (fun h20 i21 j22 => oK3 i21 j22 (oC (decide (hT h20 x0 = 12)) (oL (sR h20 1409 x0 (some (hZ h12))) (fun h26 => oL (nO h26 2) (fun h30 => oK3 1 16 (oB3 (fX1_init h30 (hZ h26)) (fun h34 i35 j36 => oK3 i35 j36 (oC (decide (hT h34 x0 = 12)) (oL (sR h34 1410 x0 (some (hZ h26))) (fun h40 => oL (nO h40 5) (fun h44 => oK3 1 16 (oB3 (fX4_init h44 (hZ h40) (hR h44 1410 x0)) (fun h48 i49 j50 => oK3 i49 j50 (oC (decide (hT h48 x0 = 12)) (oL (sR h48 1411 x0 (some (hZ h40))) (fun h54 => oL (nA h54 106 (Int32.toNatClampNeg 100)) (fun h58 => oK3 1 (Int32.toNatClampNeg 100) (oL (sR h58 1412 x0 (some (hZ h54))) (fun h61 => oL (sI h61 1415 x0 (-1)) (fun h63 => some (h63, 0, 0)))))))))))))))))))))))))))))
set_option maxHeartbeats 4000000 in
theorem wfX11_init_0 {mc ms cells slots : Nat} {args : Array Value} (b : Bd p s m c cX11_init 1 RX11 D aC) (hlk : meth.locks = false) (hr : meth.sig.returnType = none) {Z : State → Prop} (zs : Z s) (zk : ZOK Z (Rg ad)) {adK adV : Nat → Nat} (hStr : ∀ U : State, Z U → ZS adK adV (Rg ad) U) (hin2 : meth.name = "<init>") {hz : PH} {h : PH} {x0 : Nat} {kz : Nat} {mz : Nat}  {H : Heap} {locs : List Loc} {ls : Array Slot} (hf : fX11_init_0 h x0 = some (hz, kz, mz)) (hk : cells + kz ≤ mc) (hs : slots + mz ≤ ms) (hE : CE (EX D aC ad h) (Rg ad) s H locs) (hl : lv_has ls 1 [(0, .ref (ad x0))]) : W p l e (RM 6 129 mc ms) s m args below meth c H locs cells slots (MQ below (PQ (EX D aC ad hz) (Rg ad) none) args s mc ms (Rg ad)) (F0 m 0 ls []) := by
  unfold fX11_init_0 at hf
  refine lv_aload_n b.1 b.2.1 dX11_init_0 rfl (lv_at hl 0 rfl) ?_
  refine k_objInit b (in1 27 rfl rfl) objI objC hl.1 ⟨Nat.le_of_ble_eq_true rfl, Nat.le_of_ble_eq_true rfl⟩ (Nat.le_of_ble_eq_true rfl) dX11_init_1 ?_
  refine lv_aload_n b.1 b.2.1 dX11_init_4 rfl (lv_at hl 0 rfl) ?_
  obtain ⟨h3, eh3, hf⟩ := oL_s hf
  obtain ⟨i1, j2, ei1, ej2, hf⟩ := oK3_s hf
  have t4 := tg_nO0 eh3
  refine nX11_9 b hE (le_room hk ei1) (le_room hs ej2) eh3 dX11_init_5 (fun H hE => ?_)
  have hk := le_step hk ei1
  have hs := le_step hs ej2
  refine lv_dup b.1 b.2.1 dX11_init_8 rfl ?_
  obtain ⟨h6, i7, j8, hc5, hf⟩ := oB3_s hf
  obtain ⟨i9, j10, ei9, ej10, hf⟩ := oK3_s hf
  refine k_callIN b zs zk hE (CX0_init l D aC ad zk hc5) mc_X0_init (in1 32 rfl rfl) mi_X0_init ini_RX0 rfl ok_X0_init ⟨Nat.le_of_ble_eq_true rfl, Nat.le_of_ble_eq_true rfl⟩ rfl hl.1 rfl (k_room _ (by exact Nat.le_of_ble_eq_true rfl)) ⟨le_room hk ei9, le_room hs ej10⟩ dX11_init_9 (fun H locs hE => ?_)
  have hk := le_step hk ei9
  have hs := le_step hs ej10
  obtain ⟨t11, hf⟩ := oC_s hf
  have t11 := of_decide_eq_true t11
  obtain ⟨h12, eh12, hf⟩ := oL_s hf
  refine pX11_12 (x := (some x0)) (v := (some (hZ h))) b hin2 hE rfl t11 eh12 dX11_init_12 (fun H locs hE => ?_)
  refine lv_aload_n b.1 b.2.1 dX11_init_15 rfl (lv_at hl 0 rfl) ?_
  have t13 := tg_sR eh12 t11
  obtain ⟨h16, eh16, hf⟩ := oL_s hf
  obtain ⟨i14, j15, ei14, ej15, hf⟩ := oK3_s hf
  have t17 := tg_nO (t := 11) hE eh16 t13
  have t18 := tg_nO0 eh16
  refine nX11_9 b hE (le_room hk ei14) (le_room hs ej15) eh16 dX11_init_16 (fun H hE => ?_)
  have hk := le_step hk ei14
  have hs := le_step hs ej15
  refine lv_dup b.1 b.2.1 dX11_init_19 rfl ?_
  obtain ⟨h20, i21, j22, hc19, hf⟩ := oB3_s hf
  obtain ⟨i23, j24, ei23, ej24, hf⟩ := oK3_s hf
  refine k_callIN b zs zk hE (CX0_init l D aC ad zk hc19) mc_X0_init (in1 32 rfl rfl) mi_X0_init ini_RX0 rfl ok_X0_init ⟨Nat.le_of_ble_eq_true rfl, Nat.le_of_ble_eq_true rfl⟩ rfl hl.1 rfl (k_room _ (by exact Nat.le_of_ble_eq_true rfl)) ⟨le_room hk ei23, le_room hs ej24⟩ dX11_init_20 (fun H locs hE => ?_)
  have hk := le_step hk ei23
  have hs := le_step hs ej24
  obtain ⟨t25, hf⟩ := oC_s hf
  have t25 := of_decide_eq_true t25
  obtain ⟨h26, eh26, hf⟩ := oL_s hf
  refine pX11_16 (x := (some x0)) (v := (some (hZ h12))) b hin2 hE rfl t25 eh26 dX11_init_23 (fun H locs hE => ?_)
  refine lv_aload_n b.1 b.2.1 dX11_init_26 rfl (lv_at hl 0 rfl) ?_
  have t27 := tg_sR eh26 t25
  obtain ⟨h30, eh30, hf⟩ := oL_s hf
  obtain ⟨i28, j29, ei28, ej29, hf⟩ := oK3_s hf
  have t31 := tg_nO (t := 11) hE eh30 t27
  have t32 := tg_nO0 eh30
  refine nX11_19 b hE (le_room hk ei28) (le_room hs ej29) eh30 dX11_init_27 (fun H hE => ?_)
  have hk := le_step hk ei28
  have hs := le_step hs ej29
  refine lv_dup b.1 b.2.1 dX11_init_30 rfl ?_
  obtain ⟨h34, i35, j36, hc33, hf⟩ := oB3_s hf
  obtain ⟨i37, j38, ei37, ej38, hf⟩ := oK3_s hf
  refine k_callIN b zs zk hE (CX1_init l D aC ad zk hc33) mc_X1_init (in1 48 rfl rfl) mi_X1_init ini_RX1 rfl ok_X1_init ⟨Nat.le_of_ble_eq_true rfl, Nat.le_of_ble_eq_true rfl⟩ rfl hl.1 rfl (k_room _ (by exact Nat.le_of_ble_eq_true rfl)) ⟨le_room hk ei37, le_room hs ej38⟩ dX11_init_31 (fun H locs hE => ?_)
  have hk := le_step hk ei37
  have hs := le_step hs ej38
  obtain ⟨t39, hf⟩ := oC_s hf
  have t39 := of_decide_eq_true t39
  obtain ⟨h40, eh40, hf⟩ := oL_s hf
  refine pX11_22 (x := (some x0)) (v := (some (hZ h26))) b hin2 hE rfl t39 eh40 dX11_init_34 (fun H locs hE => ?_)
  refine lv_aload_n b.1 b.2.1 dX11_init_37 rfl (lv_at hl 0 rfl) ?_
  have t41 := tg_sR eh40 t39
  obtain ⟨h44, eh44, hf⟩ := oL_s hf
  obtain ⟨i42, j43, ei42, ej43, hf⟩ := oK3_s hf
  have t45 := tg_nO (t := 11) hE eh44 t41
  have t46 := tg_nO0 eh44
  refine nX11_26 b hE (le_room hk ei42) (le_room hs ej43) eh44 dX11_init_38 (fun H hE => ?_)
  have hk := le_step hk ei42
  have hs := le_step hs ej43
  refine lv_dup b.1 b.2.1 dX11_init_41 rfl ?_
  refine lv_aload_n b.1 b.2.1 dX11_init_42 rfl (lv_at hl 0 rfl) ?_
  refine gX11_22 (x := (some x0)) b hE rfl t45 dX11_init_43 ?_
  obtain ⟨h48, i49, j50, hc47, hf⟩ := oB3_s hf
  obtain ⟨i51, j52, ei51, ej52, hf⟩ := oK3_s hf
  refine k_callI b zs zk hE (CX4_init l D aC ad zk hStr hc47) mc_X4_init (in1 150 rfl rfl) mi_X4_init ini_RX4 rfl ok_X4_init ⟨Nat.le_of_ble_eq_true rfl, Nat.le_of_ble_eq_true rfl⟩ rfl hl.1 rfl (k_room _ (by exact Nat.le_of_ble_eq_true rfl)) ⟨le_room hk ei51, le_room hs ej52⟩ dX11_init_46 (fun H locs hE => ?_)
  have hk := le_step hk ei51
  have hs := le_step hs ej52
  obtain ⟨t53, hf⟩ := oC_s hf
  have t53 := of_decide_eq_true t53
  obtain ⟨h54, eh54, hf⟩ := oL_s hf
  refine pX11_31 (x := (some x0)) (v := (some (hZ h40))) b hin2 hE rfl t53 eh54 dX11_init_49 (fun H locs hE => ?_)
  refine lv_aload_n b.1 b.2.1 dX11_init_52 rfl (lv_at hl 0 rfl) ?_
  refine lv_bipush (v := 100) b.1 b.2.1 dX11_init_53 (by decide) ?_
  have t55 := tg_sR eh54 t53
  obtain ⟨h58, eh58, hf⟩ := oL_s hf
  obtain ⟨i56, j57, ei56, ej57, hf⟩ := oK3_s hf
  have t59 := tg_nA (t := 11) hE eh58 t55
  have t60 := tg_nA0 eh58
  refine q_newq6 b hE (in2 44 rfl rfl) (by decide) (by decide) (le_room hk ei56) (le_room hs ej57) eh58 dX11_init_55 (fun H hE => ?_)
  have hk := le_step hk ei56
  have hs := le_step hs ej57
  obtain ⟨h61, eh61, hf⟩ := oL_s hf
  refine pX11_37 (x := (some x0)) (v := (some (hZ h54))) b hin2 hE rfl t59 eh61 dX11_init_58 (fun H locs hE => ?_)
  refine lv_aload_n b.1 b.2.1 dX11_init_61 rfl (lv_at hl 0 rfl) ?_
  refine lv_iconst (v := (-1)) b.1 b.2.1 dX11_init_62 (by decide) ?_
  have t62 := tg_sR eh61 t59
  obtain ⟨h63, eh63, hf⟩ := oL_s hf
  refine pX11_41 (x := (some x0)) b hE rfl t62 eh63 dX11_init_63 (fun H locs hE => ?_)
  cases hf
  exact k_vret b hlk hr hE (le_c hk) (le_c hs) dX11_init_66
def fX11_init (h : PH) (x0 : Nat) : Option (PH × Nat × Nat) := fX11_init_0 h x0
set_option maxHeartbeats 4000000 in
theorem CX11_init (l : Launch) (D : va_G) (aC : Nat → ClassId) (ad : Nat → Nat) {Z : State → Prop} (zk : ZOK Z (Rg ad)) {adK adV : Nat → Nat} (hStr : ∀ U : State, Z U → ZS adK adV (Rg ad) U) {h : PH} {x0 : Nat} {hz : PH} {kz : Nat} {mz : Nat} (hf : fX11_init h x0 = some (hz, kz, mz)) : CM l D aC Z yX11_init cX11_init 1 (none) 6 129 kz mz (EX D aC ad h) [.ref (ad x0)] (EX D aC ad hz) none (Rg ad) := by
  refine CM.of rfl ?_
  intro p e s m below meth c b hr hlk hin2 zs hE
  refine k_ent (Nat.le_of_ble_eq_true rfl) (fun ls hl => ?_)
  exact wfX11_init_0 b hlk hr zs zk hStr hin2 hf (by omega) (by omega) hE (lv_sub hl [0] rfl)
theorem dX11_feed_0 : decode cX11_feed 0 = .ok (.aload_n 0, 1) := by decide +kernel
theorem dX11_feed_1 : decode cX11_feed 1 = .ok (.getfield 12, 3) := by decide +kernel
theorem dX11_feed_4 : decode cX11_feed 4 = .ok (.getfield 45, 3) := by decide +kernel
theorem dX11_feed_7 : decode cX11_feed 7 = .ok (.bipush 20, 2) := by decide +kernel
theorem dX11_feed_9 : decode cX11_feed 9 = .ok (.iadd, 1) := by decide +kernel
theorem dX11_feed_10 : decode cX11_feed 10 = .ok (.sipush 4000, 3) := by decide +kernel
theorem dX11_feed_13 : decode cX11_feed 13 = .ok (.if_icmp .le 5, 3) := by decide +kernel
theorem dX11_feed_16 : decode cX11_feed 16 = .ok (.iconst (-1), 1) := by decide +kernel
theorem dX11_feed_17 : decode cX11_feed 17 = .ok (.ireturn, 1) := by decide +kernel
theorem dX11_feed_18 : decode cX11_feed 18 = .ok (.aload_n 0, 1) := by decide +kernel
theorem dX11_feed_19 : decode cX11_feed 19 = .ok (.getfield 12, 3) := by decide +kernel
theorem dX11_feed_22 : decode cX11_feed 22 = .ok (.iload_n 1, 1) := by decide +kernel
theorem dX11_feed_23 : decode cX11_feed 23 = .ok (.invokevirtual 48, 3) := by decide +kernel
theorem dX11_feed_26 : decode cX11_feed 26 = .ok (.aload_n 0, 1) := by decide +kernel
theorem dX11_feed_27 : decode cX11_feed 27 = .ok (.getfield 12, 3) := by decide +kernel
theorem dX11_feed_30 : decode cX11_feed 30 = .ok (.iload_n 2, 1) := by decide +kernel
theorem dX11_feed_31 : decode cX11_feed 31 = .ok (.invokevirtual 48, 3) := by decide +kernel
theorem dX11_feed_34 : decode cX11_feed 34 = .ok (.aload_n 0, 1) := by decide +kernel
theorem dX11_feed_35 : decode cX11_feed 35 = .ok (.getfield 12, 3) := by decide +kernel
theorem dX11_feed_38 : decode cX11_feed 38 = .ok (.iload_n 3, 1) := by decide +kernel
theorem dX11_feed_39 : decode cX11_feed 39 = .ok (.invokevirtual 48, 3) := by decide +kernel
theorem dX11_feed_42 : decode cX11_feed 42 = .ok (.aload_n 0, 1) := by decide +kernel
theorem dX11_feed_43 : decode cX11_feed 43 = .ok (.getfield 12, 3) := by decide +kernel
theorem dX11_feed_46 : decode cX11_feed 46 = .ok (.iload 4, 2) := by decide +kernel
theorem dX11_feed_48 : decode cX11_feed 48 = .ok (.invokevirtual 48, 3) := by decide +kernel
theorem dX11_feed_51 : decode cX11_feed 51 = .ok (.aload_n 0, 1) := by decide +kernel
theorem dX11_feed_52 : decode cX11_feed 52 = .ok (.getfield 12, 3) := by decide +kernel
theorem dX11_feed_55 : decode cX11_feed 55 = .ok (.iload 5, 2) := by decide +kernel
theorem dX11_feed_57 : decode cX11_feed 57 = .ok (.invokevirtual 48, 3) := by decide +kernel
theorem dX11_feed_60 : decode cX11_feed 60 = .ok (.aload_n 0, 1) := by decide +kernel
theorem dX11_feed_61 : decode cX11_feed 61 = .ok (.getfield 12, 3) := by decide +kernel
theorem dX11_feed_64 : decode cX11_feed 64 = .ok (.getfield 45, 3) := by decide +kernel
theorem dX11_feed_67 : decode cX11_feed 67 = .ok (.ireturn, 1) := by decide +kernel
def fX11_feed_0  (h : PH) (x0 : Nat) (x1 : Int32) (x2 : Int32) (x3 : Int32) (x4 : Int32) (x5 : Int32) : Option (PH × Int32 × Nat × Nat) :=
  oC (decide (hT h x0 = 12)) (oN (hR h 1408 x0) (fun a2 => oC (decide (hT h a2 = 1)) (if ((hI h 1 a2) + 20) ≤ 4000 then (oB3 (fX0_addWord h a2 x1) (fun h6 i7 j8 => oK4 i7 j8 (oC (decide (hT h6 x0 = 12)) (oN (hR h6 1408 x0) (fun a12 => oC (decide (hT h6 a12 = 1)) (oB3 (fX0_addWord h6 a12 x2) (fun h15 i16 j17 => oK4 i16 j17 (oC (decide (hT h15 x0 = 12)) (oN (hR h15 1408 x0) (fun a21 => oC (decide (hT h15 a21 = 1)) (oB3 (fX0_addWord h15 a21 x3) (fun h24 i25 j26 => oK4 i25 j26 (oC (decide (hT h24 x0 = 12)) (oN (hR h24 1408 x0) (fun a30 => oC (decide (hT h24 a30 = 1)) (oB3 (fX0_addWord h24 a30 x4) (fun h33 i34 j35 => oK4 i34 j35 (oC (decide (hT h33 x0 = 12)) (oN (hR h33 1408 x0) (fun a39 => oC (decide (hT h33 a39 = 1)) (oB3 (fX0_addWord h33 a39 x5) (fun h42 i43 j44 => oK4 i43 j44 (oC (decide (hT h42 x0 = 12)) (oN (hR h42 1408 x0) (fun a48 => oC (decide (hT h42 a48 = 1)) (some (h42, (hI h42 1 a48), 0, 0))))))))))))))))))))))))))) else (some (h, (-1), 0, 0)))))
set_option maxHeartbeats 4000000 in
theorem wfX11_feed_0 {mc ms cells slots : Nat} {args : Array Value} (b : Bd p s m c cX11_feed 6 RX11 D aC) (hlk : meth.locks = false) (hr : meth.sig.returnType = some .int) {Z : State → Prop} (zs : Z s) (zk : ZOK Z (Rg ad)) {hz : PH} {rz : Int32} {h : PH} {x0 : Nat} {x1 : Int32} {x2 : Int32} {x3 : Int32} {x4 : Int32} {x5 : Int32} {kz : Nat} {mz : Nat}  {H : Heap} {locs : List Loc} {ls : Array Slot} (hf : fX11_feed_0 h x0 x1 x2 x3 x4 x5 = some (hz, rz, kz, mz)) (hk : cells + kz ≤ mc) (hs : slots + mz ≤ ms) (hE : CE (EX D aC ad h) (Rg ad) s H locs) (hl : lv_has ls 6 [(0, .ref (ad x0)), (1, .int x1), (2, .int x2), (3, .int x3), (4, .int x4), (5, .int x5)]) : W p l e (RM 4 125 mc ms) s m args below meth c H locs cells slots (MQ below (PQ (EX D aC ad hz) (Rg ad) (some (.int rz))) args s mc ms (Rg ad)) (F0 m 0 ls []) := by
  unfold fX11_feed_0 at hf
  refine lv_aload_n b.1 b.2.1 dX11_feed_0 rfl (lv_at hl 0 rfl) ?_
  obtain ⟨t1, hf⟩ := oC_s hf
  have t1 := of_decide_eq_true t1
  refine gX11_12 (x := (some x0)) b hE rfl t1 dX11_feed_1 ?_
  obtain ⟨a2, ea2, hf⟩ := oN_s hf
  obtain ⟨t3, hf⟩ := oC_s hf
  have t3 := of_decide_eq_true t3
  refine gX11_45 (x := (hR h 1408 x0)) b hE ea2 t3 dX11_feed_4 ?_
  refine lv_bipush (v := 20) b.1 b.2.1 dX11_feed_7 (by decide) ?_
  refine lv_iadd b.1 b.2.1 dX11_feed_9 ?_
  refine lv_sipush (v := 4000) b.1 b.2.1 dX11_feed_10 (by decide) ?_
  refine lv_icmp_le (tgt := 18) b.1 b.2.1 dX11_feed_13 (by decide) (fun c4 => ?_) (fun c4 => ?_)
  · have hf := oI_t c4 hf
    refine lv_aload_n b.1 b.2.1 dX11_feed_18 rfl (lv_at hl 0 rfl) ?_
    refine gX11_12 (x := (some x0)) b hE rfl t1 dX11_feed_19 ?_
    refine lv_iload_n b.1 b.2.1 dX11_feed_22 rfl (lv_at hl 1 rfl) ?_
    obtain ⟨h6, i7, j8, hc5, hf⟩ := oB3_s hf
    obtain ⟨i9, j10, ei9, ej10, hf⟩ := oK4_s hf
    refine k_stk [.int x1] ea2 ?_
    refine k_callV (C := RX0) b zs zk hE (CX0_addWord l D aC ad zk hc5) mc_X0_addWord (in2 78 rfl rfl) mi_X0_addWord ms_X0_addWord ini_RX0 ok_X0_addWord (x_recv b hE (ci := 0) rfl (by decide) t3) ⟨Nat.le_of_ble_eq_true rfl, Nat.le_of_ble_eq_true rfl⟩ rfl hl.1 rfl (k_room _ (by exact Nat.le_of_ble_eq_true rfl)) ⟨le_room hk ei9, le_room hs ej10⟩ dX11_feed_23 (fun H locs hE => ?_)
    have hk := le_step hk ei9
    have hs := le_step hs ej10
    refine lv_aload_n b.1 b.2.1 dX11_feed_26 rfl (lv_at hl 0 rfl) ?_
    obtain ⟨t11, hf⟩ := oC_s hf
    have t11 := of_decide_eq_true t11
    refine gX11_12 (x := (some x0)) b hE rfl t11 dX11_feed_27 ?_
    refine lv_iload_n b.1 b.2.1 dX11_feed_30 rfl (lv_at hl 2 rfl) ?_
    obtain ⟨a12, ea12, hf⟩ := oN_s hf
    obtain ⟨t13, hf⟩ := oC_s hf
    have t13 := of_decide_eq_true t13
    obtain ⟨h15, i16, j17, hc14, hf⟩ := oB3_s hf
    obtain ⟨i18, j19, ei18, ej19, hf⟩ := oK4_s hf
    refine k_stk [.int x2] ea12 ?_
    refine k_callV (C := RX0) b zs zk hE (CX0_addWord l D aC ad zk hc14) mc_X0_addWord (in2 78 rfl rfl) mi_X0_addWord ms_X0_addWord ini_RX0 ok_X0_addWord (x_recv b hE (ci := 0) rfl (by decide) t13) ⟨Nat.le_of_ble_eq_true rfl, Nat.le_of_ble_eq_true rfl⟩ rfl hl.1 rfl (k_room _ (by exact Nat.le_of_ble_eq_true rfl)) ⟨le_room hk ei18, le_room hs ej19⟩ dX11_feed_31 (fun H locs hE => ?_)
    have hk := le_step hk ei18
    have hs := le_step hs ej19
    refine lv_aload_n b.1 b.2.1 dX11_feed_34 rfl (lv_at hl 0 rfl) ?_
    obtain ⟨t20, hf⟩ := oC_s hf
    have t20 := of_decide_eq_true t20
    refine gX11_12 (x := (some x0)) b hE rfl t20 dX11_feed_35 ?_
    refine lv_iload_n b.1 b.2.1 dX11_feed_38 rfl (lv_at hl 3 rfl) ?_
    obtain ⟨a21, ea21, hf⟩ := oN_s hf
    obtain ⟨t22, hf⟩ := oC_s hf
    have t22 := of_decide_eq_true t22
    obtain ⟨h24, i25, j26, hc23, hf⟩ := oB3_s hf
    obtain ⟨i27, j28, ei27, ej28, hf⟩ := oK4_s hf
    refine k_stk [.int x3] ea21 ?_
    refine k_callV (C := RX0) b zs zk hE (CX0_addWord l D aC ad zk hc23) mc_X0_addWord (in2 78 rfl rfl) mi_X0_addWord ms_X0_addWord ini_RX0 ok_X0_addWord (x_recv b hE (ci := 0) rfl (by decide) t22) ⟨Nat.le_of_ble_eq_true rfl, Nat.le_of_ble_eq_true rfl⟩ rfl hl.1 rfl (k_room _ (by exact Nat.le_of_ble_eq_true rfl)) ⟨le_room hk ei27, le_room hs ej28⟩ dX11_feed_39 (fun H locs hE => ?_)
    have hk := le_step hk ei27
    have hs := le_step hs ej28
    refine lv_aload_n b.1 b.2.1 dX11_feed_42 rfl (lv_at hl 0 rfl) ?_
    obtain ⟨t29, hf⟩ := oC_s hf
    have t29 := of_decide_eq_true t29
    refine gX11_12 (x := (some x0)) b hE rfl t29 dX11_feed_43 ?_
    refine lv_iload b.1 b.2.1 dX11_feed_46 (lv_at hl 4 rfl) ?_
    obtain ⟨a30, ea30, hf⟩ := oN_s hf
    obtain ⟨t31, hf⟩ := oC_s hf
    have t31 := of_decide_eq_true t31
    obtain ⟨h33, i34, j35, hc32, hf⟩ := oB3_s hf
    obtain ⟨i36, j37, ei36, ej37, hf⟩ := oK4_s hf
    refine k_stk [.int x4] ea30 ?_
    refine k_callV (C := RX0) b zs zk hE (CX0_addWord l D aC ad zk hc32) mc_X0_addWord (in2 78 rfl rfl) mi_X0_addWord ms_X0_addWord ini_RX0 ok_X0_addWord (x_recv b hE (ci := 0) rfl (by decide) t31) ⟨Nat.le_of_ble_eq_true rfl, Nat.le_of_ble_eq_true rfl⟩ rfl hl.1 rfl (k_room _ (by exact Nat.le_of_ble_eq_true rfl)) ⟨le_room hk ei36, le_room hs ej37⟩ dX11_feed_48 (fun H locs hE => ?_)
    have hk := le_step hk ei36
    have hs := le_step hs ej37
    refine lv_aload_n b.1 b.2.1 dX11_feed_51 rfl (lv_at hl 0 rfl) ?_
    obtain ⟨t38, hf⟩ := oC_s hf
    have t38 := of_decide_eq_true t38
    refine gX11_12 (x := (some x0)) b hE rfl t38 dX11_feed_52 ?_
    refine lv_iload b.1 b.2.1 dX11_feed_55 (lv_at hl 5 rfl) ?_
    obtain ⟨a39, ea39, hf⟩ := oN_s hf
    obtain ⟨t40, hf⟩ := oC_s hf
    have t40 := of_decide_eq_true t40
    obtain ⟨h42, i43, j44, hc41, hf⟩ := oB3_s hf
    obtain ⟨i45, j46, ei45, ej46, hf⟩ := oK4_s hf
    refine k_stk [.int x5] ea39 ?_
    refine k_callV (C := RX0) b zs zk hE (CX0_addWord l D aC ad zk hc41) mc_X0_addWord (in2 78 rfl rfl) mi_X0_addWord ms_X0_addWord ini_RX0 ok_X0_addWord (x_recv b hE (ci := 0) rfl (by decide) t40) ⟨Nat.le_of_ble_eq_true rfl, Nat.le_of_ble_eq_true rfl⟩ rfl hl.1 rfl (k_room _ (by exact Nat.le_of_ble_eq_true rfl)) ⟨le_room hk ei45, le_room hs ej46⟩ dX11_feed_57 (fun H locs hE => ?_)
    have hk := le_step hk ei45
    have hs := le_step hs ej46
    refine lv_aload_n b.1 b.2.1 dX11_feed_60 rfl (lv_at hl 0 rfl) ?_
    obtain ⟨t47, hf⟩ := oC_s hf
    have t47 := of_decide_eq_true t47
    refine gX11_12 (x := (some x0)) b hE rfl t47 dX11_feed_61 ?_
    obtain ⟨a48, ea48, hf⟩ := oN_s hf
    obtain ⟨t49, hf⟩ := oC_s hf
    have t49 := of_decide_eq_true t49
    refine gX11_45 (x := (hR h42 1408 x0)) b hE ea48 t49 dX11_feed_64 ?_
    cases hf
    exact k_iret b hlk hr hE (le_c hk) (le_c hs) dX11_feed_67
  · have hf := oI_f c4 hf
    refine lv_iconst (v := (-1)) b.1 b.2.1 dX11_feed_16 (by decide) ?_
    cases hf
    exact k_iret b hlk hr hE (le_c hk) (le_c hs) dX11_feed_17
def fX11_feed (h : PH) (x0 : Nat) (x1 : Int32) (x2 : Int32) (x3 : Int32) (x4 : Int32) (x5 : Int32) : Option (PH × Int32 × Nat × Nat) := fX11_feed_0 h x0 x1 x2 x3 x4 x5
set_option maxHeartbeats 4000000 in
theorem CX11_feed (l : Launch) (D : va_G) (aC : Nat → ClassId) (ad : Nat → Nat) {Z : State → Prop} (zk : ZOK Z (Rg ad)) {h : PH} {x0 : Nat} {x1 : Int32} {x2 : Int32} {x3 : Int32} {x4 : Int32} {x5 : Int32} {hz : PH} {rz : Int32} {kz : Nat} {mz : Nat} (hf : fX11_feed h x0 x1 x2 x3 x4 x5 = some (hz, rz, kz, mz)) : CM l D aC Z yX11_feed cX11_feed 6 (some .int) 4 125 kz mz (EX D aC ad h) [.ref (ad x0), .int x1, .int x2, .int x3, .int x4, .int x5] (EX D aC ad hz) (some (.int rz)) (Rg ad) := by
  refine CM.of rfl ?_
  intro p e s m below meth c b hr hlk hin2 zs hE
  refine k_ent (Nat.le_of_ble_eq_true rfl) (fun ls hl => ?_)
  exact wfX11_feed_0 b hlk hr zs zk hf (by omega) (by omega) hE (lv_sub hl [0, 1, 2, 3, 4, 5] rfl)
theorem dX11_back_0 : decode cX11_back 0 = .ok (.iload_n 1, 1) := by decide +kernel
theorem dX11_back_1 : decode cX11_back 1 = .ok (.ifCond .lt 14, 3) := by decide +kernel
theorem dX11_back_4 : decode cX11_back 4 = .ok (.iload_n 1, 1) := by decide +kernel
theorem dX11_back_5 : decode cX11_back 5 = .ok (.aload_n 0, 1) := by decide +kernel
theorem dX11_back_6 : decode cX11_back 6 = .ok (.getfield 12, 3) := by decide +kernel
theorem dX11_back_9 : decode cX11_back 9 = .ok (.getfield 45, 3) := by decide +kernel
theorem dX11_back_12 : decode cX11_back 12 = .ok (.if_icmp .le 5, 3) := by decide +kernel
theorem dX11_back_15 : decode cX11_back 15 = .ok (.iconst (-1), 1) := by decide +kernel
theorem dX11_back_16 : decode cX11_back 16 = .ok (.ireturn, 1) := by decide +kernel
theorem dX11_back_17 : decode cX11_back 17 = .ok (.aload_n 0, 1) := by decide +kernel
theorem dX11_back_18 : decode cX11_back 18 = .ok (.getfield 12, 3) := by decide +kernel
theorem dX11_back_21 : decode cX11_back 21 = .ok (.dup, 1) := by decide +kernel
theorem dX11_back_22 : decode cX11_back 22 = .ok (.getfield 45, 3) := by decide +kernel
theorem dX11_back_25 : decode cX11_back 25 = .ok (.iload_n 1, 1) := by decide +kernel
theorem dX11_back_26 : decode cX11_back 26 = .ok (.isub, 1) := by decide +kernel
theorem dX11_back_27 : decode cX11_back 27 = .ok (.putfield 45, 3) := by decide +kernel
theorem dX11_back_30 : decode cX11_back 30 = .ok (.aload_n 0, 1) := by decide +kernel
theorem dX11_back_31 : decode cX11_back 31 = .ok (.getfield 12, 3) := by decide +kernel
theorem dX11_back_34 : decode cX11_back 34 = .ok (.getfield 45, 3) := by decide +kernel
theorem dX11_back_37 : decode cX11_back 37 = .ok (.ireturn, 1) := by decide +kernel
def fX11_back_0  (h : PH) (x0 : Nat) (x1 : Int32) : Option (PH × Int32) :=
  if x1 < 0 then (some (h, (-1))) else (oC (decide (hT h x0 = 12)) (oN (hR h 1408 x0) (fun a3 => oC (decide (hT h a3 = 1)) (if x1 ≤ (hI h 1 a3) then (oL (sI h 1 a3 ((hI h 1 a3) - x1)) (fun h6 => oN (hR h6 1408 x0) (fun a8 => oC (decide (hT h6 a8 = 1)) (some (h6, (hI h6 1 a8)))))) else (some (h, (-1)))))))
set_option maxHeartbeats 4000000 in
theorem wfX11_back_0 {args : Array Value} (b : Bd p s m c cX11_back 2 RX11 D aC) (hlk : meth.locks = false) (hr : meth.sig.returnType = some .int) {Z : State → Prop} (zs : Z s) (zk : ZOK Z (Rg ad)) {hz : PH} {rz : Int32} {h : PH} {x0 : Nat} {x1 : Int32}  {H : Heap} {locs : List Loc} {ls : Array Slot} (hf : fX11_back_0 h x0 x1 = some (hz, rz)) (hE : CE (EX D aC ad h) (Rg ad) s H locs) (hl : lv_has ls 2 [(0, .ref (ad x0)), (1, .int x1)]) : W p l e (RM 0 0 0 0) s m args below meth c H locs 0 0 (MQ below (PQ (EX D aC ad hz) (Rg ad) (some (.int rz))) args s 0 0 (Rg ad)) (F0 m 0 ls []) := by
  unfold fX11_back_0 at hf
  refine lv_iload_n b.1 b.2.1 dX11_back_0 rfl (lv_at hl 1 rfl) ?_
  refine lv_if_lt (tgt := 15) b.1 b.2.1 dX11_back_1 (by decide) (fun c1 => ?_) (fun c1 => ?_)
  · have hf := oI_t c1 hf
    refine lv_iconst (v := (-1)) b.1 b.2.1 dX11_back_15 (by decide) ?_
    cases hf
    exact k_iret b hlk hr hE (Nat.le_refl _) (Nat.le_refl _) dX11_back_16
  · have hf := oI_f c1 hf
    refine lv_iload_n b.1 b.2.1 dX11_back_4 rfl (lv_at hl 1 rfl) ?_
    refine lv_aload_n b.1 b.2.1 dX11_back_5 rfl (lv_at hl 0 rfl) ?_
    obtain ⟨t2, hf⟩ := oC_s hf
    have t2 := of_decide_eq_true t2
    refine gX11_12 (x := (some x0)) b hE rfl t2 dX11_back_6 ?_
    obtain ⟨a3, ea3, hf⟩ := oN_s hf
    obtain ⟨t4, hf⟩ := oC_s hf
    have t4 := of_decide_eq_true t4
    refine gX11_45 (x := (hR h 1408 x0)) b hE ea3 t4 dX11_back_9 ?_
    refine lv_icmp_le (tgt := 17) b.1 b.2.1 dX11_back_12 (by decide) (fun c5 => ?_) (fun c5 => ?_)
    · have hf := oI_t c5 hf
      refine lv_aload_n b.1 b.2.1 dX11_back_17 rfl (lv_at hl 0 rfl) ?_
      refine gX11_12 (x := (some x0)) b hE rfl t2 dX11_back_18 ?_
      refine lv_dup b.1 b.2.1 dX11_back_21 (rf_cat _) ?_
      refine gX11_45 (x := (hR h 1408 x0)) b hE ea3 t4 dX11_back_22 ?_
      refine lv_iload_n b.1 b.2.1 dX11_back_25 rfl (lv_at hl 1 rfl) ?_
      refine lv_isub b.1 b.2.1 dX11_back_26 ?_
      obtain ⟨h6, eh6, hf⟩ := oL_s hf
      refine pX11_45 (x := (hR h 1408 x0)) b hE ea3 t4 eh6 dX11_back_27 (fun H locs hE => ?_)
      refine lv_aload_n b.1 b.2.1 dX11_back_30 rfl (lv_at hl 0 rfl) ?_
      have t7 := tg_sI eh6 t2
      refine gX11_12 (x := (some x0)) b hE rfl t7 dX11_back_31 ?_
      obtain ⟨a8, ea8, hf⟩ := oN_s hf
      obtain ⟨t9, hf⟩ := oC_s hf
      have t9 := of_decide_eq_true t9
      refine gX11_45 (x := (hR h6 1408 x0)) b hE ea8 t9 dX11_back_34 ?_
      cases hf
      exact k_iret b hlk hr hE (Nat.le_refl _) (Nat.le_refl _) dX11_back_37
    · have hf := oI_f c5 hf
      refine lv_iconst (v := (-1)) b.1 b.2.1 dX11_back_15 (by decide) ?_
      cases hf
      exact k_iret b hlk hr hE (Nat.le_refl _) (Nat.le_refl _) dX11_back_16
def fX11_back (h : PH) (x0 : Nat) (x1 : Int32) : Option (PH × Int32) := fX11_back_0 h x0 x1
set_option maxHeartbeats 4000000 in
theorem CX11_back (l : Launch) (D : va_G) (aC : Nat → ClassId) (ad : Nat → Nat) {Z : State → Prop} (zk : ZOK Z (Rg ad)) {h : PH} {x0 : Nat} {x1 : Int32} {hz : PH} {rz : Int32} (hf : fX11_back h x0 x1 = some (hz, rz)) : CM l D aC Z yX11_back cX11_back 2 (some .int) 0 0 0 0 (EX D aC ad h) [.ref (ad x0), .int x1] (EX D aC ad hz) (some (.int rz)) (Rg ad) := by
  refine CM.of rfl ?_
  intro p e s m below meth c b hr hlk hin2 zs hE
  refine k_ent (Nat.le_of_ble_eq_true rfl) (fun ls hl => ?_)
  exact wfX11_back_0 b hlk hr zs zk hf hE (lv_sub hl [0, 1] rfl)
end
