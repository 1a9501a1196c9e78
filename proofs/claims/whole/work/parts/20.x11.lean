section
variable {p : Program} {l : Launch} {e : Env} {s : State} {m : MethodId} {below : List Frame} {meth : Method} {c : Code} {D : va_G} {aC : Nat → ClassId} {ad : Nat → Nat}
theorem dX6_work_0 : decode cX6_work 0 = .ok (.iconst 0, 1) := by decide +kernel
theorem dX6_work_1 : decode cX6_work 1 = .ok (.istore_n 3, 1) := by decide +kernel
theorem dX6_work_2 : decode cX6_work 2 = .ok (.iconst 0, 1) := by decide +kernel
theorem dX6_work_3 : decode cX6_work 3 = .ok (.iload_n 1, 1) := by decide +kernel
theorem dX6_work_4 : decode cX6_work 4 = .ok (.invokestatic 101, 3) := by decide +kernel
theorem dX6_work_7 : decode cX6_work 7 = .ok (.istore 4, 2) := by decide +kernel
theorem dX6_work_9 : decode cX6_work 9 = .ok (.iload 4, 2) := by decide +kernel
theorem dX6_work_11 : decode cX6_work 11 = .ok (.iload_n 2, 1) := by decide +kernel
theorem dX6_work_12 : decode cX6_work 12 = .ok (.if_icmp .ge 174, 3) := by decide +kernel
theorem dX6_work_15 : decode cX6_work 15 = .ok (.iload 4, 2) := by decide +kernel
theorem dX6_work_17 : decode cX6_work 17 = .ok (.aload_n 0, 1) := by decide +kernel
theorem dX6_work_18 : decode cX6_work 18 = .ok (.getfield 38, 3) := by decide +kernel
theorem dX6_work_21 : decode cX6_work 21 = .ok (.getfield 104, 3) := by decide +kernel
theorem dX6_work_24 : decode cX6_work 24 = .ok (.if_icmp .ge 162, 3) := by decide +kernel
theorem dX6_work_27 : decode cX6_work 27 = .ok (.aload_n 0, 1) := by decide +kernel
theorem dX6_work_28 : decode cX6_work 28 = .ok (.getfield 38, 3) := by decide +kernel
theorem dX6_work_31 : decode cX6_work 31 = .ok (.getfield 107, 3) := by decide +kernel
theorem dX6_work_34 : decode cX6_work 34 = .ok (.iload 4, 2) := by decide +kernel
theorem dX6_work_36 : decode cX6_work 36 = .ok (.iaload, 1) := by decide +kernel
theorem dX6_work_37 : decode cX6_work 37 = .ok (.bipush 20, 2) := by decide +kernel
theorem dX6_work_39 : decode cX6_work 39 = .ok (.ishr, 1) := by decide +kernel
theorem dX6_work_40 : decode cX6_work 40 = .ok (.istore 5, 2) := by decide +kernel
theorem dX6_work_42 : decode cX6_work 42 = .ok (.aload_n 0, 1) := by decide +kernel
theorem dX6_work_43 : decode cX6_work 43 = .ok (.getfield 38, 3) := by decide +kernel
theorem dX6_work_46 : decode cX6_work 46 = .ok (.getfield 107, 3) := by decide +kernel
theorem dX6_work_49 : decode cX6_work 49 = .ok (.iload 4, 2) := by decide +kernel
theorem dX6_work_51 : decode cX6_work 51 = .ok (.iaload, 1) := by decide +kernel
theorem dX6_work_52 : decode cX6_work 52 = .ok (.ldc 110, 2) := by decide +kernel
theorem dX6_work_54 : decode cX6_work 54 = .ok (.iand, 1) := by decide +kernel
theorem dX6_work_55 : decode cX6_work 55 = .ok (.istore 6, 2) := by decide +kernel
theorem dX6_work_57 : decode cX6_work 57 = .ok (.iload 5, 2) := by decide +kernel
theorem dX6_work_59 : decode cX6_work 59 = .ok (.ifCond .eq 9, 3) := by decide +kernel
theorem dX6_work_62 : decode cX6_work 62 = .ok (.iload 5, 2) := by decide +kernel
theorem dX6_work_64 : decode cX6_work 64 = .ok (.iconst 2, 1) := by decide +kernel
theorem dX6_work_65 : decode cX6_work 65 = .ok (.if_icmp .ne 47, 3) := by decide +kernel
theorem dX6_work_68 : decode cX6_work 68 = .ok (.iload 5, 2) := by decide +kernel
theorem dX6_work_70 : decode cX6_work 70 = .ok (.ifCond .ne 9, 3) := by decide +kernel
theorem dX6_work_73 : decode cX6_work 73 = .ok (.iload 6, 2) := by decide +kernel
theorem dX6_work_75 : decode cX6_work 75 = .ok (.i2l, 1) := by decide +kernel
theorem dX6_work_76 : decode cX6_work 76 = .ok (.goto 10, 3) := by decide +kernel
theorem dX6_work_79 : decode cX6_work 79 = .ok (.aload_n 0, 1) := by decide +kernel
theorem dX6_work_80 : decode cX6_work 80 = .ok (.iload 6, 2) := by decide +kernel
theorem dX6_work_82 : decode cX6_work 82 = .ok (.invokevirtual 111, 3) := by decide +kernel
theorem dX6_work_85 : decode cX6_work 85 = .ok (.i2l, 1) := by decide +kernel
theorem dX6_work_86 : decode cX6_work 86 = .ok (.lstore 7, 2) := by decide +kernel
theorem dX6_work_88 : decode cX6_work 88 = .ok (.iload_n 3, 1) := by decide +kernel
theorem dX6_work_89 : decode cX6_work 89 = .ok (.iconst 1, 1) := by decide +kernel
theorem dX6_work_90 : decode cX6_work 90 = .ok (.iadd, 1) := by decide +kernel
theorem dX6_work_91 : decode cX6_work 91 = .ok (.bipush 23, 2) := by decide +kernel
theorem dX6_work_93 : decode cX6_work 93 = .ok (.invokestatic 42, 3) := by decide +kernel
theorem dX6_work_96 : decode cX6_work 96 = .ok (.istore_n 3, 1) := by decide +kernel
theorem dX6_work_97 : decode cX6_work 97 = .ok (.aload_n 0, 1) := by decide +kernel
theorem dX6_work_98 : decode cX6_work 98 = .ok (.getfield 17, 3) := by decide +kernel
theorem dX6_work_101 : decode cX6_work 101 = .ok (.iload_n 3, 1) := by decide +kernel
theorem dX6_work_102 : decode cX6_work 102 = .ok (.aaload, 1) := by decide +kernel
theorem dX6_work_103 : decode cX6_work 103 = .ok (.lload 7, 2) := by decide +kernel
theorem dX6_work_105 : decode cX6_work 105 = .ok (.lconst 1, 1) := by decide +kernel
theorem dX6_work_106 : decode cX6_work 106 = .ok (.invokevirtual 114, 3) := by decide +kernel
theorem dX6_work_109 : decode cX6_work 109 = .ok (.goto 71, 3) := by decide +kernel
theorem dX6_work_112 : decode cX6_work 112 = .ok (.iload 5, 2) := by decide +kernel
theorem dX6_work_114 : decode cX6_work 114 = .ok (.iconst 1, 1) := by decide +kernel
theorem dX6_work_115 : decode cX6_work 115 = .ok (.if_icmp .ne 20, 3) := by decide +kernel
theorem dX6_work_118 : decode cX6_work 118 = .ok (.aload_n 0, 1) := by decide +kernel
theorem dX6_work_119 : decode cX6_work 119 = .ok (.getfield 17, 3) := by decide +kernel
theorem dX6_work_122 : decode cX6_work 122 = .ok (.iload_n 3, 1) := by decide +kernel
theorem dX6_work_123 : decode cX6_work 123 = .ok (.aaload, 1) := by decide +kernel
theorem dX6_work_124 : decode cX6_work 124 = .ok (.lconst 1, 1) := by decide +kernel
theorem dX6_work_125 : decode cX6_work 125 = .ok (.iload 6, 2) := by decide +kernel
theorem dX6_work_127 : decode cX6_work 127 = .ok (.i2l, 1) := by decide +kernel
theorem dX6_work_128 : decode cX6_work 128 = .ok (.iconst 0, 1) := by decide +kernel
theorem dX6_work_129 : decode cX6_work 129 = .ok (.invokevirtual 118, 3) := by decide +kernel
theorem dX6_work_132 : decode cX6_work 132 = .ok (.goto 48, 3) := by decide +kernel
theorem dX6_work_135 : decode cX6_work 135 = .ok (.iload 5, 2) := by decide +kernel
theorem dX6_work_137 : decode cX6_work 137 = .ok (.iconst 3, 1) := by decide +kernel
theorem dX6_work_138 : decode cX6_work 138 = .ok (.if_icmp .ne 15, 3) := by decide +kernel
theorem dX6_work_141 : decode cX6_work 141 = .ok (.aload_n 0, 1) := by decide +kernel
theorem dX6_work_142 : decode cX6_work 142 = .ok (.getfield 17, 3) := by decide +kernel
theorem dX6_work_145 : decode cX6_work 145 = .ok (.iload_n 3, 1) := by decide +kernel
theorem dX6_work_146 : decode cX6_work 146 = .ok (.aaload, 1) := by decide +kernel
theorem dX6_work_147 : decode cX6_work 147 = .ok (.invokevirtual 122, 3) := by decide +kernel
theorem dX6_work_150 : decode cX6_work 150 = .ok (.goto 30, 3) := by decide +kernel
theorem dX6_work_153 : decode cX6_work 153 = .ok (.iload_n 3, 1) := by decide +kernel
theorem dX6_work_154 : decode cX6_work 154 = .ok (.iconst 1, 1) := by decide +kernel
theorem dX6_work_155 : decode cX6_work 155 = .ok (.isub, 1) := by decide +kernel
theorem dX6_work_156 : decode cX6_work 156 = .ok (.iconst 0, 1) := by decide +kernel
theorem dX6_work_157 : decode cX6_work 157 = .ok (.invokestatic 101, 3) := by decide +kernel
theorem dX6_work_160 : decode cX6_work 160 = .ok (.istore_n 3, 1) := by decide +kernel
theorem dX6_work_161 : decode cX6_work 161 = .ok (.iload 5, 2) := by decide +kernel
theorem dX6_work_163 : decode cX6_work 163 = .ok (.aload_n 0, 1) := by decide +kernel
theorem dX6_work_164 : decode cX6_work 164 = .ok (.getfield 17, 3) := by decide +kernel
theorem dX6_work_167 : decode cX6_work 167 = .ok (.iload_n 3, 1) := by decide +kernel
theorem dX6_work_168 : decode cX6_work 168 = .ok (.aaload, 1) := by decide +kernel
theorem dX6_work_169 : decode cX6_work 169 = .ok (.aload_n 0, 1) := by decide +kernel
theorem dX6_work_170 : decode cX6_work 170 = .ok (.getfield 17, 3) := by decide +kernel
theorem dX6_work_173 : decode cX6_work 173 = .ok (.iload_n 3, 1) := by decide +kernel
theorem dX6_work_174 : decode cX6_work 174 = .ok (.iconst 1, 1) := by decide +kernel
theorem dX6_work_175 : decode cX6_work 175 = .ok (.iadd, 1) := by decide +kernel
theorem dX6_work_176 : decode cX6_work 176 = .ok (.aaload, 1) := by decide +kernel
theorem dX6_work_177 : decode cX6_work 177 = .ok (.invokestatic 125, 3) := by decide +kernel
theorem dX6_work_180 : decode cX6_work 180 = .ok (.iinc 4 1, 3) := by decide +kernel
theorem dX6_work_183 : decode cX6_work 183 = .ok (.goto (-174), 3) := by decide +kernel
theorem dX6_work_186 : decode cX6_work 186 = .ok (.aload_n 0, 1) := by decide +kernel
theorem dX6_work_187 : decode cX6_work 187 = .ok (.getfield 17, 3) := by decide +kernel
theorem dX6_work_190 : decode cX6_work 190 = .ok (.iload_n 3, 1) := by decide +kernel
theorem dX6_work_191 : decode cX6_work 191 = .ok (.aaload, 1) := by decide +kernel
theorem dX6_work_192 : decode cX6_work 192 = .ok (.areturn, 1) := by decide +kernel
def fX6_work_186  (h : PH) (x0 : Nat) (x3 : Int32) : Option (PH × Option Nat) :=
  oC (decide (hT h x0 = 7)) (oN (hR h 770 x0) (fun a2 => oC (decide (hT h a2 = 107)) (oC (ix x3 (hN h a2)) (some (h, (hC h a2 (Int32.toNatClampNeg x3)))))))
set_option maxHeartbeats 4000000 in
theorem wfX6_work_186 {args : Array Value} (b : Bd p s m c cX6_work 9 RX6 D aC) (hlk : meth.locks = false) (hr : meth.sig.returnType = some (.object "StatuteBench$Fraction")) {Z : State → Prop} (zs : Z s) (zk : ZOK Z (Rg ad)) {hz : PH} {rz : Option Nat} {h : PH} {x0 : Nat} {x3 : Int32}  {H : Heap} {locs : List Loc} {ls : Array Slot} (hf : fX6_work_186 h x0 x3 = some (hz, rz)) (hE : CE (EX D aC ad h) (Rg ad) s H locs) (hl : lv_has ls 9 [(0, .ref (ad x0)), (3, .int x3)]) : W p l e (RM 4 102 0 0) s m args below meth c H locs 0 0 (MQ below (PQ (EX D aC ad hz) (Rg ad) (some (va_rf (Option.map ad rz)))) args s 0 0 (Rg ad)) (F0 m 186 ls []) := by
  unfold fX6_work_186 at hf
  refine lv_aload_n b.1 b.2.1 dX6_work_186 rfl (lv_at hl 0 rfl) ?_
  obtain ⟨t1, hf⟩ := oC_s hf
  have t1 := of_decide_eq_true t1
  refine gX6_17 (x := (some x0)) b hE rfl t1 dX6_work_187 ?_
  refine lv_iload_n b.1 b.2.1 dX6_work_190 rfl (lv_at hl 1 rfl) ?_
  obtain ⟨a2, ea2, hf⟩ := oN_s hf
  obtain ⟨t3, hf⟩ := oC_s hf
  have t3 := of_decide_eq_true t3
  obtain ⟨g4, hf⟩ := oC_s hf
  refine q_aald7 (x := (hR h 770 x0)) b hE ea2 t3 g4 dX6_work_191 ?_
  cases hf
  exact k_aret b hlk hr hE (Nat.le_refl _) (Nat.le_refl _) dX6_work_192
def fX6_work_180 (k9 : PH → Nat → Int32 → Int32 → Int32 → Option (PH × Option Nat)) (h : PH) (x0 : Nat) (x2 : Int32) (x3 : Int32) (x4 : Int32) : Option (PH × Option Nat) :=
  oL (x4 + 1) (fun y5 => k9 h x0 x2 x3 y5)
set_option maxHeartbeats 4000000 in
theorem wfX6_work_180 {args : Array Value} (b : Bd p s m c cX6_work 9 RX6 D aC) (hlk : meth.locks = false) (hr : meth.sig.returnType = some (.object "StatuteBench$Fraction")) {Z : State → Prop} (zs : Z s) (zk : ZOK Z (Rg ad)) {hz : PH} {rz : Option Nat} {k9 : PH → Nat → Int32 → Int32 → Int32 → Option (PH × Option Nat)} (H9 : ∀ (h : PH) (x0 : Nat) (x2 : Int32) (x3 : Int32) (x4 : Int32), ∀ (H : Heap) (locs : List Loc) (ls : Array Slot), k9 h x0 x2 x3 x4 = some (hz, rz) → CE (EX D aC ad h) (Rg ad) s H locs → lv_has ls 9 [(0, .ref (ad x0)), (2, .int x2), (3, .int x3), (4, .int x4)] → W p l e (RM 4 102 0 0) s m args below meth c H locs 0 0 (MQ below (PQ (EX D aC ad hz) (Rg ad) (some (va_rf (Option.map ad rz)))) args s 0 0 (Rg ad)) (F0 m 9 ls [])) {h : PH} {x0 : Nat} {x2 : Int32} {x3 : Int32} {x4 : Int32}  {H : Heap} {locs : List Loc} {ls : Array Slot} (hf : fX6_work_180 k9 h x0 x2 x3 x4 = some (hz, rz)) (hE : CE (EX D aC ad h) (Rg ad) s H locs) (hl : lv_has ls 9 [(0, .ref (ad x0)), (2, .int x2), (3, .int x3), (4, .int x4)]) : W p l e (RM 4 102 0 0) s m args below meth c H locs 0 0 (MQ below (PQ (EX D aC ad hz) (Rg ad) (some (va_rf (Option.map ad rz)))) args s 0 0 (Rg ad)) (F0 m 180 ls []) := by
  unfold fX6_work_180 at hf
  obtain ⟨y5, ey5, hf⟩ := oL_s hf
  refine lv_iinc (v := y5) (lv' := [(4, .int y5), (0, .ref (ad x0)), (2, .int x2), (3, .int x3)]) b.1 b.2.1 dX6_work_180 hl (k := 3) rfl (by rw [ey5]; rfl) (by decide) rfl (fun ls hl => ?_)
  refine lv_goto (tgt := 9) b.1 b.2.1 dX6_work_183 (by decide) ?_
  exact H9 h x0 x2 x3 y5 _ _ _ hf hE (lv_sub hl [1, 2, 3, 0] rfl)
def fX6_work_86 (k9 : PH → Nat → Int32 → Int32 → Int32 → Option (PH × Option Nat)) (h : PH) (x0 : Nat) (x2 : Int32) (x3 : Int32) (x4 : Int32) (s0 : Int64) : Option (PH × Option Nat) :=
  oL (if 23 < (x3 + 1) then 23 else (x3 + 1)) (fun y6 => oC (decide (hT h x0 = 7)) (oN (hR h 770 x0) (fun a8 => oC (decide (hT h a8 = 107)) (oC (ix y6 (hN h a8)) (oN (hC h a8 (Int32.toNatClampNeg y6)) (fun a11 => oC (decide (hT h a11 = 4)) (oB (fX3_become h a11 s0 1) (fun h14 => fX6_work_180 k9 h14 x0 x2 y6 x4))))))))
set_option maxHeartbeats 4000000 in
theorem wfX6_work_86 {args : Array Value} (b : Bd p s m c cX6_work 9 RX6 D aC) (hlk : meth.locks = false) (hr : meth.sig.returnType = some (.object "StatuteBench$Fraction")) {Z : State → Prop} (zs : Z s) (zk : ZOK Z (Rg ad)) {hz : PH} {rz : Option Nat} {k9 : PH → Nat → Int32 → Int32 → Int32 → Option (PH × Option Nat)} (H9 : ∀ (h : PH) (x0 : Nat) (x2 : Int32) (x3 : Int32) (x4 : Int32), ∀ (H : Heap) (locs : List Loc) (ls : Array Slot), k9 h x0 x2 x3 x4 = some (hz, rz) → CE (EX D aC ad h) (Rg ad) s H locs → lv_has ls 9 [(0, .ref (ad x0)), (2, .int x2), (3, .int x3), (4, .int x4)] → W p l e (RM 4 102 0 0) s m args below meth c H locs 0 0 (MQ below (PQ (EX D aC ad hz) (Rg ad) (some (va_rf (Option.map ad rz)))) args s 0 0 (Rg ad)) (F0 m 9 ls [])) {h : PH} {x0 : Nat} {x2 : Int32} {x3 : Int32} {x4 : Int32} {s0 : Int64}  {H : Heap} {locs : List Loc} {ls : Array Slot} (hf : fX6_work_86 k9 h x0 x2 x3 x4 s0 = some (hz, rz)) (hE : CE (EX D aC ad h) (Rg ad) s H locs) (hl : lv_has ls 9 [(0, .ref (ad x0)), (2, .int x2), (3, .int x3), (4, .int x4)]) : W p l e (RM 4 102 0 0) s m args below meth c H locs 0 0 (MQ below (PQ (EX D aC ad hz) (Rg ad) (some (va_rf (Option.map ad rz)))) args s 0 0 (Rg ad)) (F0 m 86 ls [.long s0]) := by
  unfold fX6_work_86 at hf
  refine lv_lstore (lv' := [(7, .long s0), (0, .ref (ad x0)), (2, .int x2), (3, .int x3), (4, .int x4)]) b.1 b.2.1 dX6_work_86 hl (by decide) rfl (fun ls hl => ?_)
  refine lv_iload_n b.1 b.2.1 dX6_work_88 rfl (lv_at hl 3 rfl) ?_
  refine lv_iconst (v := 1) b.1 b.2.1 dX6_work_89 (by decide) ?_
  refine lv_iadd b.1 b.2.1 dX6_work_90 ?_
  refine lv_bipush (v := 23) b.1 b.2.1 dX6_work_91 (by decide) ?_
  refine k_min b (in4 195 rfl rfl) mthmin_s mth_i mthmin_c hl.1 ⟨Nat.le_of_ble_eq_true rfl, Nat.le_of_ble_eq_true rfl⟩ (Nat.le_of_ble_eq_true rfl) ⟨Nat.le_refl _, Nat.le_refl _⟩ dX6_work_93 ?_
  obtain ⟨y6, ey6, hf⟩ := oL_s hf
  refine k_nmI ey6 ?_
  refine lv_istore_n (lv' := [(3, .int y6), (7, .long s0), (0, .ref (ad x0)), (2, .int x2), (4, .int x4)]) b.1 b.2.1 dX6_work_96 rfl hl (by decide) rfl (fun ls hl => ?_)
  refine lv_aload_n b.1 b.2.1 dX6_work_97 rfl (lv_at hl 2 rfl) ?_
  obtain ⟨t7, hf⟩ := oC_s hf
  have t7 := of_decide_eq_true t7
  refine gX6_17 (x := (some x0)) b hE rfl t7 dX6_work_98 ?_
  refine lv_iload_n b.1 b.2.1 dX6_work_101 rfl (lv_at hl 0 rfl) ?_
  obtain ⟨a8, ea8, hf⟩ := oN_s hf
  obtain ⟨t9, hf⟩ := oC_s hf
  have t9 := of_decide_eq_true t9
  obtain ⟨g10, hf⟩ := oC_s hf
  refine q_aald7 (x := (hR h 770 x0)) b hE ea8 t9 g10 dX6_work_102 ?_
  refine lv_lload b.1 b.2.1 dX6_work_103 (lv_at hl 1 rfl) ?_
  refine lv_lconst (v := 1) b.1 b.2.1 dX6_work_105 rfl ?_
  obtain ⟨a11, ea11, hf⟩ := oN_s hf
  obtain ⟨t12, hf⟩ := oC_s hf
  have t12 := of_decide_eq_true t12
  obtain ⟨h14, hc13, hf⟩ := oB_s hf
  refine k_stk [.long 1, .long s0] ea11 ?_
  refine k_callV0 (C := RX3) b zs zk hE (CX3_become l D aC ad zk hc13) mc_X3_become (in4 218 rfl rfl) mi_X3_become ms_X3_become ini_RX3 ok_X3_become (x_recv b hE (ci := 3) rfl (by decide) t12) ⟨Nat.le_of_ble_eq_true rfl, Nat.le_of_ble_eq_true rfl⟩ rfl hl.1 rfl (k_room _ (by exact Nat.le_of_ble_eq_true rfl)) ⟨Nat.le_refl _, Nat.le_refl _⟩ dX6_work_106 (fun H locs hE => ?_)
  refine lv_goto (tgt := 180) b.1 b.2.1 dX6_work_109 (by decide) ?_
  exact wfX6_work_180 b hlk hr zs zk H9 hf hE (lv_sub hl [2, 3, 0, 4] rfl)
def fX6_work_68 (k9 : PH → Nat → Int32 → Int32 → Int32 → Option (PH × Option Nat)) (h : PH) (x0 : Nat) (x2 : Int32) (x3 : Int32) (x4 : Int32) (x5 : Int32) (x6 : Int32) : Option (PH × Option Nat) :=
  if x5 = 0 then (fX6_work_86 k9 h x0 x2 x3 x4 (Int32.toInt64 x6)) else (oC (decide (hT h x0 = 7)) (oB (fX6_numberOf h x0 x6) (fun r18 => fX6_work_86 k9 h x0 x2 x3 x4 (Int32.toInt64 r18))))
set_option maxHeartbeats 4000000 in
theorem wfX6_work_68 {args : Array Value} (b : Bd p s m c cX6_work 9 RX6 D aC) (hlk : meth.locks = false) (hr : meth.sig.returnType = some (.object "StatuteBench$Fraction")) {Z : State → Prop} (zs : Z s) (zk : ZOK Z (Rg ad)) {hz : PH} {rz : Option Nat} {k9 : PH → Nat → Int32 → Int32 → Int32 → Option (PH × Option Nat)} (H9 : ∀ (h : PH) (x0 : Nat) (x2 : Int32) (x3 : Int32) (x4 : Int32), ∀ (H : Heap) (locs : List Loc) (ls : Array Slot), k9 h x0 x2 x3 x4 = some (hz, rz) → CE (EX D aC ad h) (Rg ad) s H locs → lv_has ls 9 [(0, .ref (ad x0)), (2, .int x2), (3, .int x3), (4, .int x4)] → W p l e (RM 4 102 0 0) s m args below meth c H locs 0 0 (MQ below (PQ (EX D aC ad hz) (Rg ad) (some (va_rf (Option.map ad rz)))) args s 0 0 (Rg ad)) (F0 m 9 ls [])) {h : PH} {x0 : Nat} {x2 : Int32} {x3 : Int32} {x4 : Int32} {x5 : Int32} {x6 : Int32}  {H : Heap} {locs : List Loc} {ls : Array Slot} (hf : fX6_work_68 k9 h x0 x2 x3 x4 x5 x6 = some (hz, rz)) (hE : CE (EX D aC ad h) (Rg ad) s H locs) (hl : lv_has ls 9 [(0, .ref (ad x0)), (2, .int x2), (3, .int x3), (4, .int x4), (5, .int x5), (6, .int x6)]) : W p l e (RM 4 102 0 0) s m args below meth c H locs 0 0 (MQ below (PQ (EX D aC ad hz) (Rg ad) (some (va_rf (Option.map ad rz)))) args s 0 0 (Rg ad)) (F0 m 68 ls []) := by
  unfold fX6_work_68 at hf
  refine lv_iload b.1 b.2.1 dX6_work_68 (lv_at hl 4 rfl) ?_
  refine lv_if_ne (tgt := 79) b.1 b.2.1 dX6_work_70 (by decide) (fun c15 => ?_) (fun c15 => ?_)
  · have hf := oI_f c15 hf
    refine lv_aload_n b.1 b.2.1 dX6_work_79 rfl (lv_at hl 0 rfl) ?_
    refine lv_iload b.1 b.2.1 dX6_work_80 (lv_at hl 5 rfl) ?_
    obtain ⟨t16, hf⟩ := oC_s hf
    have t16 := of_decide_eq_true t16
    obtain ⟨r18, hc17, hf⟩ := oB_s hf
    refine k_callV0 (C := RX6) b zs zk hE (CX6_numberOf l D aC ad zk hc17) mc_X6_numberOf (in4 214 rfl rfl) mi_X6_numberOf ms_X6_numberOf ini_RX6 ok_X6_numberOf (x_recv b hE (ci := 6) rfl (by decide) t16) ⟨Nat.le_of_ble_eq_true rfl, Nat.le_of_ble_eq_true rfl⟩ rfl hl.1 rfl (k_room _ (by exact Nat.le_of_ble_eq_true rfl)) ⟨Nat.le_refl _, Nat.le_refl _⟩ dX6_work_82 (fun H locs hE => ?_)
    refine lv_i2l b.1 b.2.1 dX6_work_85 rfl ?_
    exact wfX6_work_86 b hlk hr zs zk H9 hf hE (lv_sub hl [0, 1, 2, 3] rfl)
  · have hf := oI_t c15 hf
    refine lv_iload b.1 b.2.1 dX6_work_73 (lv_at hl 5 rfl) ?_
    refine lv_i2l b.1 b.2.1 dX6_work_75 rfl ?_
    refine lv_goto (tgt := 86) b.1 b.2.1 dX6_work_76 (by decide) ?_
    exact wfX6_work_86 b hlk hr zs zk H9 hf hE (lv_sub hl [0, 1, 2, 3] rfl)
def fX6_work_9F (k9 : PH → Nat → Int32 → Int32 → Int32 → Option (PH × Option Nat)) (h : PH) (x0 : Nat) (x2 : Int32) (x3 : Int32) (x4 : Int32) : Option (PH × Option Nat) :=
  if x2 ≤ x4 then (fX6_work_186  h x0 x3) else (oC (decide (hT h x0 = 7)) (oN (hR h 768 x0) (fun a21 => oC (decide (hT h a21 = 2)) (if (hI h 142 a21) ≤ x4 then (fX6_work_186  h x0 x3) else (oN (hR h 141 a21) (fun a24 => oC (decide (hT h a24 = 101)) (oC (ix x4 (hN h a24)) (oL ((hA h a24 (Int32.toNatClampNeg x4)) >>> (20 &&& 31)) (fun y27 => oC (ix x4 (hN h a24)) (oL ((hA h a24 (Int32.toNatClampNeg x4)) &&& 1048575) (fun y29 => if y27 = 0 then (fX6_work_68 k9 h x0 x2 x3 x4 y27 y29) else (if y27 = 2 then (fX6_work_68 k9 h x0 x2 x3 x4 y27 y29) else (if y27 = 1 then (oN (hR h 770 x0) (fun a48 => oC (decide (hT h a48 = 107)) (oC (ix x3 (hN h a48)) (oN (hC h a48 (Int32.toNatClampNeg x3)) (fun a51 => oC (decide (hT h a51 = 4)) (oB (fX3_multiply h a51 1 (Int32.toInt64 y29) 0) (fun h54 => fX6_work_180 k9 h54 x0 x2 x3 x4))))))) else (if y27 = 3 then (oN (hR h 770 x0) (fun a41 => oC (decide (hT h a41 = 107)) (oC (ix x3 (hN h a41)) (oN (hC h a41 (Int32.toNatClampNeg x3)) (fun a44 => oC (decide (hT h a44 = 4)) (oB (fX3_negate h a44) (fun h47 => fX6_work_180 k9 h47 x0 x2 x3 x4))))))) else (oL (if (x3 - 1) < 0 then 0 else (x3 - 1)) (fun y34 => oN (hR h 770 x0) (fun a35 => oC (decide (hT h a35 = 107)) (oC (ix y34 (hN h a35)) (oC (ix (y34 + 1) (hN h a35)) (oB (fX6_combine h y27 (hC h a35 (Int32.toNatClampNeg y34)) (hC h a35 (Int32.toNatClampNeg (y34 + 1)))) (fun h40 => fX6_work_180 k9 h40 x0 x2 y34 x4)))))))))))))))))))))
set_option maxHeartbeats 4000000 in
theorem wfX6_work_9F {args : Array Value} (b : Bd p s m c cX6_work 9 RX6 D aC) (hlk : meth.locks = false) (hr : meth.sig.returnType = some (.object "StatuteBench$Fraction")) {Z : State → Prop} (zs : Z s) (zk : ZOK Z (Rg ad)) {hz : PH} {rz : Option Nat} {k9 : PH → Nat → Int32 → Int32 → Int32 → Option (PH × Option Nat)} (H9 : ∀ (h : PH) (x0 : Nat) (x2 : Int32) (x3 : Int32) (x4 : Int32), ∀ (H : Heap) (locs : List Loc) (ls : Array Slot), k9 h x0 x2 x3 x4 = some (hz, rz) → CE (EX D aC ad h) (Rg ad) s H locs → lv_has ls 9 [(0, .ref (ad x0)), (2, .int x2), (3, .int x3), (4, .int x4)] → W p l e (RM 4 102 0 0) s m args below meth c H locs 0 0 (MQ below (PQ (EX D aC ad hz) (Rg ad) (some (va_rf (Option.map ad rz)))) args s 0 0 (Rg ad)) (F0 m 9 ls [])) {h : PH} {x0 : Nat} {x2 : Int32} {x3 : Int32} {x4 : Int32}  {H : Heap} {locs : List Loc} {ls : Array Slot} (hf : fX6_work_9F k9 h x0 x2 x3 x4 = some (hz, rz)) (hE : CE (EX D aC ad h) (Rg ad) s H locs) (hl : lv_has ls 9 [(0, .ref (ad x0)), (2, .int x2), (3, .int x3), (4, .int x4)]) : W p l e (RM 4 102 0 0) s m args below meth c H locs 0 0 (MQ below (PQ (EX D aC ad hz) (Rg ad) (some (va_rf (Option.map ad rz)))) args s 0 0 (Rg ad)) (F0 m 9 ls []) := by
  unfold fX6_work_9F at hf
  refine lv_iload b.1 b.2.1 dX6_work_9 (lv_at hl 3 rfl) ?_
  refine lv_iload_n b.1 b.2.1 dX6_work_11 rfl (lv_at hl 1 rfl) ?_
  refine lv_icmp_ge (tgt := 186) b.1 b.2.1 dX6_work_12 (by decide) (fun c19 => ?_) (fun c19 => ?_)
  · have hf := oI_t c19 hf
    exact wfX6_work_186 b hlk hr zs zk  hf hE (lv_sub hl [0, 2] rfl)
  · have hf := oI_f c19 hf
    refine lv_iload b.1 b.2.1 dX6_work_15 (lv_at hl 3 rfl) ?_
    refine lv_aload_n b.1 b.2.1 dX6_work_17 rfl (lv_at hl 0 rfl) ?_
    obtain ⟨t20, hf⟩ := oC_s hf
    have t20 := of_decide_eq_true t20
    refine gX6_38 (x := (some x0)) b hE rfl t20 dX6_work_18 ?_
    obtain ⟨a21, ea21, hf⟩ := oN_s hf
    obtain ⟨t22, hf⟩ := oC_s hf
    have t22 := of_decide_eq_true t22
    refine gX6_104 (x := (hR h 768 x0)) b hE ea21 t22 dX6_work_21 ?_
    refine lv_icmp_ge (tgt := 186) b.1 b.2.1 dX6_work_24 (by decide) (fun c23 => ?_) (fun c23 => ?_)
    · have hf := oI_t c23 hf
      exact wfX6_work_186 b hlk hr zs zk  hf hE (lv_sub hl [0, 2] rfl)
    · have hf := oI_f c23 hf
      refine lv_aload_n b.1 b.2.1 dX6_work_27 rfl (lv_at hl 0 rfl) ?_
      refine gX6_38 (x := (some x0)) b hE rfl t20 dX6_work_28 ?_
      refine gX6_107 (x := (hR h 768 x0)) b hE ea21 t22 dX6_work_31 ?_
      refine lv_iload b.1 b.2.1 dX6_work_34 (lv_at hl 3 rfl) ?_
      obtain ⟨a24, ea24, hf⟩ := oN_s hf
      obtain ⟨t25, hf⟩ := oC_s hf
      have t25 := of_decide_eq_true t25
      obtain ⟨g26, hf⟩ := oC_s hf
      refine q_iald (x := (hR h 141 a21)) b hE ea24 t25 g26 dX6_work_36 ?_
      refine lv_bipush (v := 20) b.1 b.2.1 dX6_work_37 (by decide) ?_
      refine lv_ishr b.1 b.2.1 dX6_work_39 ?_
      obtain ⟨y27, ey27, hf⟩ := oL_s hf
      refine k_nmI ey27 ?_
      refine lv_istore (lv' := [(5, .int y27), (0, .ref (ad x0)), (2, .int x2), (3, .int x3), (4, .int x4)]) b.1 b.2.1 dX6_work_40 hl (by decide) rfl (fun ls hl => ?_)
      refine lv_aload_n b.1 b.2.1 dX6_work_42 rfl (lv_at hl 1 rfl) ?_
      refine gX6_38 (x := (some x0)) b hE rfl t20 dX6_work_43 ?_
      refine gX6_107 (x := (hR h 768 x0)) b hE ea21 t22 dX6_work_46 ?_
      refine lv_iload b.1 b.2.1 dX6_work_49 (lv_at hl 4 rfl) ?_
      obtain ⟨g28, hf⟩ := oC_s hf
      refine q_iald (x := (hR h 141 a21)) b hE ea24 t25 g28 dX6_work_51 ?_
      refine k_ldc (v := 1048575) b (in4 213 rfl rfl) dX6_work_52 ?_
      refine lv_iand b.1 b.2.1 dX6_work_54 ?_
      obtain ⟨y29, ey29, hf⟩ := oL_s hf
      refine k_nmI ey29 ?_
      refine lv_istore (lv' := [(6, .int y29), (5, .int y27), (0, .ref (ad x0)), (2, .int x2), (3, .int x3), (4, .int x4)]) b.1 b.2.1 dX6_work_55 hl (by decide) rfl (fun ls hl => ?_)
      refine lv_iload b.1 b.2.1 dX6_work_57 (lv_at hl 1 rfl) ?_
      refine lv_if_eq (tgt := 68) b.1 b.2.1 dX6_work_59 (by decide) (fun c30 => ?_) (fun c30 => ?_)
      · have hf := oI_t c30 hf
        exact wfX6_work_68 b hlk hr zs zk H9 hf hE (lv_sub hl [2, 3, 4, 5, 1, 0] rfl)
      · have hf := oI_f c30 hf
        refine lv_iload b.1 b.2.1 dX6_work_62 (lv_at hl 1 rfl) ?_
        refine lv_iconst (v := 2) b.1 b.2.1 dX6_work_64 (by decide) ?_
        refine lv_icmp_ne (tgt := 112) b.1 b.2.1 dX6_work_65 (by decide) (fun c31 => ?_) (fun c31 => ?_)
        · have hf := oI_f c31 hf
          refine lv_iload b.1 b.2.1 dX6_work_112 (lv_at hl 1 rfl) ?_
          refine lv_iconst (v := 1) b.1 b.2.1 dX6_work_114 (by decide) ?_
          refine lv_icmp_ne (tgt := 135) b.1 b.2.1 dX6_work_115 (by decide) (fun c32 => ?_) (fun c32 => ?_)
          · have hf := oI_f c32 hf
            refine lv_iload b.1 b.2.1 dX6_work_135 (lv_at hl 1 rfl) ?_
            refine lv_iconst (v := 3) b.1 b.2.1 dX6_work_137 (by decide) ?_
            refine lv_icmp_ne (tgt := 153) b.1 b.2.1 dX6_work_138 (by decide) (fun c33 => ?_) (fun c33 => ?_)
            · have hf := oI_f c33 hf
              refine lv_iload_n b.1 b.2.1 dX6_work_153 rfl (lv_at hl 4 rfl) ?_
              refine lv_iconst (v := 1) b.1 b.2.1 dX6_work_154 (by decide) ?_
              refine lv_isub b.1 b.2.1 dX6_work_155 ?_
              refine lv_iconst (v := 0) b.1 b.2.1 dX6_work_156 (by decide) ?_
              refine k_max b (in4 212 rfl rfl) mthmax_s mth_i mthmax_c hl.1 ⟨Nat.le_of_ble_eq_true rfl, Nat.le_of_ble_eq_true rfl⟩ (Nat.le_of_ble_eq_true rfl) ⟨Nat.le_refl _, Nat.le_refl _⟩ dX6_work_157 ?_
              obtain ⟨y34, ey34, hf⟩ := oL_s hf
              refine k_nmI ey34 ?_
              refine lv_istore_n (lv' := [(3, .int y34), (6, .int y29), (5, .int y27), (0, .ref (ad x0)), (2, .int x2), (4, .int x4)]) b.1 b.2.1 dX6_work_160 rfl hl (by decide) rfl (fun ls hl => ?_)
              have hl := lv_sub (l' := [(3, .int y34), (5, .int y27), (0, .ref (ad x0)), (2, .int x2), (4, .int x4)]) hl [0, 2, 3, 4, 5] rfl
              refine lv_iload b.1 b.2.1 dX6_work_161 (lv_at hl 1 rfl) ?_
              refine lv_aload_n b.1 b.2.1 dX6_work_163 rfl (lv_at hl 2 rfl) ?_
              refine gX6_17 (x := (some x0)) b hE rfl t20 dX6_work_164 ?_
              refine lv_iload_n b.1 b.2.1 dX6_work_167 rfl (lv_at hl 0 rfl) ?_
              obtain ⟨a35, ea35, hf⟩ := oN_s hf
              obtain ⟨t36, hf⟩ := oC_s hf
              have t36 := of_decide_eq_true t36
              obtain ⟨g37, hf⟩ := oC_s hf
              refine q_aald7 (x := (hR h 770 x0)) b hE ea35 t36 g37 dX6_work_168 ?_
              refine lv_aload_n b.1 b.2.1 dX6_work_169 rfl (lv_at hl 2 rfl) ?_
              refine gX6_17 (x := (some x0)) b hE rfl t20 dX6_work_170 ?_
              refine lv_iload_n b.1 b.2.1 dX6_work_173 rfl (lv_at hl 0 rfl) ?_
              refine lv_iconst (v := 1) b.1 b.2.1 dX6_work_174 (by decide) ?_
              refine lv_iadd b.1 b.2.1 dX6_work_175 ?_
              obtain ⟨g38, hf⟩ := oC_s hf
              refine q_aald7 (x := (hR h 770 x0)) b hE ea35 t36 g38 dX6_work_176 ?_
              obtain ⟨h40, hc39, hf⟩ := oB_s hf
              refine k_callS0 b zs zk hE (CX6_combine l D aC ad zk hc39) mc_X6_combine (in4 235 rfl rfl) mt_X6_combine ini_RX6 ok_X6_combine ⟨Nat.le_of_ble_eq_true rfl, Nat.le_of_ble_eq_true rfl⟩ rfl hl.1 rfl (k_room _ (by exact Nat.le_of_ble_eq_true rfl)) ⟨Nat.le_refl _, Nat.le_refl _⟩ dX6_work_177 (fun H locs hE => ?_)
              exact wfX6_work_180 b hlk hr zs zk H9 hf hE (lv_sub hl [2, 3, 0, 4] rfl)
            · have hf := oI_t c33 hf
              refine lv_aload_n b.1 b.2.1 dX6_work_141 rfl (lv_at hl 2 rfl) ?_
              refine gX6_17 (x := (some x0)) b hE rfl t20 dX6_work_142 ?_
              refine lv_iload_n b.1 b.2.1 dX6_work_145 rfl (lv_at hl 4 rfl) ?_
              obtain ⟨a41, ea41, hf⟩ := oN_s hf
              obtain ⟨t42, hf⟩ := oC_s hf
              have t42 := of_decide_eq_true t42
              obtain ⟨g43, hf⟩ := oC_s hf
              refine q_aald7 (x := (hR h 770 x0)) b hE ea41 t42 g43 dX6_work_146 ?_
              obtain ⟨a44, ea44, hf⟩ := oN_s hf
              obtain ⟨t45, hf⟩ := oC_s hf
              have t45 := of_decide_eq_true t45
              obtain ⟨h47, hc46, hf⟩ := oB_s hf
              refine k_stk [] ea44 ?_
              refine k_callV0 (C := RX3) b zs zk hE (CX3_negate l D aC ad zk hc46) mc_X3_negate (in4 231 rfl rfl) mi_X3_negate ms_X3_negate ini_RX3 ok_X3_negate (x_recv b hE (ci := 3) rfl (by decide) t45) ⟨Nat.le_of_ble_eq_true rfl, Nat.le_of_ble_eq_true rfl⟩ rfl hl.1 rfl (k_room _ (by exact Nat.le_of_ble_eq_true rfl)) ⟨Nat.le_refl _, Nat.le_refl _⟩ dX6_work_147 (fun H locs hE => ?_)
              refine lv_goto (tgt := 180) b.1 b.2.1 dX6_work_150 (by decide) ?_
              exact wfX6_work_180 b hlk hr zs zk H9 hf hE (lv_sub hl [2, 3, 4, 5] rfl)
          · have hf := oI_t c32 hf
            refine lv_aload_n b.1 b.2.1 dX6_work_118 rfl (lv_at hl 2 rfl) ?_
            refine gX6_17 (x := (some x0)) b hE rfl t20 dX6_work_119 ?_
            refine lv_iload_n b.1 b.2.1 dX6_work_122 rfl (lv_at hl 4 rfl) ?_
            obtain ⟨a48, ea48, hf⟩ := oN_s hf
            obtain ⟨t49, hf⟩ := oC_s hf
            have t49 := of_decide_eq_true t49
            obtain ⟨g50, hf⟩ := oC_s hf
            refine q_aald7 (x := (hR h 770 x0)) b hE ea48 t49 g50 dX6_work_123 ?_
            refine lv_lconst (v := 1) b.1 b.2.1 dX6_work_124 rfl ?_
            refine lv_iload b.1 b.2.1 dX6_work_125 (lv_at hl 0 rfl) ?_
            refine lv_i2l b.1 b.2.1 dX6_work_127 rfl ?_
            refine lv_iconst (v := 0) b.1 b.2.1 dX6_work_128 (by decide) ?_
            obtain ⟨a51, ea51, hf⟩ := oN_s hf
            obtain ⟨t52, hf⟩ := oC_s hf
            have t52 := of_decide_eq_true t52
            obtain ⟨h54, hc53, hf⟩ := oB_s hf
            refine k_stk [.int 0, .long (Int32.toInt64 y29), .long 1] ea51 ?_
            refine k_callV0 (C := RX3) b zs zk hE (CX3_multiply l D aC ad zk hc53) mc_X3_multiply (in4 226 rfl rfl) mi_X3_multiply ms_X3_multiply ini_RX3 ok_X3_multiply (x_recv b hE (ci := 3) rfl (by decide) t52) ⟨Nat.le_of_ble_eq_true rfl, Nat.le_of_ble_eq_true rfl⟩ rfl hl.1 rfl (k_room _ (by exact Nat.le_of_ble_eq_true rfl)) ⟨Nat.le_refl _, Nat.le_refl _⟩ dX6_work_129 (fun H locs hE => ?_)
            refine lv_goto (tgt := 180) b.1 b.2.1 dX6_work_132 (by decide) ?_
            exact wfX6_work_180 b hlk hr zs zk H9 hf hE (lv_sub hl [2, 3, 4, 5] rfl)
        · have hf := oI_t c31 hf
          exact wfX6_work_68 b hlk hr zs zk H9 hf hE (lv_sub hl [2, 3, 4, 5, 1, 0] rfl)
def fX6_work_9  : Nat → PH → Nat → Int32 → Int32 → Int32 → Option (PH × Option Nat)
  | 0 => fun _ _ _ _ _ => none
  | n + 1 => fX6_work_9F  (fX6_work_9  n)
set_option maxHeartbeats 4000000 in
theorem wfX6_work_9 {args : Array Value} (b : Bd p s m c cX6_work 9 RX6 D aC) (hlk : meth.locks = false) (hr : meth.sig.returnType = some (.object "StatuteBench$Fraction")) {Z : State → Prop} (zs : Z s) (zk : ZOK Z (Rg ad)) {hz : PH} {rz : Option Nat} : ∀ n : Nat, ∀ (h : PH) (x0 : Nat) (x2 : Int32) (x3 : Int32) (x4 : Int32), ∀ (H : Heap) (locs : List Loc) (ls : Array Slot), fX6_work_9  n h x0 x2 x3 x4 = some (hz, rz) → CE (EX D aC ad h) (Rg ad) s H locs → lv_has ls 9 [(0, .ref (ad x0)), (2, .int x2), (3, .int x3), (4, .int x4)] → W p l e (RM 4 102 0 0) s m args below meth c H locs 0 0 (MQ below (PQ (EX D aC ad hz) (Rg ad) (some (va_rf (Option.map ad rz)))) args s 0 0 (Rg ad)) (F0 m 9 ls []) := by
  intro n
  induction n with
  | zero =>
    intro h x0 x2 x3 x4 H locs ls hf
    have hf : (none : Option (PH × Option Nat)) = some _ := hf
    cases hf
  | succ n ih =>
    intro h x0 x2 x3 x4 H locs ls hf hE hl
    exact wfX6_work_9F b hlk hr zs zk  ih hf hE hl
def fX6_work_0  (h : PH) (x0 : Nat) (x1 : Int32) (x2 : Int32) : Option (PH × Option Nat) :=
  oL (if 0 < x1 then x1 else 0) (fun y55 => fX6_work_9  FU h x0 x2 0 y55)
set_option maxHeartbeats 4000000 in
theorem wfX6_work_0 {args : Array Value} (b : Bd p s m c cX6_work 9 RX6 D aC) (hlk : meth.locks = false) (hr : meth.sig.returnType = some (.object "StatuteBench$Fraction")) {Z : State → Prop} (zs : Z s) (zk : ZOK Z (Rg ad)) {hz : PH} {rz : Option Nat} {h : PH} {x0 : Nat} {x1 : Int32} {x2 : Int32}  {H : Heap} {locs : List Loc} {ls : Array Slot} (hf : fX6_work_0 h x0 x1 x2 = some (hz, rz)) (hE : CE (EX D aC ad h) (Rg ad) s H locs) (hl : lv_has ls 9 [(0, .ref (ad x0)), (1, .int x1), (2, .int x2)]) : W p l e (RM 4 102 0 0) s m args below meth c H locs 0 0 (MQ below (PQ (EX D aC ad hz) (Rg ad) (some (va_rf (Option.map ad rz)))) args s 0 0 (Rg ad)) (F0 m 0 ls []) := by
  unfold fX6_work_0 at hf
  refine lv_iconst (v := 0) b.1 b.2.1 dX6_work_0 (by decide) ?_
  refine lv_istore_n (lv' := [(3, .int 0), (0, .ref (ad x0)), (1, .int x1), (2, .int x2)]) b.1 b.2.1 dX6_work_1 rfl hl (by decide) rfl (fun ls hl => ?_)
  refine lv_iconst (v := 0) b.1 b.2.1 dX6_work_2 (by decide) ?_
  refine lv_iload_n b.1 b.2.1 dX6_work_3 rfl (lv_at hl 2 rfl) ?_
  refine k_max b (in4 212 rfl rfl) mthmax_s mth_i mthmax_c hl.1 ⟨Nat.le_of_ble_eq_true rfl, Nat.le_of_ble_eq_true rfl⟩ (Nat.le_of_ble_eq_true rfl) ⟨Nat.le_refl _, Nat.le_refl _⟩ dX6_work_4 ?_
  obtain ⟨y55, ey55, hf⟩ := oL_s hf
  refine k_nmI ey55 ?_
  refine lv_istore (lv' := [(4, .int y55), (3, .int 0), (0, .ref (ad x0)), (1, .int x1), (2, .int x2)]) b.1 b.2.1 dX6_work_7 hl (by decide) rfl (fun ls hl => ?_)
  have hl := lv_sub (l' := [(4, .int y55), (3, .int 0), (0, .ref (ad x0)), (2, .int x2)]) hl [0, 1, 2, 4] rfl
  exact wfX6_work_9 b hlk hr zs zk  FU h x0 x2 0 y55 _ _ _ hf hE (lv_sub hl [2, 3, 1, 0] rfl)
def fX6_work (h : PH) (x0 : Nat) (x1 : Int32) (x2 : Int32) : Option (PH × Option Nat) := fX6_work_0 h x0 x1 x2
set_option maxHeartbeats 4000000 in
theorem CX6_work (l : Launch) (D : va_G) (aC : Nat → ClassId) (ad : Nat → Nat) {Z : State → Prop} (zk : ZOK Z (Rg ad)) {h : PH} {x0 : Nat} {x1 : Int32} {x2 : Int32} {hz : PH} {rz : Option Nat} (hf : fX6_work h x0 x1 x2 = some (hz, rz)) : CM l D aC Z yX6_work cX6_work 9 (some (.object "StatuteBench$Fraction")) 4 102 0 0 (EX D aC ad h) [.ref (ad x0), .int x1, .int x2] (EX D aC ad hz) (some (va_rf (Option.map ad rz))) (Rg ad) := by
  refine CM.of rfl ?_
  intro p e s m below meth c b hr hlk hin2 zs hE
  refine k_ent (Nat.le_of_ble_eq_true rfl) (fun ls hl => ?_)
  exact wfX6_work_0 b hlk hr zs zk hf hE (lv_sub hl [0, 1, 2] rfl)
theorem dX6_limit_0 : decode cX6_limit 0 = .ok (.aload_n 2, 1) := by decide +kernel
theorem dX6_limit_1 : decode cX6_limit 1 = .ok (.getfield 94, 3) := by decide +kernel
theorem dX6_limit_4 : decode cX6_limit 4 = .ok (.ifCond .eq 14, 3) := by decide +kernel
theorem dX6_limit_7 : decode cX6_limit 7 = .ok (.aload_n 0, 1) := by decide +kernel
theorem dX6_limit_8 : decode cX6_limit 8 = .ok (.getfield 26, 3) := by decide +kernel
theorem dX6_limit_11 : decode cX6_limit 11 = .ok (.iconst 1, 1) := by decide +kernel
theorem dX6_limit_12 : decode cX6_limit 12 = .ok (.putfield 94, 3) := by decide +kernel
theorem dX6_limit_15 : decode cX6_limit 15 = .ok (.goto 23, 3) := by decide +kernel
theorem dX6_limit_18 : decode cX6_limit 18 = .ok (.iload_n 3, 1) := by decide +kernel
theorem dX6_limit_19 : decode cX6_limit 19 = .ok (.ifCond .eq 14, 3) := by decide +kernel
theorem dX6_limit_22 : decode cX6_limit 22 = .ok (.aload_n 2, 1) := by decide +kernel
theorem dX6_limit_23 : decode cX6_limit 23 = .ok (.aload_n 1, 1) := by decide +kernel
theorem dX6_limit_24 : decode cX6_limit 24 = .ok (.invokevirtual 97, 3) := by decide +kernel
theorem dX6_limit_27 : decode cX6_limit 27 = .ok (.iload 4, 2) := by decide +kernel
theorem dX6_limit_29 : decode cX6_limit 29 = .ok (.imul, 1) := by decide +kernel
theorem dX6_limit_30 : decode cX6_limit 30 = .ok (.ifCond .le 8, 3) := by decide +kernel
theorem dX6_limit_33 : decode cX6_limit 33 = .ok (.aload_n 1, 1) := by decide +kernel
theorem dX6_limit_34 : decode cX6_limit 34 = .ok (.aload_n 2, 1) := by decide +kernel
theorem dX6_limit_35 : decode cX6_limit 35 = .ok (.invokevirtual 87, 3) := by decide +kernel
theorem dX6_limit_38 : decode cX6_limit 38 = .ok (.return_, 1) := by decide +kernel
def fX6_limit_33  (h : PH) (x1 : Option Nat) (x2 : Option Nat) : Option (PH) :=
  oN x1 (fun a1 => oC (decide (hT h a1 = 4)) (oB (fX3_copy h a1 x2) (fun h4 => some (h4))))
set_option maxHeartbeats 4000000 in
theorem wfX6_limit_33 {args : Array Value} (b : Bd p s m c cX6_limit 5 RX6 D aC) (hlk : meth.locks = false) (hr : meth.sig.returnType = none) {Z : State → Prop} (zs : Z s) (zk : ZOK Z (Rg ad)) {hz : PH} {h : PH} {x1 : Option Nat} {x2 : Option Nat}  {H : Heap} {locs : List Loc} {ls : Array Slot} (hf : fX6_limit_33 h x1 x2 = some hz) (hE : CE (EX D aC ad h) (Rg ad) s H locs) (hl : lv_has ls 5 [(1, va_rf (Option.map ad x1)), (2, va_rf (Option.map ad x2))]) : W p l e (RM 2 44 0 0) s m args below meth c H locs 0 0 (MQ below (PQ (EX D aC ad hz) (Rg ad) none) args s 0 0 (Rg ad)) (F0 m 33 ls []) := by
  unfold fX6_limit_33 at hf
  refine k_aload_n (x := Option.map ad x1) b dX6_limit_33 rfl (lv_at hl 0 rfl) ?_
  refine k_aload_n (x := Option.map ad x2) b dX6_limit_34 rfl (lv_at hl 1 rfl) ?_
  obtain ⟨a1, ea1, hf⟩ := oN_s hf
  obtain ⟨t2, hf⟩ := oC_s hf
  have t2 := of_decide_eq_true t2
  obtain ⟨h4, hc3, hf⟩ := oB_s hf
  refine k_stk [va_rf (Option.map ad x2)] ea1 ?_
  refine k_callV0 (C := RX3) b zs zk hE (CX3_copy l D aC ad zk hc3) mc_X3_copy (in5 2 rfl rfl) mi_X3_copy ms_X3_copy ini_RX3 ok_X3_copy (x_recv b hE (ci := 3) rfl (by decide) t2) ⟨Nat.le_of_ble_eq_true rfl, Nat.le_of_ble_eq_true rfl⟩ rfl hl.1 rfl (k_room _ (by exact Nat.le_of_ble_eq_true rfl)) ⟨Nat.le_refl _, Nat.le_refl _⟩ dX6_limit_35 (fun H locs hE => ?_)
  cases hf
  exact k_vret b hlk hr hE (Nat.le_refl _) (Nat.le_refl _) dX6_limit_38
def fX6_limit_0  (h : PH) (x0 : Nat) (x1 : Option Nat) (x2 : Option Nat) (x3 : Int32) (x4 : Int32) : Option (PH) :=
  oN x2 (fun a5 => oC (decide (hT h a5 = 4)) (if (hI h 386 a5) = 0 then (if x3 = 0 then (fX6_limit_33  h x1 x2) else (oB (fX3_against h a5 x1) (fun r10 => if (r10 * x4) ≤ 0 then (some (h)) else (fX6_limit_33  h x1 x2)))) else (oC (decide (hT h x0 = 7)) (oN (hR h 772 x0) (fun a13 => oC (decide (hT h a13 = 4)) (oL (sI h 386 a13 1) (fun h15 => some (h15))))))))
set_option maxHeartbeats 4000000 in
theorem wfX6_limit_0 {args : Array Value} (b : Bd p s m c cX6_limit 5 RX6 D aC) (hlk : meth.locks = false) (hr : meth.sig.returnType = none) {Z : State → Prop} (zs : Z s) (zk : ZOK Z (Rg ad)) {hz : PH} {h : PH} {x0 : Nat} {x1 : Option Nat} {x2 : Option Nat} {x3 : Int32} {x4 : Int32}  {H : Heap} {locs : List Loc} {ls : Array Slot} (hf : fX6_limit_0 h x0 x1 x2 x3 x4 = some hz) (hE : CE (EX D aC ad h) (Rg ad) s H locs) (hl : lv_has ls 5 [(0, .ref (ad x0)), (1, va_rf (Option.map ad x1)), (2, va_rf (Option.map ad x2)), (3, .int x3), (4, .int x4)]) : W p l e (RM 2 44 0 0) s m args below meth c H locs 0 0 (MQ below (PQ (EX D aC ad hz) (Rg ad) none) args s 0 0 (Rg ad)) (F0 m 0 ls []) := by
  unfold fX6_limit_0 at hf
  refine k_aload_n (x := Option.map ad x2) b dX6_limit_0 rfl (lv_at hl 2 rfl) ?_
  obtain ⟨a5, ea5, hf⟩ := oN_s hf
  obtain ⟨t6, hf⟩ := oC_s hf
  have t6 := of_decide_eq_true t6
  refine gX6_94 (x := x2) b hE ea5 t6 dX6_limit_1 ?_
  refine lv_if_eq (tgt := 18) b.1 b.2.1 dX6_limit_4 (by decide) (fun c7 => ?_) (fun c7 => ?_)
  · have hf := oI_t c7 hf
    refine lv_iload_n b.1 b.2.1 dX6_limit_18 rfl (lv_at hl 3 rfl) ?_
    refine lv_if_eq (tgt := 33) b.1 b.2.1 dX6_limit_19 (by decide) (fun c8 => ?_) (fun c8 => ?_)
    · have hf := oI_t c8 hf
      exact wfX6_limit_33 b hlk hr zs zk  hf hE (lv_sub hl [1, 2] rfl)
    · have hf := oI_f c8 hf
      refine k_aload_n (x := Option.map ad x2) b dX6_limit_22 rfl (lv_at hl 2 rfl) ?_
      refine k_aload_n (x := Option.map ad x1) b dX6_limit_23 rfl (lv_at hl 1 rfl) ?_
      obtain ⟨r10, hc9, hf⟩ := oB_s hf
      refine k_stk [va_rf (Option.map ad x1)] ea5 ?_
      refine k_callV0 (C := RX3) b zs zk hE (CX3_against l D aC ad zk hc9) mc_X3_against (in5 6 rfl rfl) mi_X3_against ms_X3_against ini_RX3 ok_X3_against (x_recv b hE (ci := 3) rfl (by decide) t6) ⟨Nat.le_of_ble_eq_true rfl, Nat.le_of_ble_eq_true rfl⟩ rfl hl.1 rfl (k_room _ (by exact Nat.le_of_ble_eq_true rfl)) ⟨Nat.le_refl _, Nat.le_refl _⟩ dX6_limit_24 (fun H locs hE => ?_)
      refine lv_iload b.1 b.2.1 dX6_limit_27 (lv_at hl 4 rfl) ?_
      refine lv_imul b.1 b.2.1 dX6_limit_29 ?_
      refine lv_if_le (tgt := 38) b.1 b.2.1 dX6_limit_30 (by decide) (fun c11 => ?_) (fun c11 => ?_)
      · have hf := oI_t c11 hf
        cases hf
        exact k_vret b hlk hr hE (Nat.le_refl _) (Nat.le_refl _) dX6_limit_38
      · have hf := oI_f c11 hf
        exact wfX6_limit_33 b hlk hr zs zk  hf hE (lv_sub hl [1, 2] rfl)
  · have hf := oI_f c7 hf
    refine lv_aload_n b.1 b.2.1 dX6_limit_7 rfl (lv_at hl 0 rfl) ?_
    obtain ⟨t12, hf⟩ := oC_s hf
    have t12 := of_decide_eq_true t12
    refine gX6_26 (x := (some x0)) b hE rfl t12 dX6_limit_8 ?_
    refine lv_iconst (v := 1) b.1 b.2.1 dX6_limit_11 (by decide) ?_
    obtain ⟨a13, ea13, hf⟩ := oN_s hf
    obtain ⟨t14, hf⟩ := oC_s hf
    have t14 := of_decide_eq_true t14
    obtain ⟨h15, eh15, hf⟩ := oL_s hf
    refine pX6_94 (x := (hR h 772 x0)) b hE ea13 t14 (by decide) eh15 dX6_limit_12 (fun H locs hE => ?_)
    refine lv_goto (tgt := 38) b.1 b.2.1 dX6_limit_15 (by decide) ?_
    cases hf
    exact k_vret b hlk hr hE (Nat.le_refl _) (Nat.le_refl _) dX6_limit_38
def fX6_limit (h : PH) (x0 : Nat) (x1 : Option Nat) (x2 : Option Nat) (x3 : Int32) (x4 : Int32) : Option (PH) := fX6_limit_0 h x0 x1 x2 x3 x4
set_option maxHeartbeats 4000000 in
theorem CX6_limit (l : Launch) (D : va_G) (aC : Nat → ClassId) (ad : Nat → Nat) {Z : State → Prop} (zk : ZOK Z (Rg ad)) {h : PH} {x0 : Nat} {x1 : Option Nat} {x2 : Option Nat} {x3 : Int32} {x4 : Int32} {hz : PH} (hf : fX6_limit h x0 x1 x2 x3 x4 = some hz) : CM l D aC Z yX6_limit cX6_limit 5 (none) 2 44 0 0 (EX D aC ad h) [.ref (ad x0), va_rf (Option.map ad x1), va_rf (Option.map ad x2), .int x3, .int x4] (EX D aC ad hz) none (Rg ad) := by
  refine CM.of rfl ?_
  intro p e s m below meth c b hr hlk hin2 zs hE
  cases x1 <;> cases x2 <;> (
    refine k_ent (Nat.le_of_ble_eq_true rfl) (fun ls hl => ?_)
    exact wfX6_limit_0 b hlk hr zs zk hf hE (lv_sub hl [0, 1, 2, 3, 4] rfl))
theorem dX6_take_0 : decode cX6_take 0 = .ok (.aload_n 0, 1) := by decide +kernel
theorem dX6_take_1 : decode cX6_take 1 = .ok (.aload_n 1, 1) := by decide +kernel
theorem dX6_take_2 : decode cX6_take 2 = .ok (.getfield 77, 3) := by decide +kernel
theorem dX6_take_5 : decode cX6_take 5 = .ok (.aload_n 1, 1) := by decide +kernel
theorem dX6_take_6 : decode cX6_take 6 = .ok (.getfield 91, 3) := by decide +kernel
theorem dX6_take_9 : decode cX6_take 9 = .ok (.invokevirtual 83, 3) := by decide +kernel
theorem dX6_take_12 : decode cX6_take 12 = .ok (.astore_n 2, 1) := by decide +kernel
theorem dX6_take_13 : decode cX6_take 13 = .ok (.aload_n 1, 1) := by decide +kernel
theorem dX6_take_14 : decode cX6_take 14 = .ok (.getfield 74, 3) := by decide +kernel
theorem dX6_take_17 : decode cX6_take 17 = .ok (.lookupswitch 91 #[(42, 47), (43, 35), (312, 69)], 35) := by decide +kernel
theorem dX6_take_52 : decode cX6_take 52 = .ok (.aload_n 0, 1) := by decide +kernel
theorem dX6_take_53 : decode cX6_take 53 = .ok (.getfield 26, 3) := by decide +kernel
theorem dX6_take_56 : decode cX6_take 56 = .ok (.aload_n 2, 1) := by decide +kernel
theorem dX6_take_57 : decode cX6_take 57 = .ok (.iconst 1, 1) := by decide +kernel
theorem dX6_take_58 : decode cX6_take 58 = .ok (.invokevirtual 136, 3) := by decide +kernel
theorem dX6_take_61 : decode cX6_take 61 = .ok (.goto 66, 3) := by decide +kernel
theorem dX6_take_64 : decode cX6_take 64 = .ok (.aload_n 0, 1) := by decide +kernel
theorem dX6_take_65 : decode cX6_take 65 = .ok (.getfield 29, 3) := by decide +kernel
theorem dX6_take_68 : decode cX6_take 68 = .ok (.aload_n 2, 1) := by decide +kernel
theorem dX6_take_69 : decode cX6_take 69 = .ok (.getfield 129, 3) := by decide +kernel
theorem dX6_take_72 : decode cX6_take 72 = .ok (.aload_n 2, 1) := by decide +kernel
theorem dX6_take_73 : decode cX6_take 73 = .ok (.getfield 133, 3) := by decide +kernel
theorem dX6_take_76 : decode cX6_take 76 = .ok (.aload_n 2, 1) := by decide +kernel
theorem dX6_take_77 : decode cX6_take 77 = .ok (.getfield 94, 3) := by decide +kernel
theorem dX6_take_80 : decode cX6_take 80 = .ok (.invokevirtual 118, 3) := by decide +kernel
theorem dX6_take_83 : decode cX6_take 83 = .ok (.goto 44, 3) := by decide +kernel
theorem dX6_take_86 : decode cX6_take 86 = .ok (.aload_n 0, 1) := by decide +kernel
theorem dX6_take_87 : decode cX6_take 87 = .ok (.aload_n 0, 1) := by decide +kernel
theorem dX6_take_88 : decode cX6_take 88 = .ok (.getfield 32, 3) := by decide +kernel
theorem dX6_take_91 : decode cX6_take 91 = .ok (.aload_n 2, 1) := by decide +kernel
theorem dX6_take_92 : decode cX6_take 92 = .ok (.aload_n 0, 1) := by decide +kernel
theorem dX6_take_93 : decode cX6_take 93 = .ok (.getfield 143, 3) := by decide +kernel
theorem dX6_take_96 : decode cX6_take 96 = .ok (.iconst (-1), 1) := by decide +kernel
theorem dX6_take_97 : decode cX6_take 97 = .ok (.invokevirtual 149, 3) := by decide +kernel
theorem dX6_take_100 : decode cX6_take 100 = .ok (.aload_n 0, 1) := by decide +kernel
theorem dX6_take_101 : decode cX6_take 101 = .ok (.iconst 1, 1) := by decide +kernel
theorem dX6_take_102 : decode cX6_take 102 = .ok (.putfield 143, 3) := by decide +kernel
theorem dX6_take_105 : decode cX6_take 105 = .ok (.goto 22, 3) := by decide +kernel
theorem dX6_take_108 : decode cX6_take 108 = .ok (.aload_n 0, 1) := by decide +kernel
theorem dX6_take_109 : decode cX6_take 109 = .ok (.aload_n 0, 1) := by decide +kernel
theorem dX6_take_110 : decode cX6_take 110 = .ok (.getfield 35, 3) := by decide +kernel
theorem dX6_take_113 : decode cX6_take 113 = .ok (.aload_n 2, 1) := by decide +kernel
theorem dX6_take_114 : decode cX6_take 114 = .ok (.aload_n 0, 1) := by decide +kernel
theorem dX6_take_115 : decode cX6_take 115 = .ok (.getfield 146, 3) := by decide +kernel
theorem dX6_take_118 : decode cX6_take 118 = .ok (.iconst 1, 1) := by decide +kernel
theorem dX6_take_119 : decode cX6_take 119 = .ok (.invokevirtual 149, 3) := by decide +kernel
theorem dX6_take_122 : decode cX6_take 122 = .ok (.aload_n 0, 1) := by decide +kernel
theorem dX6_take_123 : decode cX6_take 123 = .ok (.iconst 1, 1) := by decide +kernel
theorem dX6_take_124 : decode cX6_take 124 = .ok (.putfield 146, 3) := by decide +kernel
theorem dX6_take_127 : decode cX6_take 127 = .ok (.return_, 1) := by decide +kernel
def fX6_take_0  (h : PH) (x0 : Nat) (x1 : Option Nat) : Option (PH) :=
  oN x1 (fun a1 => oC (decide (hT h a1 = 3)) (oC (decide (hT h x0 = 7)) (oB2 (fX6_work h x0 (hI h 261 a1) (hI h 263 a1)) (fun h6 r5 => oC (decide (hT h6 a1 = 3)) (oL (hI h6 256 a1) (fun y8 => if y8 = 42 then (oC (decide (hT h6 x0 = 7)) (oN r5 (fun a11 => oC (decide (hT h6 a11 = 4)) (oN (hR h6 773 x0) (fun a13 => oC (decide (hT h6 a13 = 4)) (oB (fX3_multiply h6 a13 (hL h6 384 a11) (hL h6 385 a11) (hI h6 386 a11)) (fun h16 => some (h16)))))))) else (if y8 = 43 then (oC (decide (hT h6 x0 = 7)) (oN (hR h6 772 x0) (fun a19 => oC (decide (hT h6 a19 = 4)) (oB (fX3_add h6 a19 r5 1) (fun h22 => some (h22)))))) else (if y8 = 312 then (oC (decide (hT h6 x0 = 7)) (oB (fX6_limit h6 x0 (hR h6 774 x0) r5 (hI h6 776 x0) (-1)) (fun h26 => oC (decide (hT h26 x0 = 7)) (oL (sI h26 776 x0 1) (fun h28 => some (h28)))))) else (oC (decide (hT h6 x0 = 7)) (oB (fX6_limit h6 x0 (hR h6 775 x0) r5 (hI h6 777 x0) 1) (fun h31 => oC (decide (hT h31 x0 = 7)) (oL (sI h31 777 x0 1) (fun h33 => some (h33))))))))))))))
set_option maxHeartbeats 4000000 in
theorem wfX6_take_0 {args : Array Value} (b : Bd p s m c cX6_take 3 RX6 D aC) (hlk : meth.locks = false) (hr : meth.sig.returnType = none) {Z : State → Prop} (zs : Z s) (zk : ZOK Z (Rg ad)) {hz : PH} {h : PH} {x0 : Nat} {x1 : Option Nat}  {H : Heap} {locs : List Loc} {ls : Array Slot} (hf : fX6_take_0 h x0 x1 = some hz) (hE : CE (EX D aC ad h) (Rg ad) s H locs) (hl : lv_has ls 3 [(0, .ref (ad x0)), (1, va_rf (Option.map ad x1))]) : W p l e (RM 5 130 0 0) s m args below meth c H locs 0 0 (MQ below (PQ (EX D aC ad hz) (Rg ad) none) args s 0 0 (Rg ad)) (F0 m 0 ls []) := by
  unfold fX6_take_0 at hf
  refine lv_aload_n b.1 b.2.1 dX6_take_0 rfl (lv_at hl 0 rfl) ?_
  refine k_aload_n (x := Option.map ad x1) b dX6_take_1 rfl (lv_at hl 1 rfl) ?_
  obtain ⟨a1, ea1, hf⟩ := oN_s hf
  obtain ⟨t2, hf⟩ := oC_s hf
  have t2 := of_decide_eq_true t2
  refine gX6_77 (x := x1) b hE ea1 t2 dX6_take_2 ?_
  refine k_aload_n (x := Option.map ad x1) b dX6_take_5 rfl (lv_at hl 1 rfl) ?_
  refine gX6_91 (x := x1) b hE ea1 t2 dX6_take_6 ?_
  obtain ⟨t3, hf⟩ := oC_s hf
  have t3 := of_decide_eq_true t3
  obtain ⟨h6, r5, hc4, hf⟩ := oB2_s hf
  refine k_callV0 (C := RX6) b zs zk hE (CX6_work l D aC ad zk hc4) mc_X6_work (in4 208 rfl rfl) mi_X6_work ms_X6_work ini_RX6 ok_X6_work (x_recv b hE (ci := 6) rfl (by decide) t3) ⟨Nat.le_of_ble_eq_true rfl, Nat.le_of_ble_eq_true rfl⟩ rfl hl.1 rfl (k_room _ (by exact Nat.le_of_ble_eq_true rfl)) ⟨Nat.le_refl _, Nat.le_refl _⟩ dX6_take_9 (fun H locs hE => ?_)
  refine k_astore_n (x := Option.map ad r5) (lv' := [(2, va_rf (Option.map ad r5)), (0, .ref (ad x0)), (1, va_rf (Option.map ad x1))]) b dX6_take_12 rfl hl (by decide) (by cases x1 <;> rfl) (fun ls hl => ?_)
  refine k_aload_n (x := Option.map ad x1) b dX6_take_13 rfl (lv_at hl 2 rfl) ?_
  obtain ⟨t7, hf⟩ := oC_s hf
  have t7 := of_decide_eq_true t7
  refine gX6_74 (x := x1) b hE ea1 t7 dX6_take_14 ?_
  obtain ⟨y8, ey8, hf⟩ := oL_s hf
  refine k_nmI ey8 ?_
  rcases Decidable.em (y8 = 42) with c9 | c9
  · have hf := oI_t c9 hf
    refine lv_lookup (tgt := 64) (off := 47) b.1 b.2.1 dX6_take_17 (by decide) (by rw [c9] <;> rfl) (by decide) ?_
    refine lv_aload_n b.1 b.2.1 dX6_take_64 rfl (lv_at hl 1 rfl) ?_
    obtain ⟨t10, hf⟩ := oC_s hf
    have t10 := of_decide_eq_true t10
    refine gX6_29 (x := (some x0)) b hE rfl t10 dX6_take_65 ?_
    refine k_aload_n (x := Option.map ad r5) b dX6_take_68 rfl (lv_at hl 0 rfl) ?_
    obtain ⟨a11, ea11, hf⟩ := oN_s hf
    obtain ⟨t12, hf⟩ := oC_s hf
    have t12 := of_decide_eq_true t12
    refine gX6_129 (x := r5) b hE ea11 t12 dX6_take_69 ?_
    refine k_aload_n (x := Option.map ad r5) b dX6_take_72 rfl (lv_at hl 0 rfl) ?_
    refine gX6_133 (x := r5) b hE ea11 t12 dX6_take_73 ?_
    refine k_aload_n (x := Option.map ad r5) b dX6_take_76 rfl (lv_at hl 0 rfl) ?_
    refine gX6_94 (x := r5) b hE ea11 t12 dX6_take_77 ?_
    obtain ⟨a13, ea13, hf⟩ := oN_s hf
    obtain ⟨t14, hf⟩ := oC_s hf
    have t14 := of_decide_eq_true t14
    obtain ⟨h16, hc15, hf⟩ := oB_s hf
    refine k_stk [.int (hI h6 386 a11), .long (hL h6 385 a11), .long (hL h6 384 a11)] ea13 ?_
    refine k_callV0 (C := RX3) b zs zk hE (CX3_multiply l D aC ad zk hc15) mc_X3_multiply (in4 226 rfl rfl) mi_X3_multiply ms_X3_multiply ini_RX3 ok_X3_multiply (x_recv b hE (ci := 3) rfl (by decide) t14) ⟨Nat.le_of_ble_eq_true rfl, Nat.le_of_ble_eq_true rfl⟩ rfl hl.1 rfl (k_room _ (by exact Nat.le_of_ble_eq_true rfl)) ⟨Nat.le_refl _, Nat.le_refl _⟩ dX6_take_80 (fun H locs hE => ?_)
    refine lv_goto (tgt := 127) b.1 b.2.1 dX6_take_83 (by decide) ?_
    cases hf
    exact k_vret b hlk hr hE (Nat.le_refl _) (Nat.le_refl _) dX6_take_127
  have hf := oI_f c9 hf
  rcases Decidable.em (y8 = 43) with c17 | c17
  · have hf := oI_t c17 hf
    refine lv_lookup (tgt := 52) (off := 35) b.1 b.2.1 dX6_take_17 (by decide) (by rw [c17] <;> rfl) (by decide) ?_
    refine lv_aload_n b.1 b.2.1 dX6_take_52 rfl (lv_at hl 1 rfl) ?_
    obtain ⟨t18, hf⟩ := oC_s hf
    have t18 := of_decide_eq_true t18
    refine gX6_26 (x := (some x0)) b hE rfl t18 dX6_take_53 ?_
    refine k_aload_n (x := Option.map ad r5) b dX6_take_56 rfl (lv_at hl 0 rfl) ?_
    refine lv_iconst (v := 1) b.1 b.2.1 dX6_take_57 (by decide) ?_
    obtain ⟨a19, ea19, hf⟩ := oN_s hf
    obtain ⟨t20, hf⟩ := oC_s hf
    have t20 := of_decide_eq_true t20
    obtain ⟨h22, hc21, hf⟩ := oB_s hf
    refine k_stk [.int 1, va_rf (Option.map ad r5)] ea19 ?_
    refine k_callV0 (C := RX3) b zs zk hE (CX3_add l D aC ad zk hc21) mc_X3_add (in4 238 rfl rfl) mi_X3_add ms_X3_add ini_RX3 ok_X3_add (x_recv b hE (ci := 3) rfl (by decide) t20) ⟨Nat.le_of_ble_eq_true rfl, Nat.le_of_ble_eq_true rfl⟩ rfl hl.1 rfl (k_room _ (by exact Nat.le_of_ble_eq_true rfl)) ⟨Nat.le_refl _, Nat.le_refl _⟩ dX6_take_58 (fun H locs hE => ?_)
    refine lv_goto (tgt := 127) b.1 b.2.1 dX6_take_61 (by decide) ?_
    cases hf
    exact k_vret b hlk hr hE (Nat.le_refl _) (Nat.le_refl _) dX6_take_127
  have hf := oI_f c17 hf
  rcases Decidable.em (y8 = 312) with c23 | c23
  · have hf := oI_t c23 hf
    refine lv_lookup (tgt := 86) (off := 69) b.1 b.2.1 dX6_take_17 (by decide) (by rw [c23] <;> rfl) (by decide) ?_
    refine lv_aload_n b.1 b.2.1 dX6_take_86 rfl (lv_at hl 1 rfl) ?_
    refine lv_aload_n b.1 b.2.1 dX6_take_87 rfl (lv_at hl 1 rfl) ?_
    obtain ⟨t24, hf⟩ := oC_s hf
    have t24 := of_decide_eq_true t24
    refine gX6_32 (x := (some x0)) b hE rfl t24 dX6_take_88 ?_
    refine k_aload_n (x := Option.map ad r5) b dX6_take_91 rfl (lv_at hl 0 rfl) ?_
    refine lv_aload_n b.1 b.2.1 dX6_take_92 rfl (lv_at hl 1 rfl) ?_
    refine gX6_143 (x := (some x0)) b hE rfl t24 dX6_take_93 ?_
    refine lv_iconst (v := (-1)) b.1 b.2.1 dX6_take_96 (by decide) ?_
    obtain ⟨h26, hc25, hf⟩ := oB_s hf
    refine k_callV0 (C := RX6) b zs zk hE (CX6_limit l D aC ad zk hc25) mc_X6_limit (in5 81 rfl rfl) mi_X6_limit ms_X6_limit ini_RX6 ok_X6_limit (x_recv b hE (ci := 6) rfl (by decide) t24) ⟨Nat.le_of_ble_eq_true rfl, Nat.le_of_ble_eq_true rfl⟩ rfl hl.1 rfl (k_room _ (by exact Nat.le_of_ble_eq_true rfl)) ⟨Nat.le_refl _, Nat.le_refl _⟩ dX6_take_97 (fun H locs hE => ?_)
    refine lv_aload_n b.1 b.2.1 dX6_take_100 rfl (lv_at hl 1 rfl) ?_
    refine lv_iconst (v := 1) b.1 b.2.1 dX6_take_101 (by decide) ?_
    obtain ⟨t27, hf⟩ := oC_s hf
    have t27 := of_decide_eq_true t27
    obtain ⟨h28, eh28, hf⟩ := oL_s hf
    refine pX6_143 (x := (some x0)) b hE rfl t27 (by decide) eh28 dX6_take_102 (fun H locs hE => ?_)
    refine lv_goto (tgt := 127) b.1 b.2.1 dX6_take_105 (by decide) ?_
    cases hf
    exact k_vret b hlk hr hE (Nat.le_refl _) (Nat.le_refl _) dX6_take_127
  have hf := oI_f c23 hf
  refine lv_lookup (tgt := 108) (off := 91) b.1 b.2.1 dX6_take_17 (by decide) (by rw [lv_osw c9 (by decide), lv_osw c17 (by decide), lv_osw c23 (by decide)] <;> rfl) (by decide) ?_
  refine lv_aload_n b.1 b.2.1 dX6_take_108 rfl (lv_at hl 1 rfl) ?_
  refine lv_aload_n b.1 b.2.1 dX6_take_109 rfl (lv_at hl 1 rfl) ?_
  obtain ⟨t29, hf⟩ := oC_s hf
  have t29 := of_decide_eq_true t29
  refine gX6_35 (x := (some x0)) b hE rfl t29 dX6_take_110 ?_
  refine k_aload_n (x := Option.map ad r5) b dX6_take_113 rfl (lv_at hl 0 rfl) ?_
  refine lv_aload_n b.1 b.2.1 dX6_take_114 rfl (lv_at hl 1 rfl) ?_
  refine gX6_146 (x := (some x0)) b hE rfl t29 dX6_take_115 ?_
  refine lv_iconst (v := 1) b.1 b.2.1 dX6_take_118 (by decide) ?_
  obtain ⟨h31, hc30, hf⟩ := oB_s hf
  refine k_callV0 (C := RX6) b zs zk hE (CX6_limit l D aC ad zk hc30) mc_X6_limit (in5 81 rfl rfl) mi_X6_limit ms_X6_limit ini_RX6 ok_X6_limit (x_recv b hE (ci := 6) rfl (by decide) t29) ⟨Nat.le_of_ble_eq_true rfl, Nat.le_of_ble_eq_true rfl⟩ rfl hl.1 rfl (k_room _ (by exact Nat.le_of_ble_eq_true rfl)) ⟨Nat.le_refl _, Nat.le_refl _⟩ dX6_take_119 (fun H locs hE => ?_)
  refine lv_aload_n b.1 b.2.1 dX6_take_122 rfl (lv_at hl 1 rfl) ?_
  refine lv_iconst (v := 1) b.1 b.2.1 dX6_take_123 (by decide) ?_
  obtain ⟨t32, hf⟩ := oC_s hf
  have t32 := of_decide_eq_true t32
  obtain ⟨h33, eh33, hf⟩ := oL_s hf
  refine pX6_146 (x := (some x0)) b hE rfl t32 (by decide) eh33 dX6_take_124 (fun H locs hE => ?_)
  cases hf
  exact k_vret b hlk hr hE (Nat.le_refl _) (Nat.le_refl _) dX6_take_127
def fX6_take (h : PH) (x0 : Nat) (x1 : Option Nat) : Option (PH) := fX6_take_0 h x0 x1
set_option maxHeartbeats 4000000 in
theorem CX6_take (l : Launch) (D : va_G) (aC : Nat → ClassId) (ad : Nat → Nat) {Z : State → Prop} (zk : ZOK Z (Rg ad)) {h : PH} {x0 : Nat} {x1 : Option Nat} {hz : PH} (hf : fX6_take h x0 x1 = some hz) : CM l D aC Z yX6_take cX6_take 3 (none) 5 130 0 0 (EX D aC ad h) [.ref (ad x0), va_rf (Option.map ad x1)] (EX D aC ad hz) none (Rg ad) := by
  refine CM.of rfl ?_
  intro p e s m below meth c b hr hlk hin2 zs hE
  cases x1 <;> (
    refine k_ent (Nat.le_of_ble_eq_true rfl) (fun ls hl => ?_)
    exact wfX6_take_0 b hlk hr zs zk hf hE (lv_sub hl [0, 1] rfl))
theorem dX6_finishSum_0 : decode cX6_finishSum 0 = .ok (.aload_n 0, 1) := by decide +kernel
theorem dX6_finishSum_1 : decode cX6_finishSum 1 = .ok (.getfield 26, 3) := by decide +kernel
theorem dX6_finishSum_4 : decode cX6_finishSum 4 = .ok (.aload_n 0, 1) := by decide +kernel
theorem dX6_finishSum_5 : decode cX6_finishSum 5 = .ok (.getfield 29, 3) := by decide +kernel
theorem dX6_finishSum_8 : decode cX6_finishSum 8 = .ok (.getfield 129, 3) := by decide +kernel
theorem dX6_finishSum_11 : decode cX6_finishSum 11 = .ok (.aload_n 0, 1) := by decide +kernel
theorem dX6_finishSum_12 : decode cX6_finishSum 12 = .ok (.getfield 29, 3) := by decide +kernel
theorem dX6_finishSum_15 : decode cX6_finishSum 15 = .ok (.getfield 133, 3) := by decide +kernel
theorem dX6_finishSum_18 : decode cX6_finishSum 18 = .ok (.aload_n 0, 1) := by decide +kernel
theorem dX6_finishSum_19 : decode cX6_finishSum 19 = .ok (.getfield 29, 3) := by decide +kernel
theorem dX6_finishSum_22 : decode cX6_finishSum 22 = .ok (.getfield 94, 3) := by decide +kernel
theorem dX6_finishSum_25 : decode cX6_finishSum 25 = .ok (.invokevirtual 118, 3) := by decide +kernel
theorem dX6_finishSum_28 : decode cX6_finishSum 28 = .ok (.aload_n 0, 1) := by decide +kernel
theorem dX6_finishSum_29 : decode cX6_finishSum 29 = .ok (.getfield 26, 3) := by decide +kernel
theorem dX6_finishSum_32 : decode cX6_finishSum 32 = .ok (.getfield 94, 3) := by decide +kernel
theorem dX6_finishSum_35 : decode cX6_finishSum 35 = .ok (.ifCond .ne 35, 3) := by decide +kernel
theorem dX6_finishSum_38 : decode cX6_finishSum 38 = .ok (.aload_n 0, 1) := by decide +kernel
theorem dX6_finishSum_39 : decode cX6_finishSum 39 = .ok (.getfield 143, 3) := by decide +kernel
theorem dX6_finishSum_42 : decode cX6_finishSum 42 = .ok (.ifCond .eq 28, 3) := by decide +kernel
theorem dX6_finishSum_45 : decode cX6_finishSum 45 = .ok (.aload_n 0, 1) := by decide +kernel
theorem dX6_finishSum_46 : decode cX6_finishSum 46 = .ok (.getfield 26, 3) := by decide +kernel
theorem dX6_finishSum_49 : decode cX6_finishSum 49 = .ok (.aload_n 0, 1) := by decide +kernel
theorem dX6_finishSum_50 : decode cX6_finishSum 50 = .ok (.getfield 32, 3) := by decide +kernel
theorem dX6_finishSum_53 : decode cX6_finishSum 53 = .ok (.invokevirtual 97, 3) := by decide +kernel
theorem dX6_finishSum_56 : decode cX6_finishSum 56 = .ok (.ifCond .le 14, 3) := by decide +kernel
theorem dX6_finishSum_59 : decode cX6_finishSum 59 = .ok (.aload_n 0, 1) := by decide +kernel
theorem dX6_finishSum_60 : decode cX6_finishSum 60 = .ok (.getfield 26, 3) := by decide +kernel
theorem dX6_finishSum_63 : decode cX6_finishSum 63 = .ok (.aload_n 0, 1) := by decide +kernel
theorem dX6_finishSum_64 : decode cX6_finishSum 64 = .ok (.getfield 32, 3) := by decide +kernel
theorem dX6_finishSum_67 : decode cX6_finishSum 67 = .ok (.invokevirtual 87, 3) := by decide +kernel
theorem dX6_finishSum_70 : decode cX6_finishSum 70 = .ok (.aload_n 0, 1) := by decide +kernel
theorem dX6_finishSum_71 : decode cX6_finishSum 71 = .ok (.getfield 26, 3) := by decide +kernel
theorem dX6_finishSum_74 : decode cX6_finishSum 74 = .ok (.getfield 94, 3) := by decide +kernel
theorem dX6_finishSum_77 : decode cX6_finishSum 77 = .ok (.ifCond .ne 35, 3) := by decide +kernel
theorem dX6_finishSum_80 : decode cX6_finishSum 80 = .ok (.aload_n 0, 1) := by decide +kernel
theorem dX6_finishSum_81 : decode cX6_finishSum 81 = .ok (.getfield 146, 3) := by decide +kernel
theorem dX6_finishSum_84 : decode cX6_finishSum 84 = .ok (.ifCond .eq 28, 3) := by decide +kernel
theorem dX6_finishSum_87 : decode cX6_finishSum 87 = .ok (.aload_n 0, 1) := by decide +kernel
theorem dX6_finishSum_88 : decode cX6_finishSum 88 = .ok (.getfield 26, 3) := by decide +kernel
theorem dX6_finishSum_91 : decode cX6_finishSum 91 = .ok (.aload_n 0, 1) := by decide +kernel
theorem dX6_finishSum_92 : decode cX6_finishSum 92 = .ok (.getfield 35, 3) := by decide +kernel
theorem dX6_finishSum_95 : decode cX6_finishSum 95 = .ok (.invokevirtual 97, 3) := by decide +kernel
theorem dX6_finishSum_98 : decode cX6_finishSum 98 = .ok (.ifCond .ge 14, 3) := by decide +kernel
theorem dX6_finishSum_101 : decode cX6_finishSum 101 = .ok (.aload_n 0, 1) := by decide +kernel
theorem dX6_finishSum_102 : decode cX6_finishSum 102 = .ok (.getfield 26, 3) := by decide +kernel
theorem dX6_finishSum_105 : decode cX6_finishSum 105 = .ok (.aload_n 0, 1) := by decide +kernel
theorem dX6_finishSum_106 : decode cX6_finishSum 106 = .ok (.getfield 35, 3) := by decide +kernel
theorem dX6_finishSum_109 : decode cX6_finishSum 109 = .ok (.invokevirtual 87, 3) := by decide +kernel
theorem dX6_finishSum_112 : decode cX6_finishSum 112 = .ok (.aload_n 0, 1) := by decide +kernel
theorem dX6_finishSum_113 : decode cX6_finishSum 113 = .ok (.getfield 26, 3) := by decide +kernel
theorem dX6_finishSum_116 : decode cX6_finishSum 116 = .ok (.areturn, 1) := by decide +kernel
def fX6_finishSum_112  (h : PH) (x0 : Nat) : Option (PH × Option Nat) :=
  oC (decide (hT h x0 = 7)) (some (h, (hR h 772 x0)))
set_option maxHeartbeats 4000000 in
theorem wfX6_finishSum_112 {args : Array Value} (b : Bd p s m c cX6_finishSum 1 RX6 D aC) (hlk : meth.locks = false) (hr : meth.sig.returnType = some (.object "StatuteBench$Fraction")) {Z : State → Prop} (zs : Z s) (zk : ZOK Z (Rg ad)) {hz : PH} {rz : Option Nat} {h : PH} {x0 : Nat}  {H : Heap} {locs : List Loc} {ls : Array Slot} (hf : fX6_finishSum_112 h x0 = some (hz, rz)) (hE : CE (EX D aC ad h) (Rg ad) s H locs) (hl : lv_has ls 1 [(0, .ref (ad x0))]) : W p l e (RM 3 80 0 0) s m args below meth c H locs 0 0 (MQ below (PQ (EX D aC ad hz) (Rg ad) (some (va_rf (Option.map ad rz)))) args s 0 0 (Rg ad)) (F0 m 112 ls []) := by
  unfold fX6_finishSum_112 at hf
  refine lv_aload_n b.1 b.2.1 dX6_finishSum_112 rfl (lv_at hl 0 rfl) ?_
  obtain ⟨t1, hf⟩ := oC_s hf
  have t1 := of_decide_eq_true t1
  refine gX6_26 (x := (some x0)) b hE rfl t1 dX6_finishSum_113 ?_
  cases hf
  exact k_aret b hlk hr hE (Nat.le_refl _) (Nat.le_refl _) dX6_finishSum_116
def fX6_finishSum_70  (h : PH) (x0 : Nat) : Option (PH × Option Nat) :=
  oC (decide (hT h x0 = 7)) (oN (hR h 772 x0) (fun a3 => oC (decide (hT h a3 = 4)) (if (hI h 386 a3) = 0 then (if (hI h 777 x0) = 0 then (fX6_finishSum_112  h x0) else (oB (fX3_against h a3 (hR h 775 x0)) (fun r8 => if 0 ≤ r8 then (fX6_finishSum_112  h x0) else (oB (fX3_copy h a3 (hR h 775 x0)) (fun h11 => fX6_finishSum_112  h11 x0))))) else (fX6_finishSum_112  h x0))))
set_option maxHeartbeats 4000000 in
theorem wfX6_finishSum_70 {args : Array Value} (b : Bd p s m c cX6_finishSum 1 RX6 D aC) (hlk : meth.locks = false) (hr : meth.sig.returnType = some (.object "StatuteBench$Fraction")) {Z : State → Prop} (zs : Z s) (zk : ZOK Z (Rg ad)) {hz : PH} {rz : Option Nat} {h : PH} {x0 : Nat}  {H : Heap} {locs : List Loc} {ls : Array Slot} (hf : fX6_finishSum_70 h x0 = some (hz, rz)) (hE : CE (EX D aC ad h) (Rg ad) s H locs) (hl : lv_has ls 1 [(0, .ref (ad x0))]) : W p l e (RM 3 80 0 0) s m args below meth c H locs 0 0 (MQ below (PQ (EX D aC ad hz) (Rg ad) (some (va_rf (Option.map ad rz)))) args s 0 0 (Rg ad)) (F0 m 70 ls []) := by
  unfold fX6_finishSum_70 at hf
  refine lv_aload_n b.1 b.2.1 dX6_finishSum_70 rfl (lv_at hl 0 rfl) ?_
  obtain ⟨t2, hf⟩ := oC_s hf
  have t2 := of_decide_eq_true t2
  refine gX6_26 (x := (some x0)) b hE rfl t2 dX6_finishSum_71 ?_
  obtain ⟨a3, ea3, hf⟩ := oN_s hf
  obtain ⟨t4, hf⟩ := oC_s hf
  have t4 := of_decide_eq_true t4
  refine gX6_94 (x := (hR h 772 x0)) b hE ea3 t4 dX6_finishSum_74 ?_
  refine lv_if_ne (tgt := 112) b.1 b.2.1 dX6_finishSum_77 (by decide) (fun c5 => ?_) (fun c5 => ?_)
  · have hf := oI_f c5 hf
    exact wfX6_finishSum_112 b hlk hr zs zk  hf hE (lv_sub hl [0] rfl)
  · have hf := oI_t c5 hf
    refine lv_aload_n b.1 b.2.1 dX6_finishSum_80 rfl (lv_at hl 0 rfl) ?_
    refine gX6_146 (x := (some x0)) b hE rfl t2 dX6_finishSum_81 ?_
    refine lv_if_eq (tgt := 112) b.1 b.2.1 dX6_finishSum_84 (by decide) (fun c6 => ?_) (fun c6 => ?_)
    · have hf := oI_t c6 hf
      exact wfX6_finishSum_112 b hlk hr zs zk  hf hE (lv_sub hl [0] rfl)
    · have hf := oI_f c6 hf
      refine lv_aload_n b.1 b.2.1 dX6_finishSum_87 rfl (lv_at hl 0 rfl) ?_
      refine gX6_26 (x := (some x0)) b hE rfl t2 dX6_finishSum_88 ?_
      refine lv_aload_n b.1 b.2.1 dX6_finishSum_91 rfl (lv_at hl 0 rfl) ?_
      refine gX6_35 (x := (some x0)) b hE rfl t2 dX6_finishSum_92 ?_
      obtain ⟨r8, hc7, hf⟩ := oB_s hf
      refine k_stk [va_rf (Option.map ad (hR h 775 x0))] ea3 ?_
      refine k_callV0 (C := RX3) b zs zk hE (CX3_against l D aC ad zk hc7) mc_X3_against (in5 6 rfl rfl) mi_X3_against ms_X3_against ini_RX3 ok_X3_against (x_recv b hE (ci := 3) rfl (by decide) t4) ⟨Nat.le_of_ble_eq_true rfl, Nat.le_of_ble_eq_true rfl⟩ rfl hl.1 rfl (k_room _ (by exact Nat.le_of_ble_eq_true rfl)) ⟨Nat.le_refl _, Nat.le_refl _⟩ dX6_finishSum_95 (fun H locs hE => ?_)
      refine lv_if_ge (tgt := 112) b.1 b.2.1 dX6_finishSum_98 (by decide) (fun c9 => ?_) (fun c9 => ?_)
      · have hf := oI_t c9 hf
        exact wfX6_finishSum_112 b hlk hr zs zk  hf hE (lv_sub hl [0] rfl)
      · have hf := oI_f c9 hf
        refine lv_aload_n b.1 b.2.1 dX6_finishSum_101 rfl (lv_at hl 0 rfl) ?_
        refine gX6_26 (x := (some x0)) b hE rfl t2 dX6_finishSum_102 ?_
        refine lv_aload_n b.1 b.2.1 dX6_finishSum_105 rfl (lv_at hl 0 rfl) ?_
        refine gX6_35 (x := (some x0)) b hE rfl t2 dX6_finishSum_106 ?_
        obtain ⟨h11, hc10, hf⟩ := oB_s hf
        refine k_stk [va_rf (Option.map ad (hR h 775 x0))] ea3 ?_
        refine k_callV0 (C := RX3) b zs zk hE (CX3_copy l D aC ad zk hc10) mc_X3_copy (in5 2 rfl rfl) mi_X3_copy ms_X3_copy ini_RX3 ok_X3_copy (x_recv b hE (ci := 3) rfl (by decide) t4) ⟨Nat.le_of_ble_eq_true rfl, Nat.le_of_ble_eq_true rfl⟩ rfl hl.1 rfl (k_room _ (by exact Nat.le_of_ble_eq_true rfl)) ⟨Nat.le_refl _, Nat.le_refl _⟩ dX6_finishSum_109 (fun H locs hE => ?_)
        exact wfX6_finishSum_112 b hlk hr zs zk  hf hE (lv_sub hl [0] rfl)
def fX6_finishSum_0  (h : PH) (x0 : Nat) : Option (PH × Option Nat) :=
  oC (decide (hT h x0 = 7)) (oN (hR h 773 x0) (fun a13 => oC (decide (hT h a13 = 4)) (oN (hR h 772 x0) (fun a15 => oC (decide (hT h a15 = 4)) (oB (fX3_multiply h a15 (hL h 384 a13) (hL h 385 a13) (hI h 386 a13)) (fun h18 => oC (decide (hT h18 x0 = 7)) (oN (hR h18 772 x0) (fun a20 => oC (decide (hT h18 a20 = 4)) (if (hI h18 386 a20) = 0 then (if (hI h18 776 x0) = 0 then (fX6_finishSum_70  h18 x0) else (oB (fX3_against h18 a20 (hR h18 774 x0)) (fun r25 => if r25 ≤ 0 then (fX6_finishSum_70  h18 x0) else (oB (fX3_copy h18 a20 (hR h18 774 x0)) (fun h28 => fX6_finishSum_70  h28 x0))))) else (fX6_finishSum_70  h18 x0))))))))))
set_option maxHeartbeats 4000000 in
theorem wfX6_finishSum_0 {args : Array Value} (b : Bd p s m c cX6_finishSum 1 RX6 D aC) (hlk : meth.locks = false) (hr : meth.sig.returnType = some (.object "StatuteBench$Fraction")) {Z : State → Prop} (zs : Z s) (zk : ZOK Z (Rg ad)) {hz : PH} {rz : Option Nat} {h : PH} {x0 : Nat}  {H : Heap} {locs : List Loc} {ls : Array Slot} (hf : fX6_finishSum_0 h x0 = some (hz, rz)) (hE : CE (EX D aC ad h) (Rg ad) s H locs) (hl : lv_has ls 1 [(0, .ref (ad x0))]) : W p l e (RM 3 80 0 0) s m args below meth c H locs 0 0 (MQ below (PQ (EX D aC ad hz) (Rg ad) (some (va_rf (Option.map ad rz)))) args s 0 0 (Rg ad)) (F0 m 0 ls []) := by
  unfold fX6_finishSum_0 at hf
  refine lv_aload_n b.1 b.2.1 dX6_finishSum_0 rfl (lv_at hl 0 rfl) ?_
  obtain ⟨t12, hf⟩ := oC_s hf
  have t12 := of_decide_eq_true t12
  refine gX6_26 (x := (some x0)) b hE rfl t12 dX6_finishSum_1 ?_
  refine lv_aload_n b.1 b.2.1 dX6_finishSum_4 rfl (lv_at hl 0 rfl) ?_
  refine gX6_29 (x := (some x0)) b hE rfl t12 dX6_finishSum_5 ?_
  obtain ⟨a13, ea13, hf⟩ := oN_s hf
  obtain ⟨t14, hf⟩ := oC_s hf
  have t14 := of_decide_eq_true t14
  refine gX6_129 (x := (hR h 773 x0)) b hE ea13 t14 dX6_finishSum_8 ?_
  refine lv_aload_n b.1 b.2.1 dX6_finishSum_11 rfl (lv_at hl 0 rfl) ?_
  refine gX6_29 (x := (some x0)) b hE rfl t12 dX6_finishSum_12 ?_
  refine gX6_133 (x := (hR h 773 x0)) b hE ea13 t14 dX6_finishSum_15 ?_
  refine lv_aload_n b.1 b.2.1 dX6_finishSum_18 rfl (lv_at hl 0 rfl) ?_
  refine gX6_29 (x := (some x0)) b hE rfl t12 dX6_finishSum_19 ?_
  refine gX6_94 (x := (hR h 773 x0)) b hE ea13 t14 dX6_finishSum_22 ?_
  obtain ⟨a15, ea15, hf⟩ := oN_s hf
  obtain ⟨t16, hf⟩ := oC_s hf
  have t16 := of_decide_eq_true t16
  obtain ⟨h18, hc17, hf⟩ := oB_s hf
  refine k_stk [.int (hI h 386 a13), .long (hL h 385 a13), .long (hL h 384 a13)] ea15 ?_
  refine k_callV0 (C := RX3) b zs zk hE (CX3_multiply l D aC ad zk hc17) mc_X3_multiply (in4 226 rfl rfl) mi_X3_multiply ms_X3_multiply ini_RX3 ok_X3_multiply (x_recv b hE (ci := 3) rfl (by decide) t16) ⟨Nat.le_of_ble_eq_true rfl, Nat.le_of_ble_eq_true rfl⟩ rfl hl.1 rfl (k_room _ (by exact Nat.le_of_ble_eq_true rfl)) ⟨Nat.le_refl _, Nat.le_refl _⟩ dX6_finishSum_25 (fun H locs hE => ?_)
  refine lv_aload_n b.1 b.2.1 dX6_finishSum_28 rfl (lv_at hl 0 rfl) ?_
  obtain ⟨t19, hf⟩ := oC_s hf
  have t19 := of_decide_eq_true t19
  refine gX6_26 (x := (some x0)) b hE rfl t19 dX6_finishSum_29 ?_
  obtain ⟨a20, ea20, hf⟩ := oN_s hf
  obtain ⟨t21, hf⟩ := oC_s hf
  have t21 := of_decide_eq_true t21
  refine gX6_94 (x := (hR h18 772 x0)) b hE ea20 t21 dX6_finishSum_32 ?_
  refine lv_if_ne (tgt := 70) b.1 b.2.1 dX6_finishSum_35 (by decide) (fun c22 => ?_) (fun c22 => ?_)
  · have hf := oI_f c22 hf
    exact wfX6_finishSum_70 b hlk hr zs zk  hf hE (lv_sub hl [0] rfl)
  · have hf := oI_t c22 hf
    refine lv_aload_n b.1 b.2.1 dX6_finishSum_38 rfl (lv_at hl 0 rfl) ?_
    refine gX6_143 (x := (some x0)) b hE rfl t19 dX6_finishSum_39 ?_
    refine lv_if_eq (tgt := 70) b.1 b.2.1 dX6_finishSum_42 (by decide) (fun c23 => ?_) (fun c23 => ?_)
    · have hf := oI_t c23 hf
      exact wfX6_finishSum_70 b hlk hr zs zk  hf hE (lv_sub hl [0] rfl)
    · have hf := oI_f c23 hf
      refine lv_aload_n b.1 b.2.1 dX6_finishSum_45 rfl (lv_at hl 0 rfl) ?_
      refine gX6_26 (x := (some x0)) b hE rfl t19 dX6_finishSum_46 ?_
      refine lv_aload_n b.1 b.2.1 dX6_finishSum_49 rfl (lv_at hl 0 rfl) ?_
      refine gX6_32 (x := (some x0)) b hE rfl t19 dX6_finishSum_50 ?_
      obtain ⟨r25, hc24, hf⟩ := oB_s hf
      refine k_stk [va_rf (Option.map ad (hR h18 774 x0))] ea20 ?_
      refine k_callV0 (C := RX3) b zs zk hE (CX3_against l D aC ad zk hc24) mc_X3_against (in5 6 rfl rfl) mi_X3_against ms_X3_against ini_RX3 ok_X3_against (x_recv b hE (ci := 3) rfl (by decide) t21) ⟨Nat.le_of_ble_eq_true rfl, Nat.le_of_ble_eq_true rfl⟩ rfl hl.1 rfl (k_room _ (by exact Nat.le_of_ble_eq_true rfl)) ⟨Nat.le_refl _, Nat.le_refl _⟩ dX6_finishSum_53 (fun H locs hE => ?_)
      refine lv_if_le (tgt := 70) b.1 b.2.1 dX6_finishSum_56 (by decide) (fun c26 => ?_) (fun c26 => ?_)
      · have hf := oI_t c26 hf
        exact wfX6_finishSum_70 b hlk hr zs zk  hf hE (lv_sub hl [0] rfl)
      · have hf := oI_f c26 hf
        refine lv_aload_n b.1 b.2.1 dX6_finishSum_59 rfl (lv_at hl 0 rfl) ?_
        refine gX6_26 (x := (some x0)) b hE rfl t19 dX6_finishSum_60 ?_
        refine lv_aload_n b.1 b.2.1 dX6_finishSum_63 rfl (lv_at hl 0 rfl) ?_
        refine gX6_32 (x := (some x0)) b hE rfl t19 dX6_finishSum_64 ?_
        obtain ⟨h28, hc27, hf⟩ := oB_s hf
        refine k_stk [va_rf (Option.map ad (hR h18 774 x0))] ea20 ?_
        refine k_callV0 (C := RX3) b zs zk hE (CX3_copy l D aC ad zk hc27) mc_X3_copy (in5 2 rfl rfl) mi_X3_copy ms_X3_copy ini_RX3 ok_X3_copy (x_recv b hE (ci := 3) rfl (by decide) t21) ⟨Nat.le_of_ble_eq_true rfl, Nat.le_of_ble_eq_true rfl⟩ rfl hl.1 rfl (k_room _ (by exact Nat.le_of_ble_eq_true rfl)) ⟨Nat.le_refl _, Nat.le_refl _⟩ dX6_finishSum_67 (fun H locs hE => ?_)
        exact wfX6_finishSum_70 b hlk hr zs zk  hf hE (lv_sub hl [0] rfl)
def fX6_finishSum (h : PH) (x0 : Nat) : Option (PH × Option Nat) := fX6_finishSum_0 h x0
set_option maxHeartbeats 4000000 in
theorem CX6_finishSum (l : Launch) (D : va_G) (aC : Nat → ClassId) (ad : Nat → Nat) {Z : State → Prop} (zk : ZOK Z (Rg ad)) {h : PH} {x0 : Nat} {hz : PH} {rz : Option Nat} (hf : fX6_finishSum h x0 = some (hz, rz)) : CM l D aC Z yX6_finishSum cX6_finishSum 1 (some (.object "StatuteBench$Fraction")) 3 80 0 0 (EX D aC ad h) [.ref (ad x0)] (EX D aC ad hz) (some (va_rf (Option.map ad rz))) (Rg ad) := by
  refine CM.of rfl ?_
  intro p e s m below meth c b hr hlk hin2 zs hE
  refine k_ent (Nat.le_of_ble_eq_true rfl) (fun ls hl => ?_)
  exact wfX6_finishSum_0 b hlk hr zs zk hf hE (lv_sub hl [0] rfl)
end
