section
variable {p : Program} {l : Launch} {e : Env} {s : State} {m : MethodId} {below : List Frame} {meth : Method} {c : Code} {D : va_G} {aC : Nat → ClassId} {ad : Nat → Nat}
theorem dX6_combine_0 : decode cX6_combine 0 = .ok (.iload_n 0, 1) := by decide +kernel
theorem dX6_combine_1 : decode cX6_combine 1 = .ok (.bipush 6, 2) := by decide +kernel
theorem dX6_combine_3 : decode cX6_combine 3 = .ok (.if_icmp .ne 22, 3) := by decide +kernel
theorem dX6_combine_6 : decode cX6_combine 6 = .ok (.aload_n 1, 1) := by decide +kernel
theorem dX6_combine_7 : decode cX6_combine 7 = .ok (.aload_n 2, 1) := by decide +kernel
theorem dX6_combine_8 : decode cX6_combine 8 = .ok (.getfield 129, 3) := by decide +kernel
theorem dX6_combine_11 : decode cX6_combine 11 = .ok (.aload_n 2, 1) := by decide +kernel
theorem dX6_combine_12 : decode cX6_combine 12 = .ok (.getfield 133, 3) := by decide +kernel
theorem dX6_combine_15 : decode cX6_combine 15 = .ok (.aload_n 2, 1) := by decide +kernel
theorem dX6_combine_16 : decode cX6_combine 16 = .ok (.getfield 94, 3) := by decide +kernel
theorem dX6_combine_19 : decode cX6_combine 19 = .ok (.invokevirtual 118, 3) := by decide +kernel
theorem dX6_combine_22 : decode cX6_combine 22 = .ok (.goto 18, 3) := by decide +kernel
theorem dX6_combine_25 : decode cX6_combine 25 = .ok (.aload_n 1, 1) := by decide +kernel
theorem dX6_combine_26 : decode cX6_combine 26 = .ok (.aload_n 2, 1) := by decide +kernel
theorem dX6_combine_27 : decode cX6_combine 27 = .ok (.iload_n 0, 1) := by decide +kernel
theorem dX6_combine_28 : decode cX6_combine 28 = .ok (.iconst 4, 1) := by decide +kernel
theorem dX6_combine_29 : decode cX6_combine 29 = .ok (.if_icmp .ne 7, 3) := by decide +kernel
theorem dX6_combine_32 : decode cX6_combine 32 = .ok (.iconst 1, 1) := by decide +kernel
theorem dX6_combine_33 : decode cX6_combine 33 = .ok (.goto 4, 3) := by decide +kernel
theorem dX6_combine_36 : decode cX6_combine 36 = .ok (.iconst (-1), 1) := by decide +kernel
theorem dX6_combine_37 : decode cX6_combine 37 = .ok (.invokevirtual 136, 3) := by decide +kernel
theorem dX6_combine_40 : decode cX6_combine 40 = .ok (.return_, 1) := by decide +kernel
def fX6_combine_37  (h : PH) (s0 : Int32) (s1 : Option Nat) (s2 : Option Nat) : Option (PH) :=
  oN s2 (fun a1 => oC (decide (hT h a1 = 4)) (oB (fX3_add h a1 s1 s0) (fun h4 => some (h4))))
set_option maxHeartbeats 4000000 in
theorem wfX6_combine_37 {args : Array Value} (b : Bd p s m c cX6_combine 3 RX6 D aC) (hlk : meth.locks = false) (hr : meth.sig.returnType = none) {Z : State → Prop} (zs : Z s) (zk : ZOK Z (Rg ad)) {hz : PH} {h : PH} {s0 : Int32} {s1 : Option Nat} {s2 : Option Nat}  {H : Heap} {locs : List Loc} {ls : Array Slot} (hf : fX6_combine_37 h s0 s1 s2 = some hz) (hE : CE (EX D aC ad h) (Rg ad) s H locs) (hl : lv_has ls 3 []) : W p l e (RM 2 56 0 0) s m args below meth c H locs 0 0 (MQ below (PQ (EX D aC ad hz) (Rg ad) none) args s 0 0 (Rg ad)) (F0 m 37 ls [.int s0, va_rf (Option.map ad s1), va_rf (Option.map ad s2)]) := by
  unfold fX6_combine_37 at hf
  obtain ⟨a1, ea1, hf⟩ := oN_s hf
  obtain ⟨t2, hf⟩ := oC_s hf
  have t2 := of_decide_eq_true t2
  obtain ⟨h4, hc3, hf⟩ := oB_s hf
  refine k_stk [.int s0, va_rf (Option.map ad s1)] ea1 ?_
  refine k_callV0 (C := RX3) b zs zk hE (CX3_add l D aC ad zk hc3) mc_X3_add (in4 236 rfl rfl) mi_X3_add ms_X3_add ini_RX3 ok_X3_add (x_recv b hE (ci := 3) rfl (by decide) t2) ⟨Nat.le_of_ble_eq_true rfl, Nat.le_of_ble_eq_true rfl⟩ rfl hl.1 rfl (k_room _ (by exact Nat.le_of_ble_eq_true rfl)) ⟨Nat.le_refl _, Nat.le_refl _⟩ dX6_combine_37 (fun H locs hE => ?_)
  cases hf
  exact k_vret b hlk hr hE (Nat.le_refl _) (Nat.le_refl _) dX6_combine_40
def fX6_combine_0  (h : PH) (x0 : Int32) (x1 : Option Nat) (x2 : Option Nat) : Option (PH) :=
  if x0 = 6 then (oN x2 (fun a7 => oC (decide (hT h a7 = 4)) (oN x1 (fun a9 => oC (decide (hT h a9 = 4)) (oB (fX3_multiply h a9 (hL h 384 a7) (hL h 385 a7) (hI h 386 a7)) (fun h12 => some (h12))))))) else (if x0 = 4 then (fX6_combine_37  h 1 x2 x1) else (fX6_combine_37  h (-1) x2 x1))
set_option maxHeartbeats 4000000 in
theorem wfX6_combine_0 {args : Array Value} (b : Bd p s m c cX6_combine 3 RX6 D aC) (hlk : meth.locks = false) (hr : meth.sig.returnType = none) {Z : State → Prop} (zs : Z s) (zk : ZOK Z (Rg ad)) {hz : PH} {h : PH} {x0 : Int32} {x1 : Option Nat} {x2 : Option Nat}  {H : Heap} {locs : List Loc} {ls : Array Slot} (hf : fX6_combine_0 h x0 x1 x2 = some hz) (hE : CE (EX D aC ad h) (Rg ad) s H locs) (hl : lv_has ls 3 [(0, .int x0), (1, va_rf (Option.map ad x1)), (2, va_rf (Option.map ad x2))]) : W p l e (RM 2 56 0 0) s m args below meth c H locs 0 0 (MQ below (PQ (EX D aC ad hz) (Rg ad) none) args s 0 0 (Rg ad)) (F0 m 0 ls []) := by
  unfold fX6_combine_0 at hf
  refine lv_iload_n b.1 b.2.1 dX6_combine_0 rfl (lv_at hl 0 rfl) ?_
  refine lv_bipush (v := 6) b.1 b.2.1 dX6_combine_1 (by decide) ?_
  refine lv_icmp_ne (tgt := 25) b.1 b.2.1 dX6_combine_3 (by decide) (fun c5 => ?_) (fun c5 => ?_)
  · have hf := oI_f c5 hf
    refine k_aload_n (x := Option.map ad x1) b dX6_combine_25 rfl (lv_at hl 1 rfl) ?_
    refine k_aload_n (x := Option.map ad x2) b dX6_combine_26 rfl (lv_at hl 2 rfl) ?_
    refine lv_iload_n b.1 b.2.1 dX6_combine_27 rfl (lv_at hl 0 rfl) ?_
    refine lv_iconst (v := 4) b.1 b.2.1 dX6_combine_28 (by decide) ?_
    refine lv_icmp_ne (tgt := 36) b.1 b.2.1 dX6_combine_29 (by decide) (fun c6 => ?_) (fun c6 => ?_)
    · have hf := oI_f c6 hf
      refine lv_iconst (v := (-1)) b.1 b.2.1 dX6_combine_36 (by decide) ?_
      exact wfX6_combine_37 b hlk hr zs zk  hf hE (lv_sub hl [] rfl)
    · have hf := oI_t c6 hf
      refine lv_iconst (v := 1) b.1 b.2.1 dX6_combine_32 (by decide) ?_
      refine lv_goto (tgt := 37) b.1 b.2.1 dX6_combine_33 (by decide) ?_
      exact wfX6_combine_37 b hlk hr zs zk  hf hE (lv_sub hl [] rfl)
  · have hf := oI_t c5 hf
    refine k_aload_n (x := Option.map ad x1) b dX6_combine_6 rfl (lv_at hl 1 rfl) ?_
    refine k_aload_n (x := Option.map ad x2) b dX6_combine_7 rfl (lv_at hl 2 rfl) ?_
    obtain ⟨a7, ea7, hf⟩ := oN_s hf
    obtain ⟨t8, hf⟩ := oC_s hf
    have t8 := of_decide_eq_true t8
    refine gX6_129 (x := x2) b hE ea7 t8 dX6_combine_8 ?_
    refine k_aload_n (x := Option.map ad x2) b dX6_combine_11 rfl (lv_at hl 2 rfl) ?_
    refine gX6_133 (x := x2) b hE ea7 t8 dX6_combine_12 ?_
    refine k_aload_n (x := Option.map ad x2) b dX6_combine_15 rfl (lv_at hl 2 rfl) ?_
    refine gX6_94 (x := x2) b hE ea7 t8 dX6_combine_16 ?_
    obtain ⟨a9, ea9, hf⟩ := oN_s hf
    obtain ⟨t10, hf⟩ := oC_s hf
    have t10 := of_decide_eq_true t10
    obtain ⟨h12, hc11, hf⟩ := oB_s hf
    refine k_stk [.int (hI h 386 a7), .long (hL h 385 a7), .long (hL h 384 a7)] ea9 ?_
    refine k_callV0 (C := RX3) b zs zk hE (CX3_multiply l D aC ad zk hc11) mc_X3_multiply (in4 224 rfl rfl) mi_X3_multiply ms_X3_multiply ini_RX3 ok_X3_multiply (x_recv b hE (ci := 3) rfl (by decide) t10) ⟨Nat.le_of_ble_eq_true rfl, Nat.le_of_ble_eq_true rfl⟩ rfl hl.1 rfl (k_room _ (by exact Nat.le_of_ble_eq_true rfl)) ⟨Nat.le_refl _, Nat.le_refl _⟩ dX6_combine_19 (fun H locs hE => ?_)
    refine lv_goto (tgt := 40) b.1 b.2.1 dX6_combine_22 (by decide) ?_
    cases hf
    exact k_vret b hlk hr hE (Nat.le_refl _) (Nat.le_refl _) dX6_combine_40
def fX6_combine (h : PH) (x0 : Int32) (x1 : Option Nat) (x2 : Option Nat) : Option (PH) := fX6_combine_0 h x0 x1 x2
set_option maxHeartbeats 4000000 in
theorem CX6_combine (l : Launch) (D : va_G) (aC : Nat → ClassId) (ad : Nat → Nat) {Z : State → Prop} (zk : ZOK Z (Rg ad)) {h : PH} {x0 : Int32} {x1 : Option Nat} {x2 : Option Nat} {hz : PH} (hf : fX6_combine h x0 x1 x2 = some hz) : CM l D aC Z yX6_combine cX6_combine 3 (none) 2 56 0 0 (EX D aC ad h) [.int x0, va_rf (Option.map ad x1), va_rf (Option.map ad x2)] (EX D aC ad hz) none (Rg ad) := by
  refine CM.of rfl ?_
  intro p e s m below meth c b hr hlk hin2 zs hE
  cases x1 <;> cases x2 <;> (
    refine k_ent (Nat.le_of_ble_eq_true rfl) (fun ls hl => ?_)
    exact wfX6_combine_0 b hlk hr zs zk hf hE (lv_sub hl [0, 1, 2] rfl))
theorem dX6_work_0 : decode cX6_work 0 = .ok (.iconst 0, 1) := by decide +kernel
theorem dX6_work_1 : decode cX6_work 1 = .ok (.istore_n 3, 1) := by decide +kernel
theorem dX6_work_2 : decode cX6_work 2 = .ok (.iconst 0, 1) := by decide +kernel
theorem dX6_work_3 : decode cX6_work 3 = .ok (.iload_n 1, 1) := by decide +kernel
theorem dX6_work_4 : decode cX6_work 4 = .ok (.invokestatic 101, 3) := by decide +kernel
theorem dX6_work_7 : decode cX6_work 7 = .ok (.istore 4, 2) := by decide +kernel
theorem dX6_work_9 : decode cX6_work 9 = .ok (.iload 4, 2) := by decide +kernel
theorem dX6_work_11 : decode cX6_work 11 = .ok (.iload_n 2, 1) := by decide +kernel
theorem dX6_work_12 : decode cX6_work 12 = .ok (.if_icmp .ge 174, 3) := by decide +kernel
theorem dX6_work_15 : decode cX6_work 15 = .ok (.iload 4, 2) := by decide +kernel
theorem dX6_work_17 : decode cX6_work 17 = .ok (.aload_n 0, 1) := by decide +kernel
theorem dX6_work_18 : decode cX6_work 18 = .ok (.getfield 38, 3) := by decide +kernel
theorem dX6_work_21 : decode cX6_work 21 = .ok (.getfield 104, 3) := by decide +kernel
theorem dX6_work_24 : decode cX6_work 24 = .ok (.if_icmp .ge 162, 3) := by decide +kernel
theorem dX6_work_27 : decode cX6_work 27 = .ok (.aload_n 0, 1) := by decide +kernel
theorem dX6_work_28 : decode cX6_work 28 = .ok (.getfield 38, 3) := by decide +kernel
theorem dX6_work_31 : decode cX6_work 31 = .ok (.getfield 107, 3) := by decide +kernel
theorem dX6_work_34 : decode cX6_work 34 = .ok (.iload 4, 2) := by decide +kernel
theorem dX6_work_36 : decode cX6_work 36 = .ok (.iaload, 1) := by decide +kernel
theorem dX6_work_37 : decode cX6_work 37 = .ok (.bipush 20, 2) := by decide +kernel
theorem dX6_work_39 : decode cX6_work 39 = .ok (.ishr, 1) := by decide +kernel
theorem dX6_work_40 : decode cX6_work 40 = .ok (.istore 5, 2) := by decide +kernel
theorem dX6_work_42 : decode cX6_work 42 = .ok (.aload_n 0, 1) := by decide +kernel
theorem dX6_work_43 : decode cX6_work 43 = .ok (.getfield 38, 3) := by decide +kernel
theorem dX6_work_46 : decode cX6_work 46 = .ok (.getfield 107, 3) := by decide +kernel
theorem dX6_work_49 : decode cX6_work 49 = .ok (.iload 4, 2) := by decide +kernel
theorem dX6_work_51 : decode cX6_work 51 = .ok (.iaload, 1) := by decide +kernel
theorem dX6_work_52 : decode cX6_work 52 = .ok (.ldc 110, 2) := by decide +kernel
theorem dX6_work_54 : decode cX6_work 54 = .ok (.iand, 1) := by decide +kernel
theorem dX6_work_55 : decode cX6_work 55 = .ok (.istore 6, 2) := by decide +kernel
theorem dX6_work_57 : decode cX6_work 57 = .ok (.iload 5, 2) := by decide +kernel
theorem dX6_work_59 : decode cX6_work 59 = .ok (.ifCond .eq 9, 3) := by decide +kernel
theorem dX6_work_62 : decode cX6_work 62 = .ok (.iload 5, 2) := by decide +kernel
theorem dX6_work_64 : decode cX6_work 64 = .ok (.iconst 2, 1) := by decide +kernel
theorem dX6_work_65 : decode cX6_work 65 = .ok (.if_icmp .ne 47, 3) := by decide +kernel
theorem dX6_work_68 : decode cX6_work 68 = .ok (.iload 5, 2) := by decide +kernel
theorem dX6_work_70 : decode cX6_work 70 = .ok (.ifCond .ne 9, 3) := by decide +kernel
theorem dX6_work_73 : decode cX6_work 73 = .ok (.iload 6, 2) := by decide +kernel
theorem dX6_work_75 : decode cX6_work 75 = .ok (.i2l, 1) := by decide +kernel
theorem dX6_work_76 : decode cX6_work 76 = .ok (.goto 10, 3) := by decide +kernel
theorem dX6_work_79 : decode cX6_work 79 = .ok (.aload_n 0, 1) := by decide +kernel
theorem dX6_work_80 : decode cX6_work 80 = .ok (.iload 6, 2) := by decide +kernel
theorem dX6_work_82 : decode cX6_work 82 = .ok (.invokevirtual 111, 3) := by decide +kernel
theorem dX6_work_85 : decode cX6_work 85 = .ok (.i2l, 1) := by decide +kernel
theorem dX6_work_86 : decode cX6_work 86 = .ok (.lstore 7, 2) := by decide +kernel
theorem dX6_work_88 : decode cX6_work 88 = .ok (.iload_n 3, 1) := by decide +kernel
theorem dX6_work_89 : decode cX6_work 89 = .ok (.iconst 1, 1) := by decide +kernel
theorem dX6_work_90 : decode cX6_work 90 = .ok (.iadd, 1) := by decide +kernel
theorem dX6_work_91 : decode cX6_work 91 = .ok (.bipush 23, 2) := by decide +kernel
theorem dX6_work_93 : decode cX6_work 93 = .ok (.invokestatic 42, 3) := by decide +kernel
theorem dX6_work_96 : decode cX6_work 96 = .ok (.istore_n 3, 1) := by decide +kernel
theorem dX6_work_97 : decode cX6_work 97 = .ok (.aload_n 0, 1) := by decide +kernel
theorem dX6_work_98 : decode cX6_work 98 = .ok (.getfield 17, 3) := by decide +kernel
theorem dX6_work_101 : decode cX6_work 101 = .ok (.iload_n 3, 1) := by decide +kernel
theorem dX6_work_102 : decode cX6_work 102 = .ok (.aaload, 1) := by decide +kernel
theorem dX6_work_103 : decode cX6_work 103 = .ok (.lload 7, 2) := by decide +kernel
theorem dX6_work_105 : decode cX6_work 105 = .ok (.lconst 1, 1) := by decide +kernel
theorem dX6_work_106 : decode cX6_work 106 = .ok (.invokevirtual 114, 3) := by decide +kernel
theorem dX6_work_109 : decode cX6_work 109 = .ok (.goto 71, 3) := by decide +kernel
theorem dX6_work_112 : decode cX6_work 112 = .ok (.iload 5, 2) := by decide +kernel
theorem dX6_work_114 : decode cX6_work 114 = .ok (.iconst 1, 1) := by decide +kernel
theorem dX6_work_115 : decode cX6_work 115 = .ok (.if_icmp .ne 20, 3) := by decide +kernel
theorem dX6_work_118 : decode cX6_work 118 = .ok (.aload_n 0, 1) := by decide +kernel
theorem dX6_work_119 : decode cX6_work 119 = .ok (.getfield 17, 3) := by decide +kernel
theorem dX6_work_122 : decode cX6_work 122 = .ok (.iload_n 3, 1) := by decide +kernel
theorem dX6_work_123 : decode cX6_work 123 = .ok (.aaload, 1) := by decide +kernel
theorem dX6_work_124 : decode cX6_work 124 = .ok (.lconst 1, 1) := by decide +kernel
theorem dX6_work_125 : decode cX6_work 125 = .ok (.iload 6, 2) := by decide +kernel
theorem dX6_work_127 : decode cX6_work 127 = .ok (.i2l, 1) := by decide +kernel
theorem dX6_work_128 : decode cX6_work 128 = .ok (.iconst 0, 1) := by decide +kernel
theorem dX6_work_129 : decode cX6_work 129 = .ok (.invokevirtual 118, 3) := by decide +kernel
theorem dX6_work_132 : decode cX6_work 132 = .ok (.goto 48, 3) := by decide +kernel
theorem dX6_work_135 : decode cX6_work 135 = .ok (.iload 5, 2) := by decide +kernel
theorem dX6_work_137 : decode cX6_work 137 = .ok (.iconst 3, 1) := by decide +kernel
theorem dX6_work_138 : decode cX6_work 138 = .ok (.if_icmp .ne 15, 3) := by decide +kernel
theorem dX6_work_141 : decode cX6_work 141 = .ok (.aload_n 0, 1) := by decide +kernel
theorem dX6_work_142 : decode cX6_work 142 = .ok (.getfield 17, 3) := by decide +kernel
theorem dX6_work_145 : decode cX6_work 145 = .ok (.iload_n 3, 1) := by decide +kernel
theorem dX6_work_146 : decode cX6_work 146 = .ok (.aaload, 1) := by decide +kernel
theorem dX6_work_147 : decode cX6_work 147 = .ok (.invokevirtual 122, 3) := by decide +kernel
theorem dX6_work_150 : decode cX6_work 150 = .ok (.goto 30, 3) := by decide +kernel
theorem dX6_work_153 : decode cX6_work 153 = .ok (.iload_n 3, 1) := by decide +kernel
theorem dX6_work_154 : decode cX6_work 154 = .ok (.iconst 1, 1) := by decide +kernel
theorem dX6_work_155 : decode cX6_work 155 = .ok (.isub, 1) := by decide +kernel
theorem dX6_work_156 : decode cX6_work 156 = .ok (.iconst 0, 1) := by decide +kernel
theorem dX6_work_157 : decode cX6_work 157 = .ok (.invokestatic 101, 3) := by decide +kernel
theorem dX6_work_160 : decode cX6_work 160 = .ok (.istore_n 3, 1) := by decide +kernel
theorem dX6_work_161 : decode cX6_work 161 = .ok (.iload 5, 2) := by decide +kernel
theorem dX6_work_163 : decode cX6_work 163 = .ok (.aload_n 0, 1) := by decide +kernel
theorem dX6_work_164 : decode cX6_work 164 = .ok (.getfield 17, 3) := by decide +kernel
theorem dX6_work_167 : decode cX6_work 167 = .ok (.iload_n 3, 1) := by decide +kernel
theorem dX6_work_168 : decode cX6_work 168 = .ok (.aaload, 1) := by decide +kernel
theorem dX6_work_169 : decode cX6_work 169 = .ok (.aload_n 0, 1) := by decide +kernel
theorem dX6_work_170 : decode cX6_work 170 = .ok (.getfield 17, 3) := by decide +kernel
theorem dX6_work_173 : decode cX6_work 173 = .ok (.iload_n 3, 1) := by decide +kernel
theorem dX6_work_174 : decode cX6_work 174 = .ok (.iconst 1, 1) := by decide +kernel
theorem dX6_work_175 : decode cX6_work 175 = .ok (.iadd, 1) := by decide +kernel
theorem dX6_work_176 : decode cX6_work 176 = .ok (.aaload, 1) := by decide +kernel
theorem dX6_work_177 : decode cX6_work 177 = .ok (.invokestatic 125, 3) := by decide +kernel
theorem dX6_work_180 : decode cX6_work 180 = .ok (.iinc 4 1, 3) := by decide +kernel
theorem dX6_work_183 : decode cX6_work 183 = .ok (.goto (-174), 3) := by decide +kernel
theorem dX6_work_186 : decode cX6_work 186 = .ok (.aload_n 0, 1) := by decide +kernel
theorem dX6_work_187 : decode cX6_work 187 = .ok (.getfield 17, 3) := by decide +kernel
theorem dX6_work_190 : decode cX6_work 190 = .ok (.iload_n 3, 1) := by decide +kernel
theorem dX6_work_191 : decode cX6_work 191 = .ok (.aaload, 1) := by decide +kernel
theorem dX6_work_192 : decode cX6_work 192 = .ok (.areturn, 1) := by decide +kernel
def fX6_work_186  (h : PH) (x0 : Nat) (x3 : Int32) : Option (PH × Option Nat) :=
  oC (decide (hT h x0 = 7)) (oN (hR h 770 x0) (fun a2 => oC (decide (hT h a2 = 107)) (oC (ix x3 (hN h a2)) (some (h, (hC h a2 (Int32.toNatClampNeg x3)))))))
set_option maxHeartbeats 4000000 in
theorem wfX6_work_186 {args : Array Value} (b : Bd p s m c cX6_work 9 RX6 D aC) (hlk : meth.locks = false) (hr : meth.sig.returnType = some (.object "StatuteBench$Fraction")) {Z : State → Prop} (zs : Z s) (zk : ZOK Z (Rg ad)) {hz : PH} {rz : Option Nat} {h : PH} {x0 : Nat} {x3 : Int32}  {H : Heap} {locs : List Loc} {ls : Array Slot} (hf : fX6_work_186 h x0 x3 = some (hz, rz)) (hE : CE (EX D aC ad h) (Rg ad) s H locs) (hl : lv_has ls 9 [(0, .ref (ad x0)), (3, .int x3)]) : W p l e (RM 3 78 0 0) s m args below meth c H locs 0 0 (MQ below (PQ (EX D aC ad hz) (Rg ad) (some (va_rf (Option.map ad rz)))) args s 0 0 (Rg ad)) (F0 m 186 ls []) := by
  unfold fX6_work_186 at hf
  refine lv_aload_n b.1 b.2.1 dX6_work_186 rfl (lv_at hl 0 rfl) ?_
  obtain ⟨t1, hf⟩ := oC_s hf
  have t1 := of_decide_eq_true t1
  refine gX6_17 (x := (some x0)) b hE rfl t1 dX6_work_187 ?_
  refine lv_iload_n b.1 b.2.1 dX6_work_190 rfl (lv_at hl 1 rfl) ?_
  obtain ⟨a2, ea2, hf⟩ := oN_s hf
  obtain ⟨t3, hf⟩ := oC_s hf
  have t3 := of_decide_eq_true t3
  obtain ⟨g4, hf⟩ := oC_s hf
  refine q_aald7 (x := (hR h 770 x0)) b hE ea2 t3 g4 dX6_work_191 ?_
  cases hf
  exact k_aret b hlk hr hE (Nat.le_refl _) (Nat.le_refl _) dX6_work_192
def fX6_work_180 (k9 : PH → Nat → Int32 → Int32 → Int32 → Option (PH × Option Nat)) (h : PH) (x0 : Nat) (x2 : Int32) (x3 : Int32) (x4 : Int32) : Option (PH × Option Nat) :=
  oL (x4 + 1) (fun y5 => k9 h x0 x2 x3 y5)
set_option maxHeartbeats 4000000 in
theorem wfX6_work_180 {args : Array Value} (b : Bd p s m c cX6_work 9 RX6 D aC) (hlk : meth.locks = false) (hr : meth.sig.returnType = some (.object "StatuteBench$Fraction")) {Z : State → Prop} (zs : Z s) (zk : ZOK Z (Rg ad)) {hz : PH} {rz : Option Nat} {k9 : PH → Nat → Int32 → Int32 → Int32 → Option (PH × Option Nat)} (H9 : ∀ (h : PH) (x0 : Nat) (x2 : Int32) (x3 : Int32) (x4 : Int32), ∀ (H : Heap) (locs : List Loc) (ls : Array Slot), k9 h x0 x2 x3 x4 = some (hz, rz) → CE (EX D aC ad h) (Rg ad) s H locs → lv_has ls 9 [(0, .ref (ad x0)), (2, .int x2), (3, .int x3), (4, .int x4)] → W p l e (RM 3 78 0 0) s m args below meth c H locs 0 0 (MQ below (PQ (EX D aC ad hz) (Rg ad) (some (va_rf (Option.map ad rz)))) args s 0 0 (Rg ad)) (F0 m 9 ls [])) {h : PH} {x0 : Nat} {x2 : Int32} {x3 : Int32} {x4 : Int32}  {H : Heap} {locs : List Loc} {ls : Array Slot} (hf : fX6_work_180 k9 h x0 x2 x3 x4 = some (hz, rz)) (hE : CE (EX D aC ad h) (Rg ad) s H locs) (hl : lv_has ls 9 [(0, .ref (ad x0)), (2, .int x2), (3, .int x3), (4, .int x4)]) : W p l e (RM 3 78 0 0) s m args below meth c H locs 0 0 (MQ below (PQ (EX D aC ad hz) (Rg ad) (some (va_rf (Option.map ad rz)))) args s 0 0 (Rg ad)) (F0 m 180 ls []) := by
  unfold fX6_work_180 at hf
  obtain ⟨y5, ey5, hf⟩ := oL_s hf
  refine lv_iinc (v := y5) (lv' := [(4, .int y5), (0, .ref (ad x0)), (2, .int x2), (3, .int x3)]) b.1 b.2.1 dX6_work_180 hl (k := 3) rfl (by rw [ey5]; rfl) (by decide) rfl (fun ls hl => ?_)
  refine lv_goto (tgt := 9) b.1 b.2.1 dX6_work_183 (by decide) ?_
  exact H9 h x0 x2 x3 y5 _ _ _ hf hE (lv_sub hl [1, 2, 3, 0] rfl)
def fX6_work_86 (k9 : PH → Nat → Int32 → Int32 → Int32 → Option (PH × Option Nat)) (h : PH) (x0 : Nat) (x2 : Int32) (x3 : Int32) (x4 : Int32) (s0 : Int64) : Option (PH × Option Nat) :=
  oL (if 23 < (x3 + 1) then 23 else (x3 + 1)) (fun y6 => oC (decide (hT h x0 = 7)) (oN (hR h 770 x0) (fun a8 => oC (decide (hT h a8 = 107)) (oC (ix y6 (hN h a8)) (oN (hC h a8 (Int32.toNatClampNeg y6)) (fun a11 => oC (decide (hT h a11 = 4)) (oB (fX3_become h a11 s0 1) (fun h14 => fX6_work_180 k9 h14 x0 x2 y6 x4))))))))
set_option maxHeartbeats 4000000 in
theorem wfX6_work_86 {args : Array Value} (b : Bd p s m c cX6_work 9 RX6 D aC) (hlk : meth.locks = false) (hr : meth.sig.returnType = some (.object "StatuteBench$Fraction")) {Z : State → Prop} (zs : Z s) (zk : ZOK Z (Rg ad)) {hz : PH} {rz : Option Nat} {k9 : PH → Nat → Int32 → Int32 → Int32 → Option (PH × Option Nat)} (H9 : ∀ (h : PH) (x0 : Nat) (x2 : Int32) (x3 : Int32) (x4 : Int32), ∀ (H : Heap) (locs : List Loc) (ls : Array Slot), k9 h x0 x2 x3 x4 = some (hz, rz) → CE (EX D aC ad h) (Rg ad) s H locs → lv_has ls 9 [(0, .ref (ad x0)), (2, .int x2), (3, .int x3), (4, .int x4)] → W p l e (RM 3 78 0 0) s m args below meth c H locs 0 0 (MQ below (PQ (EX D aC ad hz) (Rg ad) (some (va_rf (Option.map ad rz)))) args s 0 0 (Rg ad)) (F0 m 9 ls [])) {h : PH} {x0 : Nat} {x2 : Int32} {x3 : Int32} {x4 : Int32} {s0 : Int64}  {H : Heap} {locs : List Loc} {ls : Array Slot} (hf : fX6_work_86 k9 h x0 x2 x3 x4 s0 = some (hz, rz)) (hE : CE (EX D aC ad h) (Rg ad) s H locs) (hl : lv_has ls 9 [(0, .ref (ad x0)), (2, .int x2), (3, .int x3), (4, .int x4)]) : W p l e (RM 3 78 0 0) s m args below meth c H locs 0 0 (MQ below (PQ (EX D aC ad hz) (Rg ad) (some (va_rf (Option.map ad rz)))) args s 0 0 (Rg ad)) (F0 m 86 ls [.long s0]) := by
  unfold fX6_work_86 at hf
  refine lv_lstore (lv' := [(7, .long s0), (0, .ref (ad x0)), (2, .int x2), (3, .int x3), (4, .int x4)]) b.1 b.2.1 dX6_work_86 hl (by decide) rfl (fun ls hl => ?_)
  refine lv_iload_n b.1 b.2.1 dX6_work_88 rfl (lv_at hl 3 rfl) ?_
  refine lv_iconst (v := 1) b.1 b.2.1 dX6_work_89 (by decide) ?_
  refine lv_iadd b.1 b.2.1 dX6_work_90 ?_
  refine lv_bipush (v := 23) b.1 b.2.1 dX6_work_91 (by decide) ?_
  refine k_min b (in4 195 rfl rfl) mthmin_s mth_i mthmin_c hl.1 ⟨Nat.le_of_ble_eq_true rfl, Nat.le_of_ble_eq_true rfl⟩ (Nat.le_of_ble_eq_true rfl) ⟨Nat.le_refl _, Nat.le_refl _⟩ dX6_work_93 ?_
  obtain ⟨y6, ey6, hf⟩ := oL_s hf
  refine k_nmI ey6 ?_
  refine lv_istore_n (lv' := [(3, .int y6), (7, .long s0), (0, .ref (ad x0)), (2, .int x2), (4, .int x4)]) b.1 b.2.1 dX6_work_96 rfl hl (by decide) rfl (fun ls hl => ?_)
  refine lv_aload_n b.1 b.2.1 dX6_work_97 rfl (lv_at hl 2 rfl) ?_
  obtain ⟨t7, hf⟩ := oC_s hf
  have t7 := of_decide_eq_true t7
  refine gX6_17 (x := (some x0)) b hE rfl t7 dX6_work_98 ?_
  refine lv_iload_n b.1 b.2.1 dX6_work_101 rfl (lv_at hl 0 rfl) ?_
  obtain ⟨a8, ea8, hf⟩ := oN_s hf
  obtain ⟨t9, hf⟩ := oC_s hf
  have t9 := of_decide_eq_true t9
  obtain ⟨g10, hf⟩ := oC_s hf
  refine q_aald7 (x := (hR h 770 x0)) b hE ea8 t9 g10 dX6_work_102 ?_
  refine lv_lload b.1 b.2.1 dX6_work_103 (lv_at hl 1 rfl) ?_
  refine lv_lconst (v := 1) b.1 b.2.1 dX6_work_105 rfl ?_
  obtain ⟨a11, ea11, hf⟩ := oN_s hf
  obtain ⟨t12, hf⟩ := oC_s hf
  have t12 := of_decide_eq_true t12
  obtain ⟨h14, hc13, hf⟩ := oB_s hf
  refine k_stk [.long 1, .long s0] ea11 ?_
  refine k_callV0 (C := RX3) b zs zk hE (CX3_become l D aC ad zk hc13) mc_X3_become (in4 218 rfl rfl) mi_X3_become ms_X3_become ini_RX3 ok_X3_become (x_recv b hE (ci := 3) rfl (by decide) t12) ⟨Nat.le_of_ble_eq_true rfl, Nat.le_of_ble_eq_true rfl⟩ rfl hl.1 rfl (k_room _ (by exact Nat.le_of_ble_eq_true rfl)) ⟨Nat.le_refl _, Nat.le_refl _⟩ dX6_work_106 (fun H locs hE => ?_)
  refine lv_goto (tgt := 180) b.1 b.2.1 dX6_work_109 (by decide) ?_
  exact wfX6_work_180 b hlk hr zs zk H9 hf hE (lv_sub hl [2, 3, 0, 4] rfl)
def fX6_work_68 (k9 : PH → Nat → Int32 → Int32 → Int32 → Option (PH × Option Nat)) (h : PH) (x0 : Nat) (x2 : Int32) (x3 : Int32) (x4 : Int32) (x5 : Int32) (x6 : Int32) : Option (PH × Option Nat) :=
  if x5 = 0 then (fX6_work_86 k9 h x0 x2 x3 x4 (Int32.toInt64 x6)) else (oC (decide (hT h x0 = 7)) (oB (fX6_numberOf h x0 x6) (fun r18 => fX6_work_86 k9 h x0 x2 x3 x4 (Int32.toInt64 r18))))
set_option maxHeartbeats 4000000 in
theorem wfX6_work_68 {args : Array Value} (b : Bd p s m c cX6_work 9 RX6 D aC) (hlk : meth.locks = false) (hr : meth.sig.returnType = some (.object "StatuteBench$Fraction")) {Z : State → Prop} (zs : Z s) (zk : ZOK Z (Rg ad)) {hz : PH} {rz : Option Nat} {k9 : PH → Nat → Int32 → Int32 → Int32 → Option (PH × Option Nat)} (H9 : ∀ (h : PH) (x0 : Nat) (x2 : Int32) (x3 : Int32) (x4 : Int32), ∀ (H : Heap) (locs : List Loc) (ls : Array Slot), k9 h x0 x2 x3 x4 = some (hz, rz) → CE (EX D aC ad h) (Rg ad) s H locs → lv_has ls 9 [(0, .ref (ad x0)), (2, .int x2), (3, .int x3), (4, .int x4)] → W p l e (RM 3 78 0 0) s m args below meth c H locs 0 0 (MQ below (PQ (EX D aC ad hz) (Rg ad) (some (va_rf (Option.map ad rz)))) args s 0 0 (Rg ad)) (F0 m 9 ls [])) {h : PH} {x0 : Nat} {x2 : Int32} {x3 : Int32} {x4 : Int32} {x5 : Int32} {x6 : Int32}  {H : Heap} {locs : List Loc} {ls : Array Slot} (hf : fX6_work_68 k9 h x0 x2 x3 x4 x5 x6 = some (hz, rz)) (hE : CE (EX D aC ad h) (Rg ad) s H locs) (hl : lv_has ls 9 [(0, .ref (ad x0)), (2, .int x2), (3, .int x3), (4, .int x4), (5, .int x5), (6, .int x6)]) : W p l e (RM 3 78 0 0) s m args below meth c H locs 0 0 (MQ below (PQ (EX D aC ad hz) (Rg ad) (some (va_rf (Option.map ad rz)))) args s 0 0 (Rg ad)) (F0 m 68 ls []) := by
  unfold fX6_work_68 at hf
  refine lv_iload b.1 b.2.1 dX6_work_68 (lv_at hl 4 rfl) ?_
  refine lv_if_ne (tgt := 79) b.1 b.2.1 dX6_work_70 (by decide) (fun c15 => ?_) (fun c15 => ?_)
  · have hf := oI_f c15 hf
    refine lv_aload_n b.1 b.2.1 dX6_work_79 rfl (lv_at hl 0 rfl) ?_
    refine lv_iload b.1 b.2.1 dX6_work_80 (lv_at hl 5 rfl) ?_
    obtain ⟨t16, hf⟩ := oC_s hf
    have t16 := of_decide_eq_true t16
    obtain ⟨r18, hc17, hf⟩ := oB_s hf
    refine k_callV0 (C := RX6) b zs zk hE (CX6_numberOf l D aC ad zk hc17) mc_X6_numberOf (in4 214 rfl rfl) mi_X6_numberOf ms_X6_numberOf ini_RX6 ok_X6_numberOf (x_recv b hE (ci := 6) rfl (by decide) t16) ⟨Nat.le_of_ble_eq_true rfl, Nat.le_of_ble_eq_true rfl⟩ rfl hl.1 rfl (k_room _ (by exact Nat.le_of_ble_eq_true rfl)) ⟨Nat.le_refl _, Nat.le_refl _⟩ dX6_work_82 (fun H locs hE => ?_)
    refine lv_i2l b.1 b.2.1 dX6_work_85 rfl ?_
    exact wfX6_work_86 b hlk hr zs zk H9 hf hE (lv_sub hl [0, 1, 2, 3] rfl)
  · have hf := oI_t c15 hf
    refine lv_iload b.1 b.2.1 dX6_work_73 (lv_at hl 5 rfl) ?_
    refine lv_i2l b.1 b.2.1 dX6_work_75 rfl ?_
    refine lv_goto (tgt := 86) b.1 b.2.1 dX6_work_76 (by decide) ?_
    exact wfX6_work_86 b hlk hr zs zk H9 hf hE (lv_sub hl [0, 1, 2, 3] rfl)
def fX6_work_9F (k9 : PH → Nat → Int32 → Int32 → Int32 → Option (PH × Option Nat)) (h : PH) (x0 : Nat) (x2 : Int32) (x3 : Int32) (x4 : Int32) : Option (PH × Option Nat) :=
  if x2 ≤ x4 then (fX6_work_186  h x0 x3) else (oC (decide (hT h x0 = 7)) (oN (hR h 768 x0) (fun a21 => oC (decide (hT h a21 = 2)) (if (hI h 142 a21) ≤ x4 then (fX6_work_186  h x0 x3) else (oN (hR h 141 a21) (fun a24 => oC (decide (hT h a24 = 101)) (oC (ix x4 (hN h a24)) (oL ((hA h a24 (Int32.toNatClampNeg x4)) >>> (20 &&& 31)) (fun y27 => oC (ix x4 (hN h a24)) (oL ((hA h a24 (Int32.toNatClampNeg x4)) &&& 1048575) (fun y29 => if y27 = 0 then (fX6_work_68 k9 h x0 x2 x3 x4 y27 y29) else (if y27 = 2 then (fX6_work_68 k9 h x0 x2 x3 x4 y27 y29) else (if y27 = 1 then (oN (hR h 770 x0) (fun a48 => oC (decide (hT h a48 = 107)) (oC (ix x3 (hN h a48)) (oN (hC h a48 (Int32.toNatClampNeg x3)) (fun a51 => oC (decide (hT h a51 = 4)) (oB (fX3_multiply h a51 1 (Int32.toInt64 y29) 0) (fun h54 => fX6_work_180 k9 h54 x0 x2 x3 x4))))))) else (if y27 = 3 then (oN (hR h 770 x0) (fun a41 => oC (decide (hT h a41 = 107)) (oC (ix x3 (hN h a41)) (oN (hC h a41 (Int32.toNatClampNeg x3)) (fun a44 => oC (decide (hT h a44 = 4)) (oB (fX3_negate h a44) (fun h47 => fX6_work_180 k9 h47 x0 x2 x3 x4))))))) else (oL (if (x3 - 1) < 0 then 0 else (x3 - 1)) (fun y34 => oN (hR h 770 x0) (fun a35 => oC (decide (hT h a35 = 107)) (oC (ix y34 (hN h a35)) (oC (ix (y34 + 1) (hN h a35)) (oB (fX6_combine h y27 (hC h a35 (Int32.toNatClampNeg y34)) (hC h a35 (Int32.toNatClampNeg (y34 + 1)))) (fun h40 => fX6_work_180 k9 h40 x0 x2 y34 x4)))))))))))))))))))))
set_option maxHeartbeats 4000000 in
theorem wfX6_work_9F {args : Array Value} (b : Bd p s m c cX6_work 9 RX6 D aC) (hlk : meth.locks = false) (hr : meth.sig.returnType = some (.object "StatuteBench$Fraction")) {Z : State → Prop} (zs : Z s) (zk : ZOK Z (Rg ad)) {hz : PH} {rz : Option Nat} {k9 : PH → Nat → Int32 → Int32 → Int32 → Option (PH × Option Nat)} (H9 : ∀ (h : PH) (x0 : Nat) (x2 : Int32) (x3 : Int32) (x4 : Int32), ∀ (H : Heap) (locs : List Loc) (ls : Array Slot), k9 h x0 x2 x3 x4 = some (hz, rz) → CE (EX D aC ad h) (Rg ad) s H locs → lv_has ls 9 [(0, .ref (ad x0)), (2, .int x2), (3, .int x3), (4, .int x4)] → W p l e (RM 3 78 0 0) s m args below meth c H locs 0 0 (MQ below (PQ (EX D aC ad hz) (Rg ad) (some (va_rf (Option.map ad rz)))) args s 0 0 (Rg ad)) (F0 m 9 ls [])) {h : PH} {x0 : Nat} {x2 : Int32} {x3 : Int32} {x4 : Int32}  {H : Heap} {locs : List Loc} {ls : Array Slot} (hf : fX6_work_9F k9 h x0 x2 x3 x4 = some (hz, rz)) (hE : CE (EX D aC ad h) (Rg ad) s H locs) (hl : lv_has ls 9 [(0, .ref (ad x0)), (2, .int x2), (3, .int x3), (4, .int x4)]) : W p l e (RM 3 78 0 0) s m args below meth c H locs 0 0 (MQ below (PQ (EX D aC ad hz) (Rg ad) (some (va_rf (Option.map ad rz)))) args s 0 0 (Rg ad)) (F0 m 9 ls []) := by
  unfold fX6_work_9F at hf
  refine lv_iload b.1 b.2.1 dX6_work_9 (lv_at hl 3 rfl) ?_
  refine lv_iload_n b.1 b.2.1 dX6_work_11 rfl (lv_at hl 1 rfl) ?_
  refine lv_icmp_ge (tgt := 186) b.1 b.2.1 dX6_work_12 (by decide) (fun c19 => ?_) (fun c19 => ?_)
  · have hf := oI_t c19 hf
    exact wfX6_work_186 b hlk hr zs zk  hf hE (lv_sub hl [0, 2] rfl)
  · have hf := oI_f c19 hf
    refine lv_iload b.1 b.2.1 dX6_work_15 (lv_at hl 3 rfl) ?_
    refine lv_aload_n b.1 b.2.1 dX6_work_17 rfl (lv_at hl 0 rfl) ?_
    obtain ⟨t20, hf⟩ := oC_s hf
    have t20 := of_decide_eq_true t20
    refine gX6_38 (x := (some x0)) b hE rfl t20 dX6_work_18 ?_
    obtain ⟨a21, ea21, hf⟩ := oN_s hf
    obtain ⟨t22, hf⟩ := oC_s hf
    have t22 := of_decide_eq_true t22
    refine gX6_104 (x := (hR h 768 x0)) b hE ea21 t22 dX6_work_21 ?_
    refine lv_icmp_ge (tgt := 186) b.1 b.2.1 dX6_work_24 (by decide) (fun c23 => ?_) (fun c23 => ?_)
    · have hf := oI_t c23 hf
      exact wfX6_work_186 b hlk hr zs zk  hf hE (lv_sub hl [0, 2] rfl)
    · have hf := oI_f c23 hf
      refine lv_aload_n b.1 b.2.1 dX6_work_27 rfl (lv_at hl 0 rfl) ?_
      refine gX6_38 (x := (some x0)) b hE rfl t20 dX6_work_28 ?_
      refine gX6_107 (x := (hR h 768 x0)) b hE ea21 t22 dX6_work_31 ?_
      refine lv_iload b.1 b.2.1 dX6_work_34 (lv_at hl 3 rfl) ?_
      obtain ⟨a24, ea24, hf⟩ := oN_s hf
      obtain ⟨t25, hf⟩ := oC_s hf
      have t25 := of_decide_eq_true t25
      obtain ⟨g26, hf⟩ := oC_s hf
      refine q_iald (x := (hR h 141 a21)) b hE ea24 t25 g26 dX6_work_36 ?_
      refine lv_bipush (v := 20) b.1 b.2.1 dX6_work_37 (by decide) ?_
      refine lv_ishr b.1 b.2.1 dX6_work_39 ?_
      obtain ⟨y27, ey27, hf⟩ := oL_s hf
      refine k_nmI ey27 ?_
      refine lv_istore (lv' := [(5, .int y27), (0, .ref (ad x0)), (2, .int x2), (3, .int x3), (4, .int x4)]) b.1 b.2.1 dX6_work_40 hl (by decide) rfl (fun ls hl => ?_)
      refine lv_aload_n b.1 b.2.1 dX6_work_42 rfl (lv_at hl 1 rfl) ?_
      refine gX6_38 (x := (some x0)) b hE rfl t20 dX6_work_43 ?_
      refine gX6_107 (x := (hR h 768 x0)) b hE ea21 t22 dX6_work_46 ?_
      refine lv_iload b.1 b.2.1 dX6_work_49 (lv_at hl 4 rfl) ?_
      obtain ⟨g28, hf⟩ := oC_s hf
      refine q_iald (x := (hR h 141 a21)) b hE ea24 t25 g28 dX6_work_51 ?_
      refine k_ldc (v := 1048575) b (in4 213 rfl rfl) dX6_work_52 ?_
      refine lv_iand b.1 b.2.1 dX6_work_54 ?_
      obtain ⟨y29, ey29, hf⟩ := oL_s hf
      refine k_nmI ey29 ?_
      refine lv_istore (lv' := [(6, .int y29), (5, .int y27), (0, .ref (ad x0)), (2, .int x2), (3, .int x3), (4, .int x4)]) b.1 b.2.1 dX6_work_55 hl (by decide) rfl (fun ls hl => ?_)
      refine lv_iload b.1 b.2.1 dX6_work_57 (lv_at hl 1 rfl) ?_
      refine lv_if_eq (tgt := 68) b.1 b.2.1 dX6_work_59 (by decide) (fun c30 => ?_) (fun c30 => ?_)
      · have hf := oI_t c30 hf
        exact wfX6_work_68 b hlk hr zs zk H9 hf hE (lv_sub hl [2, 3, 4, 5, 1, 0] rfl)
      · have hf := oI_f c30 hf
        refine lv_iload b.1 b.2.1 dX6_work_62 (lv_at hl 1 rfl) ?_
        refine lv_iconst (v := 2) b.1 b.2.1 dX6_work_64 (by decide) ?_
        refine lv_icmp_ne (tgt := 112) b.1 b.2.1 dX6_work_65 (by decide) (fun c31 => ?_) (fun c31 => ?_)
        · have hf := oI_f c31 hf
          refine lv_iload b.1 b.2.1 dX6_work_112 (lv_at hl 1 rfl) ?_
          refine lv_iconst (v := 1) b.1 b.2.1 dX6_work_114 (by decide) ?_
          refine lv_icmp_ne (tgt := 135) b.1 b.2.1 dX6_work_115 (by decide) (fun c32 => ?_) (fun c32 => ?_)
          · have hf := oI_f c32 hf
            refine lv_iload b.1 b.2.1 dX6_work_135 (lv_at hl 1 rfl) ?_
            refine lv_iconst (v := 3) b.1 b.2.1 dX6_work_137 (by decide) ?_
            refine lv_icmp_ne (tgt := 153) b.1 b.2.1 dX6_work_138 (by decide) (fun c33 => ?_) (fun c33 => ?_)
            · have hf := oI_f c33 hf
              refine lv_iload_n b.1 b.2.1 dX6_work_153 rfl (lv_at hl 4 rfl) ?_
              refine lv_iconst (v := 1) b.1 b.2.1 dX6_work_154 (by decide) ?_
              refine lv_isub b.1 b.2.1 dX6_work_155 ?_
              refine lv_iconst (v := 0) b.1 b.2.1 dX6_work_156 (by decide) ?_
              refine k_max b (in4 212 rfl rfl) mthmax_s mth_i mthmax_c hl.1 ⟨Nat.le_of_ble_eq_true rfl, Nat.le_of_ble_eq_true rfl⟩ (Nat.le_of_ble_eq_true rfl) ⟨Nat.le_refl _, Nat.le_refl _⟩ dX6_work_157 ?_
              obtain ⟨y34, ey34, hf⟩ := oL_s hf
              refine k_nmI ey34 ?_
              refine lv_istore_n (lv' := [(3, .int y34), (6, .int y29), (5, .int y27), (0, .ref (ad x0)), (2, .int x2), (4, .int x4)]) b.1 b.2.1 dX6_work_160 rfl hl (by decide) rfl (fun ls hl => ?_)
              have hl := lv_sub (l' := [(3, .int y34), (5, .int y27), (0, .ref (ad x0)), (2, .int x2), (4, .int x4)]) hl [0, 2, 3, 4, 5] rfl
              refine lv_iload b.1 b.2.1 dX6_work_161 (lv_at hl 1 rfl) ?_
              refine lv_aload_n b.1 b.2.1 dX6_work_163 rfl (lv_at hl 2 rfl) ?_
              refine gX6_17 (x := (some x0)) b hE rfl t20 dX6_work_164 ?_
              refine lv_iload_n b.1 b.2.1 dX6_work_167 rfl (lv_at hl 0 rfl) ?_
              obtain ⟨a35, ea35, hf⟩ := oN_s hf
              obtain ⟨t36, hf⟩ := oC_s hf
              have t36 := of_decide_eq_true t36
              obtain ⟨g37, hf⟩ := oC_s hf
              refine q_aald7 (x := (hR h 770 x0)) b hE ea35 t36 g37 dX6_work_168 ?_
              refine lv_aload_n b.1 b.2.1 dX6_work_169 rfl (lv_at hl 2 rfl) ?_
              refine gX6_17 (x := (some x0)) b hE rfl t20 dX6_work_170 ?_
              refine lv_iload_n b.1 b.2.1 dX6_work_173 rfl (lv_at hl 0 rfl) ?_
              refine lv_iconst (v := 1) b.1 b.2.1 dX6_work_174 (by decide) ?_
              refine lv_iadd b.1 b.2.1 dX6_work_175 ?_
              obtain ⟨g38, hf⟩ := oC_s hf
              refine q_aald7 (x := (hR h 770 x0)) b hE ea35 t36 g38 dX6_work_176 ?_
              obtain ⟨h40, hc39, hf⟩ := oB_s hf
              refine k_callS0 b zs zk hE (CX6_combine l D aC ad zk hc39) mc_X6_combine (in4 233 rfl rfl) mt_X6_combine ini_RX6 ok_X6_combine ⟨Nat.le_of_ble_eq_true rfl, Nat.le_of_ble_eq_true rfl⟩ rfl hl.1 rfl (k_room _ (by exact Nat.le_of_ble_eq_true rfl)) ⟨Nat.le_refl _, Nat.le_refl _⟩ dX6_work_177 (fun H locs hE => ?_)
              exact wfX6_work_180 b hlk hr zs zk H9 hf hE (lv_sub hl [2, 3, 0, 4] rfl)
            · have hf := oI_t c33 hf
              refine lv_aload_n b.1 b.2.1 dX6_work_141 rfl (lv_at hl 2 rfl) ?_
              refine gX6_17 (x := (some x0)) b hE rfl t20 dX6_work_142 ?_
              refine lv_iload_n b.1 b.2.1 dX6_work_145 rfl (lv_at hl 4 rfl) ?_
              obtain ⟨a41, ea41, hf⟩ := oN_s hf
              obtain ⟨t42, hf⟩ := oC_s hf
              have t42 := of_decide_eq_true t42
              obtain ⟨g43, hf⟩ := oC_s hf
              refine q_aald7 (x := (hR h 770 x0)) b hE ea41 t42 g43 dX6_work_146 ?_
              obtain ⟨a44, ea44, hf⟩ := oN_s hf
              obtain ⟨t45, hf⟩ := oC_s hf
              have t45 := of_decide_eq_true t45
              obtain ⟨h47, hc46, hf⟩ := oB_s hf
              refine k_stk [] ea44 ?_
              refine k_callV0 (C := RX3) b zs zk hE (CX3_negate l D aC ad zk hc46) mc_X3_negate (in4 229 rfl rfl) mi_X3_negate ms_X3_negate ini_RX3 ok_X3_negate (x_recv b hE (ci := 3) rfl (by decide) t45) ⟨Nat.le_of_ble_eq_true rfl, Nat.le_of_ble_eq_true rfl⟩ rfl hl.1 rfl (k_room _ (by exact Nat.le_of_ble_eq_true rfl)) ⟨Nat.le_refl _, Nat.le_refl _⟩ dX6_work_147 (fun H locs hE => ?_)
              refine lv_goto (tgt := 180) b.1 b.2.1 dX6_work_150 (by decide) ?_
              exact wfX6_work_180 b hlk hr zs zk H9 hf hE (lv_sub hl [2, 3, 4, 5] rfl)
          · have hf := oI_t c32 hf
            refine lv_aload_n b.1 b.2.1 dX6_work_118 rfl (lv_at hl 2 rfl) ?_
            refine gX6_17 (x := (some x0)) b hE rfl t20 dX6_work_119 ?_
            refine lv_iload_n b.1 b.2.1 dX6_work_122 rfl (lv_at hl 4 rfl) ?_
            obtain ⟨a48, ea48, hf⟩ := oN_s hf
            obtain ⟨t49, hf⟩ := oC_s hf
            have t49 := of_decide_eq_true t49
            obtain ⟨g50, hf⟩ := oC_s hf
            refine q_aald7 (x := (hR h 770 x0)) b hE ea48 t49 g50 dX6_work_123 ?_
            refine lv_lconst (v := 1) b.1 b.2.1 dX6_work_124 rfl ?_
            refine lv_iload b.1 b.2.1 dX6_work_125 (lv_at hl 0 rfl) ?_
            refine lv_i2l b.1 b.2.1 dX6_work_127 rfl ?_
            refine lv_iconst (v := 0) b.1 b.2.1 dX6_work_128 (by decide) ?_
            obtain ⟨a51, ea51, hf⟩ := oN_s hf
            obtain ⟨t52, hf⟩ := oC_s hf
            have t52 := of_decide_eq_true t52
            obtain ⟨h54, hc53, hf⟩ := oB_s hf
            refine k_stk [.int 0, .long (Int32.toInt64 y29), .long 1] ea51 ?_
            refine k_callV0 (C := RX3) b zs zk hE (CX3_multiply l D aC ad zk hc53) mc_X3_multiply (in4 224 rfl rfl) mi_X3_multiply ms_X3_multiply ini_RX3 ok_X3_multiply (x_recv b hE (ci := 3) rfl (by decide) t52) ⟨Nat.le_of_ble_eq_true rfl, Nat.le_of_ble_eq_true rfl⟩ rfl hl.1 rfl (k_room _ (by exact Nat.le_of_ble_eq_true rfl)) ⟨Nat.le_refl _, Nat.le_refl _⟩ dX6_work_129 (fun H locs hE => ?_)
            refine lv_goto (tgt := 180) b.1 b.2.1 dX6_work_132 (by decide) ?_
            exact wfX6_work_180 b hlk hr zs zk H9 hf hE (lv_sub hl [2, 3, 4, 5] rfl)
        · have hf := oI_t c31 hf
          exact wfX6_work_68 b hlk hr zs zk H9 hf hE (lv_sub hl [2, 3, 4, 5, 1, 0] rfl)
def fX6_work_9  : Nat → PH → Nat → Int32 → Int32 → Int32 → Option (PH × Option Nat)
  | 0 => fun _ _ _ _ _ => none
  | n + 1 => fX6_work_9F  (fX6_work_9  n)
set_option maxHeartbeats 4000000 in
theorem wfX6_work_9 {args : Array Value} (b : Bd p s m c cX6_work 9 RX6 D aC) (hlk : meth.locks = false) (hr : meth.sig.returnType = some (.object "StatuteBench$Fraction")) {Z : State → Prop} (zs : Z s) (zk : ZOK Z (Rg ad)) {hz : PH} {rz : Option Nat} : ∀ n : Nat, ∀ (h : PH) (x0 : Nat) (x2 : Int32) (x3 : Int32) (x4 : Int32), ∀ (H : Heap) (locs : List Loc) (ls : Array Slot), fX6_work_9  n h x0 x2 x3 x4 = some (hz, rz) → CE (EX D aC ad h) (Rg ad) s H locs → lv_has ls 9 [(0, .ref (ad x0)), (2, .int x2), (3, .int x3), (4, .int x4)] → W p l e (RM 3 78 0 0) s m args below meth c H locs 0 0 (MQ below (PQ (EX D aC ad hz) (Rg ad) (some (va_rf (Option.map ad rz)))) args s 0 0 (Rg ad)) (F0 m 9 ls []) := by
  intro n
  induction n with
  | zero =>
    intro h x0 x2 x3 x4 H locs ls hf
    have hf : (none : Option (PH × Option Nat)) = some _ := hf
    cases hf
  | succ n ih =>
    intro h x0 x2 x3 x4 H locs ls hf hE hl
    exact wfX6_work_9F b hlk hr zs zk  ih hf hE hl
def fX6_work_0  (h : PH) (x0 : Nat) (x1 : Int32) (x2 : Int32) : Option (PH × Option Nat) :=
  oL (if 0 < x1 then x1 else 0) (fun y55 => fX6_work_9  FU h x0 x2 0 y55)
set_option maxHeartbeats 4000000 in
theorem wfX6_work_0 {args : Array Value} (b : Bd p s m c cX6_work 9 RX6 D aC) (hlk : meth.locks = false) (hr : meth.sig.returnType = some (.object "StatuteBench$Fraction")) {Z : State → Prop} (zs : Z s) (zk : ZOK Z (Rg ad)) {hz : PH} {rz : Option Nat} {h : PH} {x0 : Nat} {x1 : Int32} {x2 : Int32}  {H : Heap} {locs : List Loc} {ls : Array Slot} (hf : fX6_work_0 h x0 x1 x2 = some (hz, rz)) (hE : CE (EX D aC ad h) (Rg ad) s H locs) (hl : lv_has ls 9 [(0, .ref (ad x0)), (1, .int x1), (2, .int x2)]) : W p l e (RM 3 78 0 0) s m args below meth c H locs 0 0 (MQ below (PQ (EX D aC ad hz) (Rg ad) (some (va_rf (Option.map ad rz)))) args s 0 0 (Rg ad)) (F0 m 0 ls []) := by
  unfold fX6_work_0 at hf
  refine lv_iconst (v := 0) b.1 b.2.1 dX6_work_0 (by decide) ?_
  refine lv_istore_n (lv' := [(3, .int 0), (0, .ref (ad x0)), (1, .int x1), (2, .int x2)]) b.1 b.2.1 dX6_work_1 rfl hl (by decide) rfl (fun ls hl => ?_)
  refine lv_iconst (v := 0) b.1 b.2.1 dX6_work_2 (by decide) ?_
  refine lv_iload_n b.1 b.2.1 dX6_work_3 rfl (lv_at hl 2 rfl) ?_
  refine k_max b (in4 212 rfl rfl) mthmax_s mth_i mthmax_c hl.1 ⟨Nat.le_of_ble_eq_true rfl, Nat.le_of_ble_eq_true rfl⟩ (Nat.le_of_ble_eq_true rfl) ⟨Nat.le_refl _, Nat.le_refl _⟩ dX6_work_4 ?_
  obtain ⟨y55, ey55, hf⟩ := oL_s hf
  refine k_nmI ey55 ?_
  refine lv_istore (lv' := [(4, .int y55), (3, .int 0), (0, .ref (ad x0)), (1, .int x1), (2, .int x2)]) b.1 b.2.1 dX6_work_7 hl (by decide) rfl (fun ls hl => ?_)
  have hl := lv_sub (l' := [(4, .int y55), (3, .int 0), (0, .ref (ad x0)), (2, .int x2)]) hl [0, 1, 2, 4] rfl
  exact wfX6_work_9 b hlk hr zs zk  FU h x0 x2 0 y55 _ _ _ hf hE (lv_sub hl [2, 3, 1, 0] rfl)
def fX6_work (h : PH) (x0 : Nat) (x1 : Int32) (x2 : Int32) : Option (PH × Option Nat) := fX6_work_0 h x0 x1 x2
set_option maxHeartbeats 4000000 in
theorem CX6_work (l : Launch) (D : va_G) (aC : Nat → ClassId) (ad : Nat → Nat) {Z : State → Prop} (zk : ZOK Z (Rg ad)) {h : PH} {x0 : Nat} {x1 : Int32} {x2 : Int32} {hz : PH} {rz : Option Nat} (hf : fX6_work h x0 x1 x2 = some (hz, rz)) : CM l D aC Z yX6_work cX6_work 9 (some (.object "StatuteBench$Fraction")) 3 78 0 0 (EX D aC ad h) [.ref (ad x0), .int x1, .int x2] (EX D aC ad hz) (some (va_rf (Option.map ad rz))) (Rg ad) := by
  refine CM.of rfl ?_
  intro p e s m below meth c b hr hlk hin2 zs hE
  refine k_ent (Nat.le_of_ble_eq_true rfl) (fun ls hl => ?_)
  exact wfX6_work_0 b hlk hr zs zk hf hE (lv_sub hl [0, 1, 2] rfl)
theorem dX6_holds_0 : decode cX6_holds 0 = .ok (.aload_n 1, 1) := by decide +kernel
theorem dX6_holds_1 : decode cX6_holds 1 = .ok (.getfield 74, 3) := by decide +kernel
theorem dX6_holds_4 : decode cX6_holds 4 = .ok (.lookupswitch 78 #[(314, 28), (315, 53)], 28) := by decide +kernel
theorem dX6_holds_32 : decode cX6_holds 32 = .ok (.aload_n 0, 1) := by decide +kernel
theorem dX6_holds_33 : decode cX6_holds 33 = .ok (.aload_n 1, 1) := by decide +kernel
theorem dX6_holds_34 : decode cX6_holds 34 = .ok (.getfield 58, 3) := by decide +kernel
theorem dX6_holds_37 : decode cX6_holds 37 = .ok (.invokevirtual 61, 3) := by decide +kernel
theorem dX6_holds_40 : decode cX6_holds 40 = .ok (.aload_n 0, 1) := by decide +kernel
theorem dX6_holds_41 : decode cX6_holds 41 = .ok (.aload_n 1, 1) := by decide +kernel
theorem dX6_holds_42 : decode cX6_holds 42 = .ok (.getfield 65, 3) := by decide +kernel
theorem dX6_holds_45 : decode cX6_holds 45 = .ok (.invokevirtual 61, 3) := by decide +kernel
theorem dX6_holds_48 : decode cX6_holds 48 = .ok (.if_icmp .ne 7, 3) := by decide +kernel
theorem dX6_holds_51 : decode cX6_holds 51 = .ok (.iconst 1, 1) := by decide +kernel
theorem dX6_holds_52 : decode cX6_holds 52 = .ok (.goto 4, 3) := by decide +kernel
theorem dX6_holds_55 : decode cX6_holds 55 = .ok (.iconst 0, 1) := by decide +kernel
theorem dX6_holds_56 : decode cX6_holds 56 = .ok (.ireturn, 1) := by decide +kernel
theorem dX6_holds_57 : decode cX6_holds 57 = .ok (.aload_n 0, 1) := by decide +kernel
theorem dX6_holds_58 : decode cX6_holds 58 = .ok (.aload_n 1, 1) := by decide +kernel
theorem dX6_holds_59 : decode cX6_holds 59 = .ok (.getfield 58, 3) := by decide +kernel
theorem dX6_holds_62 : decode cX6_holds 62 = .ok (.invokevirtual 61, 3) := by decide +kernel
theorem dX6_holds_65 : decode cX6_holds 65 = .ok (.aload_n 0, 1) := by decide +kernel
theorem dX6_holds_66 : decode cX6_holds 66 = .ok (.aload_n 1, 1) := by decide +kernel
theorem dX6_holds_67 : decode cX6_holds 67 = .ok (.getfield 65, 3) := by decide +kernel
theorem dX6_holds_70 : decode cX6_holds 70 = .ok (.invokevirtual 61, 3) := by decide +kernel
theorem dX6_holds_73 : decode cX6_holds 73 = .ok (.if_icmp .eq 7, 3) := by decide +kernel
theorem dX6_holds_76 : decode cX6_holds 76 = .ok (.iconst 1, 1) := by decide +kernel
theorem dX6_holds_77 : decode cX6_holds 77 = .ok (.goto 4, 3) := by decide +kernel
theorem dX6_holds_80 : decode cX6_holds 80 = .ok (.iconst 0, 1) := by decide +kernel
theorem dX6_holds_81 : decode cX6_holds 81 = .ok (.ireturn, 1) := by decide +kernel
theorem dX6_holds_82 : decode cX6_holds 82 = .ok (.aload_n 0, 1) := by decide +kernel
theorem dX6_holds_83 : decode cX6_holds 83 = .ok (.getfield 22, 3) := by decide +kernel
theorem dX6_holds_86 : decode cX6_holds 86 = .ok (.aload_n 0, 1) := by decide +kernel
theorem dX6_holds_87 : decode cX6_holds 87 = .ok (.aload_n 1, 1) := by decide +kernel
theorem dX6_holds_88 : decode cX6_holds 88 = .ok (.getfield 77, 3) := by decide +kernel
theorem dX6_holds_91 : decode cX6_holds 91 = .ok (.aload_n 1, 1) := by decide +kernel
theorem dX6_holds_92 : decode cX6_holds 92 = .ok (.getfield 80, 3) := by decide +kernel
theorem dX6_holds_95 : decode cX6_holds 95 = .ok (.invokevirtual 83, 3) := by decide +kernel
theorem dX6_holds_98 : decode cX6_holds 98 = .ok (.invokevirtual 87, 3) := by decide +kernel
theorem dX6_holds_101 : decode cX6_holds 101 = .ok (.aload_n 0, 1) := by decide +kernel
theorem dX6_holds_102 : decode cX6_holds 102 = .ok (.aload_n 1, 1) := by decide +kernel
theorem dX6_holds_103 : decode cX6_holds 103 = .ok (.getfield 80, 3) := by decide +kernel
theorem dX6_holds_106 : decode cX6_holds 106 = .ok (.aload_n 1, 1) := by decide +kernel
theorem dX6_holds_107 : decode cX6_holds 107 = .ok (.getfield 91, 3) := by decide +kernel
theorem dX6_holds_110 : decode cX6_holds 110 = .ok (.invokevirtual 83, 3) := by decide +kernel
theorem dX6_holds_113 : decode cX6_holds 113 = .ok (.astore_n 2, 1) := by decide +kernel
theorem dX6_holds_114 : decode cX6_holds 114 = .ok (.aload_n 0, 1) := by decide +kernel
theorem dX6_holds_115 : decode cX6_holds 115 = .ok (.getfield 22, 3) := by decide +kernel
theorem dX6_holds_118 : decode cX6_holds 118 = .ok (.getfield 94, 3) := by decide +kernel
theorem dX6_holds_121 : decode cX6_holds 121 = .ok (.ifCond .ne 10, 3) := by decide +kernel
theorem dX6_holds_124 : decode cX6_holds 124 = .ok (.aload_n 2, 1) := by decide +kernel
theorem dX6_holds_125 : decode cX6_holds 125 = .ok (.getfield 94, 3) := by decide +kernel
theorem dX6_holds_128 : decode cX6_holds 128 = .ok (.ifCond .eq 5, 3) := by decide +kernel
theorem dX6_holds_131 : decode cX6_holds 131 = .ok (.iconst 0, 1) := by decide +kernel
theorem dX6_holds_132 : decode cX6_holds 132 = .ok (.ireturn, 1) := by decide +kernel
theorem dX6_holds_133 : decode cX6_holds 133 = .ok (.aload_n 0, 1) := by decide +kernel
theorem dX6_holds_134 : decode cX6_holds 134 = .ok (.getfield 22, 3) := by decide +kernel
theorem dX6_holds_137 : decode cX6_holds 137 = .ok (.aload_n 2, 1) := by decide +kernel
theorem dX6_holds_138 : decode cX6_holds 138 = .ok (.invokevirtual 97, 3) := by decide +kernel
theorem dX6_holds_141 : decode cX6_holds 141 = .ok (.istore_n 3, 1) := by decide +kernel
theorem dX6_holds_142 : decode cX6_holds 142 = .ok (.aload_n 1, 1) := by decide +kernel
theorem dX6_holds_143 : decode cX6_holds 143 = .ok (.getfield 74, 3) := by decide +kernel
theorem dX6_holds_146 : decode cX6_holds 146 = .ok (.lookupswitch 64 #[(60, 54), (257, 34), (258, 44)], 34) := by decide +kernel
theorem dX6_holds_180 : decode cX6_holds 180 = .ok (.iload_n 3, 1) := by decide +kernel
theorem dX6_holds_181 : decode cX6_holds 181 = .ok (.ifCond .ne 7, 3) := by decide +kernel
theorem dX6_holds_184 : decode cX6_holds 184 = .ok (.iconst 1, 1) := by decide +kernel
theorem dX6_holds_185 : decode cX6_holds 185 = .ok (.goto 4, 3) := by decide +kernel
theorem dX6_holds_188 : decode cX6_holds 188 = .ok (.iconst 0, 1) := by decide +kernel
theorem dX6_holds_189 : decode cX6_holds 189 = .ok (.ireturn, 1) := by decide +kernel
theorem dX6_holds_190 : decode cX6_holds 190 = .ok (.iload_n 3, 1) := by decide +kernel
theorem dX6_holds_191 : decode cX6_holds 191 = .ok (.ifCond .eq 7, 3) := by decide +kernel
theorem dX6_holds_194 : decode cX6_holds 194 = .ok (.iconst 1, 1) := by decide +kernel
theorem dX6_holds_195 : decode cX6_holds 195 = .ok (.goto 4, 3) := by decide +kernel
theorem dX6_holds_198 : decode cX6_holds 198 = .ok (.iconst 0, 1) := by decide +kernel
theorem dX6_holds_199 : decode cX6_holds 199 = .ok (.ireturn, 1) := by decide +kernel
theorem dX6_holds_200 : decode cX6_holds 200 = .ok (.iload_n 3, 1) := by decide +kernel
theorem dX6_holds_201 : decode cX6_holds 201 = .ok (.ifCond .ge 7, 3) := by decide +kernel
theorem dX6_holds_204 : decode cX6_holds 204 = .ok (.iconst 1, 1) := by decide +kernel
theorem dX6_holds_205 : decode cX6_holds 205 = .ok (.goto 4, 3) := by decide +kernel
theorem dX6_holds_208 : decode cX6_holds 208 = .ok (.iconst 0, 1) := by decide +kernel
theorem dX6_holds_209 : decode cX6_holds 209 = .ok (.ireturn, 1) := by decide +kernel
theorem dX6_holds_210 : decode cX6_holds 210 = .ok (.iload_n 3, 1) := by decide +kernel
theorem dX6_holds_211 : decode cX6_holds 211 = .ok (.ifCond .gt 7, 3) := by decide +kernel
theorem dX6_holds_214 : decode cX6_holds 214 = .ok (.iconst 1, 1) := by decide +kernel
theorem dX6_holds_215 : decode cX6_holds 215 = .ok (.goto 4, 3) := by decide +kernel
theorem dX6_holds_218 : decode cX6_holds 218 = .ok (.iconst 0, 1) := by decide +kernel
theorem dX6_holds_219 : decode cX6_holds 219 = .ok (.ireturn, 1) := by decide +kernel
def fX6_holds_0  (h : PH) (x0 : Nat) (x1 : Option Nat) : Option (PH × Int32) :=
  oN x1 (fun a1 => oC (decide (hT h a1 = 3)) (oL (hI h 256 a1) (fun y3 => if y3 = 314 then (oC (decide (hT h x0 = 7)) (oB (fX6_personOf h x0 (hI h 259 a1)) (fun r7 => oB (fX6_personOf h x0 (hI h 260 a1)) (fun r9 => if r7 = r9 then (some (h, 1)) else (some (h, 0)))))) else (if y3 = 315 then (oC (decide (hT h x0 = 7)) (oB (fX6_personOf h x0 (hI h 259 a1)) (fun r14 => oB (fX6_personOf h x0 (hI h 260 a1)) (fun r16 => if r14 = r16 then (some (h, 0)) else (some (h, 1)))))) else (oC (decide (hT h x0 = 7)) (oB2 (fX6_work h x0 (hI h 261 a1) (hI h 262 a1)) (fun h21 r20 => oN (hR h 771 x0) (fun a22 => oC (decide (hT h21 a22 = 4)) (oB (fX3_copy h21 a22 r20) (fun h25 => oC (decide (hT h25 a1 = 3)) (oC (decide (hT h25 x0 = 7)) (oB2 (fX6_work h25 x0 (hI h25 262 a1) (hI h25 263 a1)) (fun h30 r29 => oC (decide (hT h30 x0 = 7)) (oN (hR h30 771 x0) (fun a32 => oC (decide (hT h30 a32 = 4)) (if (hI h30 386 a32) = 0 then (oN r29 (fun a35 => oC (decide (hT h30 a35 = 4)) (if (hI h30 386 a35) = 0 then (oB (fX3_against h30 a32 r29) (fun r39 => oC (decide (hT h30 a1 = 3)) (oL (hI h30 256 a1) (fun y41 => if y41 = 60 then (if 0 ≤ r39 then (some (h30, 0)) else (some (h30, 1))) else (if y41 = 257 then (if r39 = 0 then (some (h30, 1)) else (some (h30, 0))) else (if y41 = 258 then (if r39 = 0 then (some (h30, 0)) else (some (h30, 1))) else (if 0 < r39 then (some (h30, 0)) else (some (h30, 1))))))))) else (some (h30, 0))))) else (some (h30, 0))))))))))))))))))
set_option maxHeartbeats 4000000 in
theorem wfX6_holds_0 {args : Array Value} (b : Bd p s m c cX6_holds 4 RX6 D aC) (hlk : meth.locks = false) (hr : meth.sig.returnType = some .boolean) {Z : State → Prop} (zs : Z s) (zk : ZOK Z (Rg ad)) {hz : PH} {rz : Int32} {h : PH} {x0 : Nat} {x1 : Option Nat}  {H : Heap} {locs : List Loc} {ls : Array Slot} (hf : fX6_holds_0 h x0 x1 = some (hz, rz)) (hE : CE (EX D aC ad h) (Rg ad) s H locs) (hl : lv_has ls 4 [(0, .ref (ad x0)), (1, va_rf (Option.map ad x1))]) : W p l e (RM 4 106 0 0) s m args below meth c H locs 0 0 (MQ below (PQ (EX D aC ad hz) (Rg ad) (some (.int rz))) args s 0 0 (Rg ad)) (F0 m 0 ls []) := by
  unfold fX6_holds_0 at hf
  refine k_aload_n (x := Option.map ad x1) b dX6_holds_0 rfl (lv_at hl 1 rfl) ?_
  obtain ⟨a1, ea1, hf⟩ := oN_s hf
  obtain ⟨t2, hf⟩ := oC_s hf
  have t2 := of_decide_eq_true t2
  refine gX6_74 (x := x1) b hE ea1 t2 dX6_holds_1 ?_
  obtain ⟨y3, ey3, hf⟩ := oL_s hf
  refine k_nmI ey3 ?_
  rcases Decidable.em (y3 = 314) with c4 | c4
  · have hf := oI_t c4 hf
    refine lv_lookup (tgt := 32) (off := 28) b.1 b.2.1 dX6_holds_4 (by decide) (by rw [c4] <;> rfl) (by decide) ?_
    refine lv_aload_n b.1 b.2.1 dX6_holds_32 rfl (lv_at hl 0 rfl) ?_
    refine k_aload_n (x := Option.map ad x1) b dX6_holds_33 rfl (lv_at hl 1 rfl) ?_
    refine gX6_58 (x := x1) b hE ea1 t2 dX6_holds_34 ?_
    obtain ⟨t5, hf⟩ := oC_s hf
    have t5 := of_decide_eq_true t5
    obtain ⟨r7, hc6, hf⟩ := oB_s hf
    refine k_callV0 (C := RX6) b zs zk hE (CX6_personOf l D aC ad zk hc6) mc_X6_personOf (in4 204 rfl rfl) mi_X6_personOf ms_X6_personOf ini_RX6 ok_X6_personOf (x_recv b hE (ci := 6) rfl (by decide) t5) ⟨Nat.le_of_ble_eq_true rfl, Nat.le_of_ble_eq_true rfl⟩ rfl hl.1 rfl (k_room _ (by exact Nat.le_of_ble_eq_true rfl)) ⟨Nat.le_refl _, Nat.le_refl _⟩ dX6_holds_37 (fun H locs hE => ?_)
    refine lv_aload_n b.1 b.2.1 dX6_holds_40 rfl (lv_at hl 0 rfl) ?_
    refine k_aload_n (x := Option.map ad x1) b dX6_holds_41 rfl (lv_at hl 1 rfl) ?_
    refine gX6_65 (x := x1) b hE ea1 t2 dX6_holds_42 ?_
    obtain ⟨r9, hc8, hf⟩ := oB_s hf
    refine k_callV0 (C := RX6) b zs zk hE (CX6_personOf l D aC ad zk hc8) mc_X6_personOf (in4 204 rfl rfl) mi_X6_personOf ms_X6_personOf ini_RX6 ok_X6_personOf (x_recv b hE (ci := 6) rfl (by decide) t5) ⟨Nat.le_of_ble_eq_true rfl, Nat.le_of_ble_eq_true rfl⟩ rfl hl.1 rfl (k_room _ (by exact Nat.le_of_ble_eq_true rfl)) ⟨Nat.le_refl _, Nat.le_refl _⟩ dX6_holds_45 (fun H locs hE => ?_)
    refine lv_icmp_ne (tgt := 55) b.1 b.2.1 dX6_holds_48 (by decide) (fun c10 => ?_) (fun c10 => ?_)
    · have hf := oI_f c10 hf
      refine lv_iconst (v := 0) b.1 b.2.1 dX6_holds_55 (by decide) ?_
      cases hf
      exact k_zret b hlk hr (by decide) hE (Nat.le_refl _) (Nat.le_refl _) dX6_holds_56
    · have hf := oI_t c10 hf
      refine lv_iconst (v := 1) b.1 b.2.1 dX6_holds_51 (by decide) ?_
      refine lv_goto (tgt := 56) b.1 b.2.1 dX6_holds_52 (by decide) ?_
      cases hf
      exact k_zret b hlk hr (by decide) hE (Nat.le_refl _) (Nat.le_refl _) dX6_holds_56
  have hf := oI_f c4 hf
  rcases Decidable.em (y3 = 315) with c11 | c11
  · have hf := oI_t c11 hf
    refine lv_lookup (tgt := 57) (off := 53) b.1 b.2.1 dX6_holds_4 (by decide) (by rw [c11] <;> rfl) (by decide) ?_
    refine lv_aload_n b.1 b.2.1 dX6_holds_57 rfl (lv_at hl 0 rfl) ?_
    refine k_aload_n (x := Option.map ad x1) b dX6_holds_58 rfl (lv_at hl 1 rfl) ?_
    refine gX6_58 (x := x1) b hE ea1 t2 dX6_holds_59 ?_
    obtain ⟨t12, hf⟩ := oC_s hf
    have t12 := of_decide_eq_true t12
    obtain ⟨r14, hc13, hf⟩ := oB_s hf
    refine k_callV0 (C := RX6) b zs zk hE (CX6_personOf l D aC ad zk hc13) mc_X6_personOf (in4 204 rfl rfl) mi_X6_personOf ms_X6_personOf ini_RX6 ok_X6_personOf (x_recv b hE (ci := 6) rfl (by decide) t12) ⟨Nat.le_of_ble_eq_true rfl, Nat.le_of_ble_eq_true rfl⟩ rfl hl.1 rfl (k_room _ (by exact Nat.le_of_ble_eq_true rfl)) ⟨Nat.le_refl _, Nat.le_refl _⟩ dX6_holds_62 (fun H locs hE => ?_)
    refine lv_aload_n b.1 b.2.1 dX6_holds_65 rfl (lv_at hl 0 rfl) ?_
    refine k_aload_n (x := Option.map ad x1) b dX6_holds_66 rfl (lv_at hl 1 rfl) ?_
    refine gX6_65 (x := x1) b hE ea1 t2 dX6_holds_67 ?_
    obtain ⟨r16, hc15, hf⟩ := oB_s hf
    refine k_callV0 (C := RX6) b zs zk hE (CX6_personOf l D aC ad zk hc15) mc_X6_personOf (in4 204 rfl rfl) mi_X6_personOf ms_X6_personOf ini_RX6 ok_X6_personOf (x_recv b hE (ci := 6) rfl (by decide) t12) ⟨Nat.le_of_ble_eq_true rfl, Nat.le_of_ble_eq_true rfl⟩ rfl hl.1 rfl (k_room _ (by exact Nat.le_of_ble_eq_true rfl)) ⟨Nat.le_refl _, Nat.le_refl _⟩ dX6_holds_70 (fun H locs hE => ?_)
    refine lv_icmp_eq (tgt := 80) b.1 b.2.1 dX6_holds_73 (by decide) (fun c17 => ?_) (fun c17 => ?_)
    · have hf := oI_t c17 hf
      refine lv_iconst (v := 0) b.1 b.2.1 dX6_holds_80 (by decide) ?_
      cases hf
      exact k_zret b hlk hr (by decide) hE (Nat.le_refl _) (Nat.le_refl _) dX6_holds_81
    · have hf := oI_f c17 hf
      refine lv_iconst (v := 1) b.1 b.2.1 dX6_holds_76 (by decide) ?_
      refine lv_goto (tgt := 81) b.1 b.2.1 dX6_holds_77 (by decide) ?_
      cases hf
      exact k_zret b hlk hr (by decide) hE (Nat.le_refl _) (Nat.le_refl _) dX6_holds_81
  have hf := oI_f c11 hf
  refine lv_lookup (tgt := 82) (off := 78) b.1 b.2.1 dX6_holds_4 (by decide) (by rw [lv_osw c4 (by decide), lv_osw c11 (by decide)] <;> rfl) (by decide) ?_
  refine lv_aload_n b.1 b.2.1 dX6_holds_82 rfl (lv_at hl 0 rfl) ?_
  obtain ⟨t18, hf⟩ := oC_s hf
  have t18 := of_decide_eq_true t18
  refine gX6_22 (x := (some x0)) b hE rfl t18 dX6_holds_83 ?_
  refine lv_aload_n b.1 b.2.1 dX6_holds_86 rfl (lv_at hl 0 rfl) ?_
  refine k_aload_n (x := Option.map ad x1) b dX6_holds_87 rfl (lv_at hl 1 rfl) ?_
  refine gX6_77 (x := x1) b hE ea1 t2 dX6_holds_88 ?_
  refine k_aload_n (x := Option.map ad x1) b dX6_holds_91 rfl (lv_at hl 1 rfl) ?_
  refine gX6_80 (x := x1) b hE ea1 t2 dX6_holds_92 ?_
  obtain ⟨h21, r20, hc19, hf⟩ := oB2_s hf
  refine k_callV0 (C := RX6) b zs zk hE (CX6_work l D aC ad zk hc19) mc_X6_work (in4 208 rfl rfl) mi_X6_work ms_X6_work ini_RX6 ok_X6_work (x_recv b hE (ci := 6) rfl (by decide) t18) ⟨Nat.le_of_ble_eq_true rfl, Nat.le_of_ble_eq_true rfl⟩ rfl hl.1 rfl (k_room _ (by exact Nat.le_of_ble_eq_true rfl)) ⟨Nat.le_refl _, Nat.le_refl _⟩ dX6_holds_95 (fun H locs hE => ?_)
  obtain ⟨a22, ea22, hf⟩ := oN_s hf
  obtain ⟨t23, hf⟩ := oC_s hf
  have t23 := of_decide_eq_true t23
  obtain ⟨h25, hc24, hf⟩ := oB_s hf
  refine k_stk [va_rf (Option.map ad r20)] ea22 ?_
  refine k_callV0 (C := RX3) b zs zk hE (CX3_copy l D aC ad zk hc24) mc_X3_copy (in5 0 rfl rfl) mi_X3_copy ms_X3_copy ini_RX3 ok_X3_copy (x_recv b hE (ci := 3) rfl (by decide) t23) ⟨Nat.le_of_ble_eq_true rfl, Nat.le_of_ble_eq_true rfl⟩ rfl hl.1 rfl (k_room _ (by exact Nat.le_of_ble_eq_true rfl)) ⟨Nat.le_refl _, Nat.le_refl _⟩ dX6_holds_98 (fun H locs hE => ?_)
  refine lv_aload_n b.1 b.2.1 dX6_holds_101 rfl (lv_at hl 0 rfl) ?_
  refine k_aload_n (x := Option.map ad x1) b dX6_holds_102 rfl (lv_at hl 1 rfl) ?_
  obtain ⟨t26, hf⟩ := oC_s hf
  have t26 := of_decide_eq_true t26
  refine gX6_80 (x := x1) b hE ea1 t26 dX6_holds_103 ?_
  refine k_aload_n (x := Option.map ad x1) b dX6_holds_106 rfl (lv_at hl 1 rfl) ?_
  refine gX6_91 (x := x1) b hE ea1 t26 dX6_holds_107 ?_
  obtain ⟨t27, hf⟩ := oC_s hf
  have t27 := of_decide_eq_true t27
  obtain ⟨h30, r29, hc28, hf⟩ := oB2_s hf
  refine k_callV0 (C := RX6) b zs zk hE (CX6_work l D aC ad zk hc28) mc_X6_work (in4 208 rfl rfl) mi_X6_work ms_X6_work ini_RX6 ok_X6_work (x_recv b hE (ci := 6) rfl (by decide) t27) ⟨Nat.le_of_ble_eq_true rfl, Nat.le_of_ble_eq_true rfl⟩ rfl hl.1 rfl (k_room _ (by exact Nat.le_of_ble_eq_true rfl)) ⟨Nat.le_refl _, Nat.le_refl _⟩ dX6_holds_110 (fun H locs hE => ?_)
  refine k_astore_n (x := Option.map ad r29) (lv' := [(2, va_rf (Option.map ad r29)), (0, .ref (ad x0)), (1, va_rf (Option.map ad x1))]) b dX6_holds_113 rfl hl (by decide) (by cases x1 <;> rfl) (fun ls hl => ?_)
  refine lv_aload_n b.1 b.2.1 dX6_holds_114 rfl (lv_at hl 1 rfl) ?_
  obtain ⟨t31, hf⟩ := oC_s hf
  have t31 := of_decide_eq_true t31
  refine gX6_22 (x := (some x0)) b hE rfl t31 dX6_holds_115 ?_
  obtain ⟨a32, ea32, hf⟩ := oN_s hf
  obtain ⟨t33, hf⟩ := oC_s hf
  have t33 := of_decide_eq_true t33
  refine gX6_94 (x := (hR h30 771 x0)) b hE ea32 t33 dX6_holds_118 ?_
  refine lv_if_ne (tgt := 131) b.1 b.2.1 dX6_holds_121 (by decide) (fun c34 => ?_) (fun c34 => ?_)
  · have hf := oI_f c34 hf
    refine lv_iconst (v := 0) b.1 b.2.1 dX6_holds_131 (by decide) ?_
    cases hf
    exact k_zret b hlk hr (by decide) hE (Nat.le_refl _) (Nat.le_refl _) dX6_holds_132
  · have hf := oI_t c34 hf
    refine k_aload_n (x := Option.map ad r29) b dX6_holds_124 rfl (lv_at hl 0 rfl) ?_
    obtain ⟨a35, ea35, hf⟩ := oN_s hf
    obtain ⟨t36, hf⟩ := oC_s hf
    have t36 := of_decide_eq_true t36
    refine gX6_94 (x := r29) b hE ea35 t36 dX6_holds_125 ?_
    refine lv_if_eq (tgt := 133) b.1 b.2.1 dX6_holds_128 (by decide) (fun c37 => ?_) (fun c37 => ?_)
    · have hf := oI_t c37 hf
      refine lv_aload_n b.1 b.2.1 dX6_holds_133 rfl (lv_at hl 1 rfl) ?_
      refine gX6_22 (x := (some x0)) b hE rfl t31 dX6_holds_134 ?_
      refine k_aload_n (x := Option.map ad r29) b dX6_holds_137 rfl (lv_at hl 0 rfl) ?_
      obtain ⟨r39, hc38, hf⟩ := oB_s hf
      refine k_stk [va_rf (Option.map ad r29)] ea32 ?_
      refine k_callV0 (C := RX3) b zs zk hE (CX3_against l D aC ad zk hc38) mc_X3_against (in5 4 rfl rfl) mi_X3_against ms_X3_against ini_RX3 ok_X3_against (x_recv b hE (ci := 3) rfl (by decide) t33) ⟨Nat.le_of_ble_eq_true rfl, Nat.le_of_ble_eq_true rfl⟩ rfl hl.1 rfl (k_room _ (by exact Nat.le_of_ble_eq_true rfl)) ⟨Nat.le_refl _, Nat.le_refl _⟩ dX6_holds_138 (fun H locs hE => ?_)
      refine lv_istore_n (lv' := [(3, .int r39), (2, va_rf (Option.map ad r29)), (0, .ref (ad x0)), (1, va_rf (Option.map ad x1))]) b.1 b.2.1 dX6_holds_141 rfl hl (by decide) (by cases r29 <;> rfl) (fun ls hl => ?_)
      have hl := lv_sub (l' := [(3, .int r39), (1, va_rf (Option.map ad x1))]) hl [0, 3] rfl
      refine k_aload_n (x := Option.map ad x1) b dX6_holds_142 rfl (lv_at hl 1 rfl) ?_
      obtain ⟨t40, hf⟩ := oC_s hf
      have t40 := of_decide_eq_true t40
      refine gX6_74 (x := x1) b hE ea1 t40 dX6_holds_143 ?_
      obtain ⟨y41, ey41, hf⟩ := oL_s hf
      refine k_nmI ey41 ?_
      rcases Decidable.em (y41 = 60) with c42 | c42
      · have hf := oI_t c42 hf
        refine lv_lookup (tgt := 200) (off := 54) b.1 b.2.1 dX6_holds_146 (by decide) (by rw [c42] <;> rfl) (by decide) ?_
        refine lv_iload_n b.1 b.2.1 dX6_holds_200 rfl (lv_at hl 0 rfl) ?_
        refine lv_if_ge (tgt := 208) b.1 b.2.1 dX6_holds_201 (by decide) (fun c43 => ?_) (fun c43 => ?_)
        · have hf := oI_t c43 hf
          refine lv_iconst (v := 0) b.1 b.2.1 dX6_holds_208 (by decide) ?_
          cases hf
          exact k_zret b hlk hr (by decide) hE (Nat.le_refl _) (Nat.le_refl _) dX6_holds_209
        · have hf := oI_f c43 hf
          refine lv_iconst (v := 1) b.1 b.2.1 dX6_holds_204 (by decide) ?_
          refine lv_goto (tgt := 209) b.1 b.2.1 dX6_holds_205 (by decide) ?_
          cases hf
          exact k_zret b hlk hr (by decide) hE (Nat.le_refl _) (Nat.le_refl _) dX6_holds_209
      have hf := oI_f c42 hf
      rcases Decidable.em (y41 = 257) with c44 | c44
      · have hf := oI_t c44 hf
        refine lv_lookup (tgt := 180) (off := 34) b.1 b.2.1 dX6_holds_146 (by decide) (by rw [c44] <;> rfl) (by decide) ?_
        refine lv_iload_n b.1 b.2.1 dX6_holds_180 rfl (lv_at hl 0 rfl) ?_
        refine lv_if_ne (tgt := 188) b.1 b.2.1 dX6_holds_181 (by decide) (fun c45 => ?_) (fun c45 => ?_)
        · have hf := oI_f c45 hf
          refine lv_iconst (v := 0) b.1 b.2.1 dX6_holds_188 (by decide) ?_
          cases hf
          exact k_zret b hlk hr (by decide) hE (Nat.le_refl _) (Nat.le_refl _) dX6_holds_189
        · have hf := oI_t c45 hf
          refine lv_iconst (v := 1) b.1 b.2.1 dX6_holds_184 (by decide) ?_
          refine lv_goto (tgt := 189) b.1 b.2.1 dX6_holds_185 (by decide) ?_
          cases hf
          exact k_zret b hlk hr (by decide) hE (Nat.le_refl _) (Nat.le_refl _) dX6_holds_189
      have hf := oI_f c44 hf
      rcases Decidable.em (y41 = 258) with c46 | c46
      · have hf := oI_t c46 hf
        refine lv_lookup (tgt := 190) (off := 44) b.1 b.2.1 dX6_holds_146 (by decide) (by rw [c46] <;> rfl) (by decide) ?_
        refine lv_iload_n b.1 b.2.1 dX6_holds_190 rfl (lv_at hl 0 rfl) ?_
        refine lv_if_eq (tgt := 198) b.1 b.2.1 dX6_holds_191 (by decide) (fun c47 => ?_) (fun c47 => ?_)
        · have hf := oI_t c47 hf
          refine lv_iconst (v := 0) b.1 b.2.1 dX6_holds_198 (by decide) ?_
          cases hf
          exact k_zret b hlk hr (by decide) hE (Nat.le_refl _) (Nat.le_refl _) dX6_holds_199
        · have hf := oI_f c47 hf
          refine lv_iconst (v := 1) b.1 b.2.1 dX6_holds_194 (by decide) ?_
          refine lv_goto (tgt := 199) b.1 b.2.1 dX6_holds_195 (by decide) ?_
          cases hf
          exact k_zret b hlk hr (by decide) hE (Nat.le_refl _) (Nat.le_refl _) dX6_holds_199
      have hf := oI_f c46 hf
      refine lv_lookup (tgt := 210) (off := 64) b.1 b.2.1 dX6_holds_146 (by decide) (by rw [lv_osw c42 (by decide), lv_osw c44 (by decide), lv_osw c46 (by decide)] <;> rfl) (by decide) ?_
      refine lv_iload_n b.1 b.2.1 dX6_holds_210 rfl (lv_at hl 0 rfl) ?_
      refine lv_if_gt (tgt := 218) b.1 b.2.1 dX6_holds_211 (by decide) (fun c48 => ?_) (fun c48 => ?_)
      · have hf := oI_t c48 hf
        refine lv_iconst (v := 0) b.1 b.2.1 dX6_holds_218 (by decide) ?_
        cases hf
        exact k_zret b hlk hr (by decide) hE (Nat.le_refl _) (Nat.le_refl _) dX6_holds_219
      · have hf := oI_f c48 hf
        refine lv_iconst (v := 1) b.1 b.2.1 dX6_holds_214 (by decide) ?_
        refine lv_goto (tgt := 219) b.1 b.2.1 dX6_holds_215 (by decide) ?_
        cases hf
        exact k_zret b hlk hr (by decide) hE (Nat.le_refl _) (Nat.le_refl _) dX6_holds_219
    · have hf := oI_f c37 hf
      refine lv_iconst (v := 0) b.1 b.2.1 dX6_holds_131 (by decide) ?_
      cases hf
      exact k_zret b hlk hr (by decide) hE (Nat.le_refl _) (Nat.le_refl _) dX6_holds_132
def fX6_holds (h : PH) (x0 : Nat) (x1 : Option Nat) : Option (PH × Int32) := fX6_holds_0 h x0 x1
set_option maxHeartbeats 4000000 in
theorem CX6_holds (l : Launch) (D : va_G) (aC : Nat → ClassId) (ad : Nat → Nat) {Z : State → Prop} (zk : ZOK Z (Rg ad)) {h : PH} {x0 : Nat} {x1 : Option Nat} {hz : PH} {rz : Int32} (hf : fX6_holds h x0 x1 = some (hz, rz)) : CM l D aC Z yX6_holds cX6_holds 4 (some .boolean) 4 106 0 0 (EX D aC ad h) [.ref (ad x0), va_rf (Option.map ad x1)] (EX D aC ad hz) (some (.int rz)) (Rg ad) := by
  refine CM.of rfl ?_
  intro p e s m below meth c b hr hlk hin2 zs hE
  cases x1 <;> (
    refine k_ent (Nat.le_of_ble_eq_true rfl) (fun ls hl => ?_)
    exact wfX6_holds_0 b hlk hr zs zk hf hE (lv_sub hl [0, 1] rfl))
theorem dX5_plainConditionsHold_0 : decode cX5_plainConditionsHold 0 = .ok (.iconst 0, 1) := by decide +kernel
theorem dX5_plainConditionsHold_1 : decode cX5_plainConditionsHold 1 = .ok (.istore_n 2, 1) := by decide +kernel
theorem dX5_plainConditionsHold_2 : decode cX5_plainConditionsHold 2 = .ok (.iload_n 2, 1) := by decide +kernel
theorem dX5_plainConditionsHold_3 : decode cX5_plainConditionsHold 3 = .ok (.aload_n 1, 1) := by decide +kernel
theorem dX5_plainConditionsHold_4 : decode cX5_plainConditionsHold 4 = .ok (.getfield 248, 3) := by decide +kernel
theorem dX5_plainConditionsHold_7 : decode cX5_plainConditionsHold 7 = .ok (.if_icmp .ge 43, 3) := by decide +kernel
theorem dX5_plainConditionsHold_10 : decode cX5_plainConditionsHold 10 = .ok (.aload_n 1, 1) := by decide +kernel
theorem dX5_plainConditionsHold_11 : decode cX5_plainConditionsHold 11 = .ok (.getfield 249, 3) := by decide +kernel
theorem dX5_plainConditionsHold_14 : decode cX5_plainConditionsHold 14 = .ok (.iload_n 2, 1) := by decide +kernel
theorem dX5_plainConditionsHold_15 : decode cX5_plainConditionsHold 15 = .ok (.aaload, 1) := by decide +kernel
theorem dX5_plainConditionsHold_16 : decode cX5_plainConditionsHold 16 = .ok (.astore_n 3, 1) := by decide +kernel
theorem dX5_plainConditionsHold_17 : decode cX5_plainConditionsHold 17 = .ok (.aload_n 3, 1) := by decide +kernel
theorem dX5_plainConditionsHold_18 : decode cX5_plainConditionsHold 18 = .ok (.ifnull 26, 3) := by decide +kernel
theorem dX5_plainConditionsHold_21 : decode cX5_plainConditionsHold 21 = .ok (.aload_n 3, 1) := by decide +kernel
theorem dX5_plainConditionsHold_22 : decode cX5_plainConditionsHold 22 = .ok (.getfield 253, 3) := by decide +kernel
theorem dX5_plainConditionsHold_25 : decode cX5_plainConditionsHold 25 = .ok (.sipush 260, 3) := by decide +kernel
theorem dX5_plainConditionsHold_28 : decode cX5_plainConditionsHold 28 = .ok (.if_icmp .eq 16, 3) := by decide +kernel
theorem dX5_plainConditionsHold_31 : decode cX5_plainConditionsHold 31 = .ok (.aload_n 0, 1) := by decide +kernel
theorem dX5_plainConditionsHold_32 : decode cX5_plainConditionsHold 32 = .ok (.getfield 59, 3) := by decide +kernel
theorem dX5_plainConditionsHold_35 : decode cX5_plainConditionsHold 35 = .ok (.aload_n 3, 1) := by decide +kernel
theorem dX5_plainConditionsHold_36 : decode cX5_plainConditionsHold 36 = .ok (.invokevirtual 256, 3) := by decide +kernel
theorem dX5_plainConditionsHold_39 : decode cX5_plainConditionsHold 39 = .ok (.ifCond .ne 5, 3) := by decide +kernel
theorem dX5_plainConditionsHold_42 : decode cX5_plainConditionsHold 42 = .ok (.iconst 0, 1) := by decide +kernel
theorem dX5_plainConditionsHold_43 : decode cX5_plainConditionsHold 43 = .ok (.ireturn, 1) := by decide +kernel
theorem dX5_plainConditionsHold_44 : decode cX5_plainConditionsHold 44 = .ok (.iinc 2 1, 3) := by decide +kernel
theorem dX5_plainConditionsHold_47 : decode cX5_plainConditionsHold 47 = .ok (.goto (-45), 3) := by decide +kernel
theorem dX5_plainConditionsHold_50 : decode cX5_plainConditionsHold 50 = .ok (.iconst 1, 1) := by decide +kernel
theorem dX5_plainConditionsHold_51 : decode cX5_plainConditionsHold 51 = .ok (.ireturn, 1) := by decide +kernel
def fX5_plainConditionsHold_44 (k2 : PH → Nat → Option Nat → Int32 → Option (PH × Int32)) (h : PH) (x0 : Nat) (x1 : Option Nat) (x2 : Int32) : Option (PH × Int32) :=
  oL (x2 + 1) (fun y1 => k2 h x0 x1 y1)
set_option maxHeartbeats 4000000 in
theorem wfX5_plainConditionsHold_44 {args : Array Value} (b : Bd p s m c cX5_plainConditionsHold 4 RX5 D aC) (hlk : meth.locks = false) (hr : meth.sig.returnType = some .boolean) {Z : State → Prop} (zs : Z s) (zk : ZOK Z (Rg ad)) {hz : PH} {rz : Int32} {k2 : PH → Nat → Option Nat → Int32 → Option (PH × Int32)} (H2 : ∀ (h : PH) (x0 : Nat) (x1 : Option Nat) (x2 : Int32), ∀ (H : Heap) (locs : List Loc) (ls : Array Slot), k2 h x0 x1 x2 = some (hz, rz) → CE (EX D aC ad h) (Rg ad) s H locs → lv_has ls 4 [(0, .ref (ad x0)), (1, va_rf (Option.map ad x1)), (2, .int x2)] → W p l e (RM 5 129 0 0) s m args below meth c H locs 0 0 (MQ below (PQ (EX D aC ad hz) (Rg ad) (some (.int rz))) args s 0 0 (Rg ad)) (F0 m 2 ls [])) {h : PH} {x0 : Nat} {x1 : Option Nat} {x2 : Int32}  {H : Heap} {locs : List Loc} {ls : Array Slot} (hf : fX5_plainConditionsHold_44 k2 h x0 x1 x2 = some (hz, rz)) (hE : CE (EX D aC ad h) (Rg ad) s H locs) (hl : lv_has ls 4 [(0, .ref (ad x0)), (1, va_rf (Option.map ad x1)), (2, .int x2)]) : W p l e (RM 5 129 0 0) s m args below meth c H locs 0 0 (MQ below (PQ (EX D aC ad hz) (Rg ad) (some (.int rz))) args s 0 0 (Rg ad)) (F0 m 44 ls []) := by
  unfold fX5_plainConditionsHold_44 at hf
  obtain ⟨y1, ey1, hf⟩ := oL_s hf
  refine lv_iinc (v := y1) (lv' := [(2, .int y1), (0, .ref (ad x0)), (1, va_rf (Option.map ad x1))]) b.1 b.2.1 dX5_plainConditionsHold_44 hl (k := 2) rfl (by rw [ey1]; rfl) (by decide) (by cases x1 <;> rfl) (fun ls hl => ?_)
  refine lv_goto (tgt := 2) b.1 b.2.1 dX5_plainConditionsHold_47 (by decide) ?_
  exact H2 h x0 x1 y1 _ _ _ hf hE (lv_sub hl [1, 2, 0] rfl)
def fX5_plainConditionsHold_2F (k2 : PH → Nat → Option Nat → Int32 → Option (PH × Int32)) (h : PH) (x0 : Nat) (x1 : Option Nat) (x2 : Int32) : Option (PH × Int32) :=
  oN x1 (fun a2 => oC (decide (hT h a2 = 9)) (if (hI h 1027 a2) ≤ x2 then (some (h, 1)) else (oN (hR h 1028 a2) (fun a5 => oC (decide (hT h a5 = 105)) (oC (ix x2 (hN h a5)) (oL (hC h a5 (Int32.toNatClampNeg x2)) (fun y8 => if y8 = none then (fX5_plainConditionsHold_44 k2 h x0 x1 x2) else (oN y8 (fun a10 => oC (decide (hT h a10 = 3)) (if (hI h 256 a10) = 260 then (fX5_plainConditionsHold_44 k2 h x0 x1 x2) else (oC (decide (hT h x0 = 6)) (oN (hR h 641 x0) (fun a14 => oC (decide (hT h a14 = 7)) (oB2 (fX6_holds h a14 y8) (fun h18 r17 => if r17 = 0 then (some (h18, 0)) else (fX5_plainConditionsHold_44 k2 h18 x0 x1 x2))))))))))))))))
set_option maxHeartbeats 4000000 in
theorem wfX5_plainConditionsHold_2F {args : Array Value} (b : Bd p s m c cX5_plainConditionsHold 4 RX5 D aC) (hlk : meth.locks = false) (hr : meth.sig.returnType = some .boolean) {Z : State → Prop} (zs : Z s) (zk : ZOK Z (Rg ad)) {hz : PH} {rz : Int32} {k2 : PH → Nat → Option Nat → Int32 → Option (PH × Int32)} (H2 : ∀ (h : PH) (x0 : Nat) (x1 : Option Nat) (x2 : Int32), ∀ (H : Heap) (locs : List Loc) (ls : Array Slot), k2 h x0 x1 x2 = some (hz, rz) → CE (EX D aC ad h) (Rg ad) s H locs → lv_has ls 4 [(0, .ref (ad x0)), (1, va_rf (Option.map ad x1)), (2, .int x2)] → W p l e (RM 5 129 0 0) s m args below meth c H locs 0 0 (MQ below (PQ (EX D aC ad hz) (Rg ad) (some (.int rz))) args s 0 0 (Rg ad)) (F0 m 2 ls [])) {h : PH} {x0 : Nat} {x1 : Option Nat} {x2 : Int32}  {H : Heap} {locs : List Loc} {ls : Array Slot} (hf : fX5_plainConditionsHold_2F k2 h x0 x1 x2 = some (hz, rz)) (hE : CE (EX D aC ad h) (Rg ad) s H locs) (hl : lv_has ls 4 [(0, .ref (ad x0)), (1, va_rf (Option.map ad x1)), (2, .int x2)]) : W p l e (RM 5 129 0 0) s m args below meth c H locs 0 0 (MQ below (PQ (EX D aC ad hz) (Rg ad) (some (.int rz))) args s 0 0 (Rg ad)) (F0 m 2 ls []) := by
  unfold fX5_plainConditionsHold_2F at hf
  refine lv_iload_n b.1 b.2.1 dX5_plainConditionsHold_2 rfl (lv_at hl 2 rfl) ?_
  refine k_aload_n (x := Option.map ad x1) b dX5_plainConditionsHold_3 rfl (lv_at hl 1 rfl) ?_
  obtain ⟨a2, ea2, hf⟩ := oN_s hf
  obtain ⟨t3, hf⟩ := oC_s hf
  have t3 := of_decide_eq_true t3
  refine gX5_248 (x := x1) b hE ea2 t3 dX5_plainConditionsHold_4 ?_
  refine lv_icmp_ge (tgt := 50) b.1 b.2.1 dX5_plainConditionsHold_7 (by decide) (fun c4 => ?_) (fun c4 => ?_)
  · have hf := oI_t c4 hf
    refine lv_iconst (v := 1) b.1 b.2.1 dX5_plainConditionsHold_50 (by decide) ?_
    cases hf
    exact k_zret b hlk hr (by decide) hE (Nat.le_refl _) (Nat.le_refl _) dX5_plainConditionsHold_51
  · have hf := oI_f c4 hf
    refine k_aload_n (x := Option.map ad x1) b dX5_plainConditionsHold_10 rfl (lv_at hl 1 rfl) ?_
    refine gX5_249 (x := x1) b hE ea2 t3 dX5_plainConditionsHold_11 ?_
    refine lv_iload_n b.1 b.2.1 dX5_plainConditionsHold_14 rfl (lv_at hl 2 rfl) ?_
    obtain ⟨a5, ea5, hf⟩ := oN_s hf
    obtain ⟨t6, hf⟩ := oC_s hf
    have t6 := of_decide_eq_true t6
    obtain ⟨g7, hf⟩ := oC_s hf
    refine q_aald5 (x := (hR h 1028 a2)) b hE ea5 t6 g7 dX5_plainConditionsHold_15 ?_
    obtain ⟨y8, ey8, hf⟩ := oL_s hf
    refine k_nmO ey8 ?_
    refine k_astore_n (x := Option.map ad y8) (lv' := [(3, va_rf (Option.map ad y8)), (0, .ref (ad x0)), (1, va_rf (Option.map ad x1)), (2, .int x2)]) b dX5_plainConditionsHold_16 rfl hl (by decide) rfl (fun ls hl => ?_)
    refine k_aload_n (x := Option.map ad y8) b dX5_plainConditionsHold_17 rfl (lv_at hl 0 rfl) ?_
    refine k_ifnull (x := Option.map ad y8) b dX5_plainConditionsHold_18 (tgt := 44) (by decide) (fun c9 => ?_) (fun c9 => ?_)
    · have hf := oI_t (Option.map_eq_none_iff.mp c9) hf
      exact wfX5_plainConditionsHold_44 b hlk hr zs zk H2 hf hE (lv_sub hl [1, 2, 3] rfl)
    · have hf := oI_f (fun z => c9 (Option.map_eq_none_iff.mpr z)) hf
      refine k_aload_n (x := Option.map ad y8) b dX5_plainConditionsHold_21 rfl (lv_at hl 0 rfl) ?_
      obtain ⟨a10, ea10, hf⟩ := oN_s hf
      obtain ⟨t11, hf⟩ := oC_s hf
      have t11 := of_decide_eq_true t11
      refine gX5_253 (x := y8) b hE ea10 t11 dX5_plainConditionsHold_22 ?_
      refine lv_sipush (v := 260) b.1 b.2.1 dX5_plainConditionsHold_25 (by decide) ?_
      refine lv_icmp_eq (tgt := 44) b.1 b.2.1 dX5_plainConditionsHold_28 (by decide) (fun c12 => ?_) (fun c12 => ?_)
      · have hf := oI_t c12 hf
        exact wfX5_plainConditionsHold_44 b hlk hr zs zk H2 hf hE (lv_sub hl [1, 2, 3] rfl)
      · have hf := oI_f c12 hf
        refine lv_aload_n b.1 b.2.1 dX5_plainConditionsHold_31 rfl (lv_at hl 1 rfl) ?_
        obtain ⟨t13, hf⟩ := oC_s hf
        have t13 := of_decide_eq_true t13
        refine gX5_59 (x := (some x0)) b hE rfl t13 dX5_plainConditionsHold_32 ?_
        refine k_aload_n (x := Option.map ad y8) b dX5_plainConditionsHold_35 rfl (lv_at hl 0 rfl) ?_
        obtain ⟨a14, ea14, hf⟩ := oN_s hf
        obtain ⟨t15, hf⟩ := oC_s hf
        have t15 := of_decide_eq_true t15
        obtain ⟨h18, r17, hc16, hf⟩ := oB2_s hf
        refine k_stk [va_rf (Option.map ad y8)] ea14 ?_
        refine k_callV0 (C := RX6) b zs zk hE (CX6_holds l D aC ad zk hc16) mc_X6_holds (in4 200 rfl rfl) mi_X6_holds ms_X6_holds ini_RX6 ok_X6_holds (x_recv b hE (ci := 6) rfl (by decide) t15) ⟨Nat.le_of_ble_eq_true rfl, Nat.le_of_ble_eq_true rfl⟩ rfl hl.1 rfl (k_room _ (by exact Nat.le_of_ble_eq_true rfl)) ⟨Nat.le_refl _, Nat.le_refl _⟩ dX5_plainConditionsHold_36 (fun H locs hE => ?_)
        refine lv_if_ne (tgt := 44) b.1 b.2.1 dX5_plainConditionsHold_39 (by decide) (fun c19 => ?_) (fun c19 => ?_)
        · have hf := oI_f c19 hf
          exact wfX5_plainConditionsHold_44 b hlk hr zs zk H2 hf hE (lv_sub hl [1, 2, 3] rfl)
        · have hf := oI_t c19 hf
          refine lv_iconst (v := 0) b.1 b.2.1 dX5_plainConditionsHold_42 (by decide) ?_
          cases hf
          exact k_zret b hlk hr (by decide) hE (Nat.le_refl _) (Nat.le_refl _) dX5_plainConditionsHold_43
def fX5_plainConditionsHold_2  : Nat → PH → Nat → Option Nat → Int32 → Option (PH × Int32)
  | 0 => fun _ _ _ _ => none
  | n + 1 => fX5_plainConditionsHold_2F  (fX5_plainConditionsHold_2  n)
set_option maxHeartbeats 4000000 in
theorem wfX5_plainConditionsHold_2 {args : Array Value} (b : Bd p s m c cX5_plainConditionsHold 4 RX5 D aC) (hlk : meth.locks = false) (hr : meth.sig.returnType = some .boolean) {Z : State → Prop} (zs : Z s) (zk : ZOK Z (Rg ad)) {hz : PH} {rz : Int32} : ∀ n : Nat, ∀ (h : PH) (x0 : Nat) (x1 : Option Nat) (x2 : Int32), ∀ (H : Heap) (locs : List Loc) (ls : Array Slot), fX5_plainConditionsHold_2  n h x0 x1 x2 = some (hz, rz) → CE (EX D aC ad h) (Rg ad) s H locs → lv_has ls 4 [(0, .ref (ad x0)), (1, va_rf (Option.map ad x1)), (2, .int x2)] → W p l e (RM 5 129 0 0) s m args below meth c H locs 0 0 (MQ below (PQ (EX D aC ad hz) (Rg ad) (some (.int rz))) args s 0 0 (Rg ad)) (F0 m 2 ls []) := by
  intro n
  induction n with
  | zero =>
    intro h x0 x1 x2 H locs ls hf
    have hf : (none : Option (PH × Int32)) = some _ := hf
    cases hf
  | succ n ih =>
    intro h x0 x1 x2 H locs ls hf hE hl
    exact wfX5_plainConditionsHold_2F b hlk hr zs zk  ih hf hE hl
def fX5_plainConditionsHold_0  (h : PH) (x0 : Nat) (x1 : Option Nat) : Option (PH × Int32) :=
  fX5_plainConditionsHold_2  FU h x0 x1 0
set_option maxHeartbeats 4000000 in
theorem wfX5_plainConditionsHold_0 {args : Array Value} (b : Bd p s m c cX5_plainConditionsHold 4 RX5 D aC) (hlk : meth.locks = false) (hr : meth.sig.returnType = some .boolean) {Z : State → Prop} (zs : Z s) (zk : ZOK Z (Rg ad)) {hz : PH} {rz : Int32} {h : PH} {x0 : Nat} {x1 : Option Nat}  {H : Heap} {locs : List Loc} {ls : Array Slot} (hf : fX5_plainConditionsHold_0 h x0 x1 = some (hz, rz)) (hE : CE (EX D aC ad h) (Rg ad) s H locs) (hl : lv_has ls 4 [(0, .ref (ad x0)), (1, va_rf (Option.map ad x1))]) : W p l e (RM 5 129 0 0) s m args below meth c H locs 0 0 (MQ below (PQ (EX D aC ad hz) (Rg ad) (some (.int rz))) args s 0 0 (Rg ad)) (F0 m 0 ls []) := by
  unfold fX5_plainConditionsHold_0 at hf
  refine lv_iconst (v := 0) b.1 b.2.1 dX5_plainConditionsHold_0 (by decide) ?_
  refine lv_istore_n (lv' := [(2, .int 0), (0, .ref (ad x0)), (1, va_rf (Option.map ad x1))]) b.1 b.2.1 dX5_plainConditionsHold_1 rfl hl (by decide) (by cases x1 <;> rfl) (fun ls hl => ?_)
  exact wfX5_plainConditionsHold_2 b hlk hr zs zk  FU h x0 x1 0 _ _ _ hf hE (lv_sub hl [1, 2, 0] rfl)
def fX5_plainConditionsHold (h : PH) (x0 : Nat) (x1 : Option Nat) : Option (PH × Int32) := fX5_plainConditionsHold_0 h x0 x1
set_option maxHeartbeats 4000000 in
theorem CX5_plainConditionsHold (l : Launch) (D : va_G) (aC : Nat → ClassId) (ad : Nat → Nat) {Z : State → Prop} (zk : ZOK Z (Rg ad)) {h : PH} {x0 : Nat} {x1 : Option Nat} {hz : PH} {rz : Int32} (hf : fX5_plainConditionsHold h x0 x1 = some (hz, rz)) : CM l D aC Z yX5_plainConditionsHold cX5_plainConditionsHold 4 (some .boolean) 5 129 0 0 (EX D aC ad h) [.ref (ad x0), va_rf (Option.map ad x1)] (EX D aC ad hz) (some (.int rz)) (Rg ad) := by
  refine CM.of rfl ?_
  intro p e s m below meth c b hr hlk hin2 zs hE
  cases x1 <;> (
    refine k_ent (Nat.le_of_ble_eq_true rfl) (fun ls hl => ?_)
    exact wfX5_plainConditionsHold_0 b hlk hr zs zk hf hE (lv_sub hl [0, 1] rfl))
theorem dX6_literalOf_0 : decode cX6_literalOf 0 = .ok (.aload_n 1, 1) := by decide +kernel
theorem dX6_literalOf_1 : decode cX6_literalOf 1 = .ok (.getfield 48, 3) := by decide +kernel
theorem dX6_literalOf_4 : decode cX6_literalOf 4 = .ok (.aload_n 1, 1) := by decide +kernel
theorem dX6_literalOf_5 : decode cX6_literalOf 5 = .ok (.getfield 54, 3) := by decide +kernel
theorem dX6_literalOf_8 : decode cX6_literalOf 8 = .ok (.aload_n 0, 1) := by decide +kernel
theorem dX6_literalOf_9 : decode cX6_literalOf 9 = .ok (.aload_n 1, 1) := by decide +kernel
theorem dX6_literalOf_10 : decode cX6_literalOf 10 = .ok (.getfield 58, 3) := by decide +kernel
theorem dX6_literalOf_13 : decode cX6_literalOf 13 = .ok (.invokevirtual 61, 3) := by decide +kernel
theorem dX6_literalOf_16 : decode cX6_literalOf 16 = .ok (.aload_n 0, 1) := by decide +kernel
theorem dX6_literalOf_17 : decode cX6_literalOf 17 = .ok (.aload_n 1, 1) := by decide +kernel
theorem dX6_literalOf_18 : decode cX6_literalOf 18 = .ok (.getfield 65, 3) := by decide +kernel
theorem dX6_literalOf_21 : decode cX6_literalOf 21 = .ok (.invokevirtual 61, 3) := by decide +kernel
theorem dX6_literalOf_24 : decode cX6_literalOf 24 = .ok (.invokestatic 68, 3) := by decide +kernel
theorem dX6_literalOf_27 : decode cX6_literalOf 27 = .ok (.ireturn, 1) := by decide +kernel
def fX6_literalOf_0  (h : PH) (x0 : Nat) (x1 : Option Nat) : Option (Int32) :=
  oN x1 (fun a1 => oC (decide (hT h a1 = 3)) (oC (decide (hT h x0 = 7)) (oB (fX6_personOf h x0 (hI h 259 a1)) (fun r5 => oB (fX6_personOf h x0 (hI h 260 a1)) (fun r7 => oB (fX1_literalNumber (hI h 257 a1) (hI h 258 a1) r5 r7) (fun r9 => some (r9)))))))
set_option maxHeartbeats 4000000 in
theorem wfX6_literalOf_0 {args : Array Value} (b : Bd p s m c cX6_literalOf 2 RX6 D aC) (hlk : meth.locks = false) (hr : meth.sig.returnType = some .int) {Z : State → Prop} (zs : Z s) (zk : ZOK Z (Rg ad)) {rz : Int32} {h : PH} {x0 : Nat} {x1 : Option Nat}  {H : Heap} {locs : List Loc} {ls : Array Slot} (hf : fX6_literalOf_0 h x0 x1 = some rz) (hE : CE (EX D aC ad h) (Rg ad) s H locs) (hl : lv_has ls 2 [(0, .ref (ad x0)), (1, va_rf (Option.map ad x1))]) : W p l e (RM 1 23 0 0) s m args below meth c H locs 0 0 (MQ below (PQ (EX D aC ad h) (Rg ad) (some (.int rz))) args s 0 0 (Rg ad)) (F0 m 0 ls []) := by
  unfold fX6_literalOf_0 at hf
  refine k_aload_n (x := Option.map ad x1) b dX6_literalOf_0 rfl (lv_at hl 1 rfl) ?_
  obtain ⟨a1, ea1, hf⟩ := oN_s hf
  obtain ⟨t2, hf⟩ := oC_s hf
  have t2 := of_decide_eq_true t2
  refine gX6_48 (x := x1) b hE ea1 t2 dX6_literalOf_1 ?_
  refine k_aload_n (x := Option.map ad x1) b dX6_literalOf_4 rfl (lv_at hl 1 rfl) ?_
  refine gX6_54 (x := x1) b hE ea1 t2 dX6_literalOf_5 ?_
  refine lv_aload_n b.1 b.2.1 dX6_literalOf_8 rfl (lv_at hl 0 rfl) ?_
  refine k_aload_n (x := Option.map ad x1) b dX6_literalOf_9 rfl (lv_at hl 1 rfl) ?_
  refine gX6_58 (x := x1) b hE ea1 t2 dX6_literalOf_10 ?_
  obtain ⟨t3, hf⟩ := oC_s hf
  have t3 := of_decide_eq_true t3
  obtain ⟨r5, hc4, hf⟩ := oB_s hf
  refine k_callV0 (C := RX6) b zs zk hE (CX6_personOf l D aC ad zk hc4) mc_X6_personOf (in4 204 rfl rfl) mi_X6_personOf ms_X6_personOf ini_RX6 ok_X6_personOf (x_recv b hE (ci := 6) rfl (by decide) t3) ⟨Nat.le_of_ble_eq_true rfl, Nat.le_of_ble_eq_true rfl⟩ rfl hl.1 rfl (k_room _ (by exact Nat.le_of_ble_eq_true rfl)) ⟨Nat.le_refl _, Nat.le_refl _⟩ dX6_literalOf_13 (fun H locs hE => ?_)
  refine lv_aload_n b.1 b.2.1 dX6_literalOf_16 rfl (lv_at hl 0 rfl) ?_
  refine k_aload_n (x := Option.map ad x1) b dX6_literalOf_17 rfl (lv_at hl 1 rfl) ?_
  refine gX6_65 (x := x1) b hE ea1 t2 dX6_literalOf_18 ?_
  obtain ⟨r7, hc6, hf⟩ := oB_s hf
  refine k_callV0 (C := RX6) b zs zk hE (CX6_personOf l D aC ad zk hc6) mc_X6_personOf (in4 204 rfl rfl) mi_X6_personOf ms_X6_personOf ini_RX6 ok_X6_personOf (x_recv b hE (ci := 6) rfl (by decide) t3) ⟨Nat.le_of_ble_eq_true rfl, Nat.le_of_ble_eq_true rfl⟩ rfl hl.1 rfl (k_room _ (by exact Nat.le_of_ble_eq_true rfl)) ⟨Nat.le_refl _, Nat.le_refl _⟩ dX6_literalOf_21 (fun H locs hE => ?_)
  obtain ⟨r9, hc8, hf⟩ := oB_s hf
  refine k_callS0 b zs zk hE (CX1_literalNumber l D aC zk hc8) mc_X1_literalNumber (in5 20 rfl rfl) mt_X1_literalNumber ini_RX1 ok_X1_literalNumber ⟨Nat.le_of_ble_eq_true rfl, Nat.le_of_ble_eq_true rfl⟩ rfl hl.1 rfl (k_room _ (by exact Nat.le_of_ble_eq_true rfl)) ⟨Nat.le_refl _, Nat.le_refl _⟩ dX6_literalOf_24 (fun H locs hE => ?_)
  cases hf
  exact k_iret b hlk hr hE (Nat.le_refl _) (Nat.le_refl _) dX6_literalOf_27
def fX6_literalOf (h : PH) (x0 : Nat) (x1 : Option Nat) : Option (Int32) := fX6_literalOf_0 h x0 x1
set_option maxHeartbeats 4000000 in
theorem CX6_literalOf (l : Launch) (D : va_G) (aC : Nat → ClassId) (ad : Nat → Nat) {Z : State → Prop} (zk : ZOK Z (Rg ad)) {h : PH} {x0 : Nat} {x1 : Option Nat} {rz : Int32} (hf : fX6_literalOf h x0 x1 = some rz) : CM l D aC Z yX6_literalOf cX6_literalOf 2 (some .int) 1 23 0 0 (EX D aC ad h) [.ref (ad x0), va_rf (Option.map ad x1)] (EX D aC ad h) (some (.int rz)) (Rg ad) := by
  refine CM.of rfl ?_
  intro p e s m below meth c b hr hlk hin2 zs hE
  cases x1 <;> (
    refine k_ent (Nat.le_of_ble_eq_true rfl) (fun ls hl => ?_)
    exact wfX6_literalOf_0 b hlk hr zs zk hf hE (lv_sub hl [0, 1] rfl))
theorem dX5_headOf_0 : decode cX5_headOf 0 = .ok (.aload_n 1, 1) := by decide +kernel
theorem dX5_headOf_1 : decode cX5_headOf 1 = .ok (.getfield 121, 3) := by decide +kernel
theorem dX5_headOf_4 : decode cX5_headOf 4 = .ok (.iconst 2, 1) := by decide +kernel
theorem dX5_headOf_5 : decode cX5_headOf 5 = .ok (.if_icmp .ne 32, 3) := by decide +kernel
theorem dX5_headOf_8 : decode cX5_headOf 8 = .ok (.sipush 600, 3) := by decide +kernel
theorem dX5_headOf_11 : decode cX5_headOf 11 = .ok (.aload_n 1, 1) := by decide +kernel
theorem dX5_headOf_12 : decode cX5_headOf 12 = .ok (.getfield 164, 3) := by decide +kernel
theorem dX5_headOf_15 : decode cX5_headOf 15 = .ok (.getfield 260, 3) := by decide +kernel
theorem dX5_headOf_18 : decode cX5_headOf 18 = .ok (.iconst 5, 1) := by decide +kernel
theorem dX5_headOf_19 : decode cX5_headOf 19 = .ok (.imul, 1) := by decide +kernel
theorem dX5_headOf_20 : decode cX5_headOf 20 = .ok (.iadd, 1) := by decide +kernel
theorem dX5_headOf_21 : decode cX5_headOf 21 = .ok (.aload_n 0, 1) := by decide +kernel
theorem dX5_headOf_22 : decode cX5_headOf 22 = .ok (.getfield 59, 3) := by decide +kernel
theorem dX5_headOf_25 : decode cX5_headOf 25 = .ok (.aload_n 1, 1) := by decide +kernel
theorem dX5_headOf_26 : decode cX5_headOf 26 = .ok (.getfield 164, 3) := by decide +kernel
theorem dX5_headOf_29 : decode cX5_headOf 29 = .ok (.getfield 263, 3) := by decide +kernel
theorem dX5_headOf_32 : decode cX5_headOf 32 = .ok (.invokevirtual 195, 3) := by decide +kernel
theorem dX5_headOf_35 : decode cX5_headOf 35 = .ok (.iadd, 1) := by decide +kernel
theorem dX5_headOf_36 : decode cX5_headOf 36 = .ok (.ireturn, 1) := by decide +kernel
theorem dX5_headOf_37 : decode cX5_headOf 37 = .ok (.aload_n 0, 1) := by decide +kernel
theorem dX5_headOf_38 : decode cX5_headOf 38 = .ok (.getfield 59, 3) := by decide +kernel
theorem dX5_headOf_41 : decode cX5_headOf 41 = .ok (.aload_n 1, 1) := by decide +kernel
theorem dX5_headOf_42 : decode cX5_headOf 42 = .ok (.getfield 164, 3) := by decide +kernel
theorem dX5_headOf_45 : decode cX5_headOf 45 = .ok (.invokevirtual 266, 3) := by decide +kernel
theorem dX5_headOf_48 : decode cX5_headOf 48 = .ok (.ireturn, 1) := by decide +kernel
def fX5_headOf_0  (h : PH) (x0 : Nat) (x1 : Option Nat) : Option (Int32) :=
  oN x1 (fun a1 => oC (decide (hT h a1 = 9)) (if (hI h 1025 a1) = 2 then (oN (hR h 1029 a1) (fun a9 => oC (decide (hT h a9 = 3)) (oC (decide (hT h x0 = 6)) (oN (hR h 641 x0) (fun a12 => oC (decide (hT h a12 = 7)) (oB (fX6_personOf h a12 (hI h 259 a9)) (fun r15 => some (((600 + ((hI h 257 a9) * 5)) + r15))))))))) else (oC (decide (hT h x0 = 6)) (oN (hR h 641 x0) (fun a5 => oC (decide (hT h a5 = 7)) (oB (fX6_literalOf h a5 (hR h 1029 a1)) (fun r8 => some (r8))))))))
set_option maxHeartbeats 4000000 in
theorem wfX5_headOf_0 {args : Array Value} (b : Bd p s m c cX5_headOf 2 RX5 D aC) (hlk : meth.locks = false) (hr : meth.sig.returnType = some .int) {Z : State → Prop} (zs : Z s) (zk : ZOK Z (Rg ad)) {rz : Int32} {h : PH} {x0 : Nat} {x1 : Option Nat}  {H : Heap} {locs : List Loc} {ls : Array Slot} (hf : fX5_headOf_0 h x0 x1 = some rz) (hE : CE (EX D aC ad h) (Rg ad) s H locs) (hl : lv_has ls 2 [(0, .ref (ad x0)), (1, va_rf (Option.map ad x1))]) : W p l e (RM 2 44 0 0) s m args below meth c H locs 0 0 (MQ below (PQ (EX D aC ad h) (Rg ad) (some (.int rz))) args s 0 0 (Rg ad)) (F0 m 0 ls []) := by
  unfold fX5_headOf_0 at hf
  refine k_aload_n (x := Option.map ad x1) b dX5_headOf_0 rfl (lv_at hl 1 rfl) ?_
  obtain ⟨a1, ea1, hf⟩ := oN_s hf
  obtain ⟨t2, hf⟩ := oC_s hf
  have t2 := of_decide_eq_true t2
  refine gX5_121 (x := x1) b hE ea1 t2 dX5_headOf_1 ?_
  refine lv_iconst (v := 2) b.1 b.2.1 dX5_headOf_4 (by decide) ?_
  refine lv_icmp_ne (tgt := 37) b.1 b.2.1 dX5_headOf_5 (by decide) (fun c3 => ?_) (fun c3 => ?_)
  · have hf := oI_f c3 hf
    refine lv_aload_n b.1 b.2.1 dX5_headOf_37 rfl (lv_at hl 0 rfl) ?_
    obtain ⟨t4, hf⟩ := oC_s hf
    have t4 := of_decide_eq_true t4
    refine gX5_59 (x := (some x0)) b hE rfl t4 dX5_headOf_38 ?_
    refine k_aload_n (x := Option.map ad x1) b dX5_headOf_41 rfl (lv_at hl 1 rfl) ?_
    refine gX5_164 (x := x1) b hE ea1 t2 dX5_headOf_42 ?_
    obtain ⟨a5, ea5, hf⟩ := oN_s hf
    obtain ⟨t6, hf⟩ := oC_s hf
    have t6 := of_decide_eq_true t6
    obtain ⟨r8, hc7, hf⟩ := oB_s hf
    refine k_stk [va_rf (Option.map ad (hR h 1029 a1))] ea5 ?_
    refine k_callV0 (C := RX6) b zs zk hE (CX6_literalOf l D aC ad zk hc7) mc_X6_literalOf (in5 16 rfl rfl) mi_X6_literalOf ms_X6_literalOf ini_RX6 ok_X6_literalOf (x_recv b hE (ci := 6) rfl (by decide) t6) ⟨Nat.le_of_ble_eq_true rfl, Nat.le_of_ble_eq_true rfl⟩ rfl hl.1 rfl (k_room _ (by exact Nat.le_of_ble_eq_true rfl)) ⟨Nat.le_refl _, Nat.le_refl _⟩ dX5_headOf_45 (fun H locs hE => ?_)
    cases hf
    exact k_iret b hlk hr hE (Nat.le_refl _) (Nat.le_refl _) dX5_headOf_48
  · have hf := oI_t c3 hf
    refine lv_sipush (v := 600) b.1 b.2.1 dX5_headOf_8 (by decide) ?_
    refine k_aload_n (x := Option.map ad x1) b dX5_headOf_11 rfl (lv_at hl 1 rfl) ?_
    refine gX5_164 (x := x1) b hE ea1 t2 dX5_headOf_12 ?_
    obtain ⟨a9, ea9, hf⟩ := oN_s hf
    obtain ⟨t10, hf⟩ := oC_s hf
    have t10 := of_decide_eq_true t10
    refine gX5_260 (x := (hR h 1029 a1)) b hE ea9 t10 dX5_headOf_15 ?_
    refine lv_iconst (v := 5) b.1 b.2.1 dX5_headOf_18 (by decide) ?_
    refine lv_imul b.1 b.2.1 dX5_headOf_19 ?_
    refine lv_iadd b.1 b.2.1 dX5_headOf_20 ?_
    refine lv_aload_n b.1 b.2.1 dX5_headOf_21 rfl (lv_at hl 0 rfl) ?_
    obtain ⟨t11, hf⟩ := oC_s hf
    have t11 := of_decide_eq_true t11
    refine gX5_59 (x := (some x0)) b hE rfl t11 dX5_headOf_22 ?_
    refine k_aload_n (x := Option.map ad x1) b dX5_headOf_25 rfl (lv_at hl 1 rfl) ?_
    refine gX5_164 (x := x1) b hE ea1 t2 dX5_headOf_26 ?_
    refine gX5_263 (x := (hR h 1029 a1)) b hE ea9 t10 dX5_headOf_29 ?_
    obtain ⟨a12, ea12, hf⟩ := oN_s hf
    obtain ⟨t13, hf⟩ := oC_s hf
    have t13 := of_decide_eq_true t13
    obtain ⟨r15, hc14, hf⟩ := oB_s hf
    refine k_stk [.int (hI h 259 a9)] ea12 ?_
    refine k_callV0 (C := RX6) b zs zk hE (CX6_personOf l D aC ad zk hc14) mc_X6_personOf (in5 15 rfl rfl) mi_X6_personOf ms_X6_personOf ini_RX6 ok_X6_personOf (x_recv b hE (ci := 6) rfl (by decide) t13) ⟨Nat.le_of_ble_eq_true rfl, Nat.le_of_ble_eq_true rfl⟩ rfl hl.1 rfl (k_room _ (by exact Nat.le_of_ble_eq_true rfl)) ⟨Nat.le_refl _, Nat.le_refl _⟩ dX5_headOf_32 (fun H locs hE => ?_)
    refine lv_iadd b.1 b.2.1 dX5_headOf_35 ?_
    cases hf
    exact k_iret b hlk hr hE (Nat.le_refl _) (Nat.le_refl _) dX5_headOf_36
def fX5_headOf (h : PH) (x0 : Nat) (x1 : Option Nat) : Option (Int32) := fX5_headOf_0 h x0 x1
set_option maxHeartbeats 4000000 in
theorem CX5_headOf (l : Launch) (D : va_G) (aC : Nat → ClassId) (ad : Nat → Nat) {Z : State → Prop} (zk : ZOK Z (Rg ad)) {h : PH} {x0 : Nat} {x1 : Option Nat} {rz : Int32} (hf : fX5_headOf h x0 x1 = some rz) : CM l D aC Z yX5_headOf cX5_headOf 2 (some .int) 2 44 0 0 (EX D aC ad h) [.ref (ad x0), va_rf (Option.map ad x1)] (EX D aC ad h) (some (.int rz)) (Rg ad) := by
  refine CM.of rfl ?_
  intro p e s m below meth c b hr hlk hin2 zs hE
  cases x1 <;> (
    refine k_ent (Nat.le_of_ble_eq_true rfl) (fun ls hl => ?_)
    exact wfX5_headOf_0 b hlk hr zs zk hf hE (lv_sub hl [0, 1] rfl))
end
