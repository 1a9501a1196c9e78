section
variable {p : Program} {l : Launch} {e : Env} {s : State} {m : MethodId} {below : List Frame} {meth : Method} {c : Code} {D : va_G} {aC : Nat → ClassId} {ad : Nat → Nat}
theorem dX11_judge_0 : decode cX11_judge 0 = .ok (.iload_n 1, 1) := by decide +kernel
theorem dX11_judge_1 : decode cX11_judge 1 = .ok (.invokestatic 108, 3) := by decide +kernel
theorem dX11_judge_4 : decode cX11_judge 4 = .ok (.ifCond .eq 10, 3) := by decide +kernel
theorem dX11_judge_7 : decode cX11_judge 7 = .ok (.iload_n 2, 1) := by decide +kernel
theorem dX11_judge_8 : decode cX11_judge 8 = .ok (.invokestatic 108, 3) := by decide +kernel
theorem dX11_judge_11 : decode cX11_judge 11 = .ok (.ifCond .ne 5, 3) := by decide +kernel
theorem dX11_judge_14 : decode cX11_judge 14 = .ok (.iconst (-1), 1) := by decide +kernel
theorem dX11_judge_15 : decode cX11_judge 15 = .ok (.ireturn, 1) := by decide +kernel
theorem dX11_judge_16 : decode cX11_judge 16 = .ok (.aload_n 0, 1) := by decide +kernel
theorem dX11_judge_17 : decode cX11_judge 17 = .ok (.getfield 112, 3) := by decide +kernel
theorem dX11_judge_20 : decode cX11_judge 20 = .ok (.ifnonnull 17, 3) := by decide +kernel
theorem dX11_judge_23 : decode cX11_judge 23 = .ok (.new 116, 3) := by decide +kernel
theorem dX11_judge_26 : decode cX11_judge 26 = .ok (.dup, 1) := by decide +kernel
theorem dX11_judge_27 : decode cX11_judge 27 = .ok (.aload_n 0, 1) := by decide +kernel
theorem dX11_judge_28 : decode cX11_judge 28 = .ok (.getfield 22, 3) := by decide +kernel
theorem dX11_judge_31 : decode cX11_judge 31 = .ok (.invokespecial 118, 3) := by decide +kernel
theorem dX11_judge_34 : decode cX11_judge 34 = .ok (.goto 7, 3) := by decide +kernel
theorem dX11_judge_37 : decode cX11_judge 37 = .ok (.aload_n 0, 1) := by decide +kernel
theorem dX11_judge_38 : decode cX11_judge 38 = .ok (.getfield 112, 3) := by decide +kernel
theorem dX11_judge_41 : decode cX11_judge 41 = .ok (.astore_n 3, 1) := by decide +kernel
theorem dX11_judge_42 : decode cX11_judge 42 = .ok (.aload_n 0, 1) := by decide +kernel
theorem dX11_judge_43 : decode cX11_judge 43 = .ok (.aload_n 3, 1) := by decide +kernel
theorem dX11_judge_44 : decode cX11_judge 44 = .ok (.putfield 112, 3) := by decide +kernel
theorem dX11_judge_47 : decode cX11_judge 47 = .ok (.aload_n 3, 1) := by decide +kernel
theorem dX11_judge_48 : decode cX11_judge 48 = .ok (.invokevirtual 119, 3) := by decide +kernel
theorem dX11_judge_51 : decode cX11_judge 51 = .ok (.iconst 0, 1) := by decide +kernel
theorem dX11_judge_52 : decode cX11_judge 52 = .ok (.istore 4, 2) := by decide +kernel
theorem dX11_judge_54 : decode cX11_judge 54 = .ok (.iload 4, 2) := by decide +kernel
theorem dX11_judge_56 : decode cX11_judge 56 = .ok (.aload_n 0, 1) := by decide +kernel
theorem dX11_judge_57 : decode cX11_judge 57 = .ok (.getfield 97, 3) := by decide +kernel
theorem dX11_judge_60 : decode cX11_judge 60 = .ok (.if_icmp .ge 22, 3) := by decide +kernel
theorem dX11_judge_63 : decode cX11_judge 63 = .ok (.aload_n 3, 1) := by decide +kernel
theorem dX11_judge_64 : decode cX11_judge 64 = .ok (.aload_n 0, 1) := by decide +kernel
theorem dX11_judge_65 : decode cX11_judge 65 = .ok (.getfield 37, 3) := by decide +kernel
theorem dX11_judge_68 : decode cX11_judge 68 = .ok (.iload 4, 2) := by decide +kernel
theorem dX11_judge_70 : decode cX11_judge 70 = .ok (.aaload, 1) := by decide +kernel
theorem dX11_judge_71 : decode cX11_judge 71 = .ok (.iload_n 1, 1) := by decide +kernel
theorem dX11_judge_72 : decode cX11_judge 72 = .ok (.iload_n 2, 1) := by decide +kernel
theorem dX11_judge_73 : decode cX11_judge 73 = .ok (.invokevirtual 121, 3) := by decide +kernel
theorem dX11_judge_76 : decode cX11_judge 76 = .ok (.iinc 4 1, 3) := by decide +kernel
theorem dX11_judge_79 : decode cX11_judge 79 = .ok (.goto (-25), 3) := by decide +kernel
theorem dX11_judge_82 : decode cX11_judge 82 = .ok (.aload_n 3, 1) := by decide +kernel
theorem dX11_judge_83 : decode cX11_judge 83 = .ok (.invokevirtual 125, 3) := by decide +kernel
theorem dX11_judge_86 : decode cX11_judge 86 = .ok (.iconst 0, 1) := by decide +kernel
theorem dX11_judge_87 : decode cX11_judge 87 = .ok (.istore 4, 2) := by decide +kernel
theorem dX11_judge_89 : decode cX11_judge 89 = .ok (.iload 4, 2) := by decide +kernel
theorem dX11_judge_91 : decode cX11_judge 91 = .ok (.aload_n 0, 1) := by decide +kernel
theorem dX11_judge_92 : decode cX11_judge 92 = .ok (.getfield 22, 3) := by decide +kernel
theorem dX11_judge_95 : decode cX11_judge 95 = .ok (.getfield 128, 3) := by decide +kernel
theorem dX11_judge_98 : decode cX11_judge 98 = .ok (.getfield 84, 3) := by decide +kernel
theorem dX11_judge_101 : decode cX11_judge 101 = .ok (.if_icmp .ge 17, 3) := by decide +kernel
theorem dX11_judge_104 : decode cX11_judge 104 = .ok (.aload_n 3, 1) := by decide +kernel
theorem dX11_judge_105 : decode cX11_judge 105 = .ok (.iload 4, 2) := by decide +kernel
theorem dX11_judge_107 : decode cX11_judge 107 = .ok (.iload_n 1, 1) := by decide +kernel
theorem dX11_judge_108 : decode cX11_judge 108 = .ok (.iload_n 2, 1) := by decide +kernel
theorem dX11_judge_109 : decode cX11_judge 109 = .ok (.invokevirtual 131, 3) := by decide +kernel
theorem dX11_judge_112 : decode cX11_judge 112 = .ok (.iinc 4 1, 3) := by decide +kernel
theorem dX11_judge_115 : decode cX11_judge 115 = .ok (.goto (-26), 3) := by decide +kernel
theorem dX11_judge_118 : decode cX11_judge 118 = .ok (.iconst 1, 1) := by decide +kernel
theorem dX11_judge_119 : decode cX11_judge 119 = .ok (.istore 4, 2) := by decide +kernel
theorem dX11_judge_121 : decode cX11_judge 121 = .ok (.iconst 0, 1) := by decide +kernel
theorem dX11_judge_122 : decode cX11_judge 122 = .ok (.istore 5, 2) := by decide +kernel
theorem dX11_judge_124 : decode cX11_judge 124 = .ok (.iload 5, 2) := by decide +kernel
theorem dX11_judge_126 : decode cX11_judge 126 = .ok (.sipush 600, 3) := by decide +kernel
theorem dX11_judge_129 : decode cX11_judge 129 = .ok (.if_icmp .gt 24, 3) := by decide +kernel
theorem dX11_judge_132 : decode cX11_judge 132 = .ok (.iload 4, 2) := by decide +kernel
theorem dX11_judge_134 : decode cX11_judge 134 = .ok (.ifCond .eq 19, 3) := by decide +kernel
theorem dX11_judge_137 : decode cX11_judge 137 = .ok (.aload_n 3, 1) := by decide +kernel
theorem dX11_judge_138 : decode cX11_judge 138 = .ok (.invokevirtual 135, 3) := by decide +kernel
theorem dX11_judge_141 : decode cX11_judge 141 = .ok (.aload_n 3, 1) := by decide +kernel
theorem dX11_judge_142 : decode cX11_judge 142 = .ok (.invokevirtual 138, 3) := by decide +kernel
theorem dX11_judge_145 : decode cX11_judge 145 = .ok (.istore 4, 2) := by decide +kernel
theorem dX11_judge_147 : decode cX11_judge 147 = .ok (.iinc 5 1, 3) := by decide +kernel
theorem dX11_judge_150 : decode cX11_judge 150 = .ok (.goto (-26), 3) := by decide +kernel
theorem dX11_judge_153 : decode cX11_judge 153 = .ok (.aload_n 3, 1) := by decide +kernel
theorem dX11_judge_154 : decode cX11_judge 154 = .ok (.invokevirtual 141, 3) := by decide +kernel
theorem dX11_judge_157 : decode cX11_judge 157 = .ok (.iconst 0, 1) := by decide +kernel
theorem dX11_judge_158 : decode cX11_judge 158 = .ok (.istore 5, 2) := by decide +kernel
theorem dX11_judge_160 : decode cX11_judge 160 = .ok (.iload 5, 2) := by decide +kernel
theorem dX11_judge_162 : decode cX11_judge 162 = .ok (.bipush 20, 2) := by decide +kernel
theorem dX11_judge_164 : decode cX11_judge 164 = .ok (.if_icmp .ge 15, 3) := by decide +kernel
theorem dX11_judge_167 : decode cX11_judge 167 = .ok (.aload_n 3, 1) := by decide +kernel
theorem dX11_judge_168 : decode cX11_judge 168 = .ok (.iload 5, 2) := by decide +kernel
theorem dX11_judge_170 : decode cX11_judge 170 = .ok (.invokevirtual 144, 3) := by decide +kernel
theorem dX11_judge_173 : decode cX11_judge 173 = .ok (.iinc 5 1, 3) := by decide +kernel
theorem dX11_judge_176 : decode cX11_judge 176 = .ok (.goto (-16), 3) := by decide +kernel
theorem dX11_judge_179 : decode cX11_judge 179 = .ok (.aload_n 3, 1) := by decide +kernel
theorem dX11_judge_180 : decode cX11_judge 180 = .ok (.getfield 147, 3) := by decide +kernel
theorem dX11_judge_183 : decode cX11_judge 183 = .ok (.iconst 1, 1) := by decide +kernel
theorem dX11_judge_184 : decode cX11_judge 184 = .ok (.iaload, 1) := by decide +kernel
theorem dX11_judge_185 : decode cX11_judge 185 = .ok (.ireturn, 1) := by decide +kernel
def fX11_judge_160F (k160 : PH → Option Nat → Int32 → Option (PH × Int32 × Nat × Nat)) (h : PH) (x3 : Option Nat) (x5 : Int32) : Option (PH × Int32 × Nat × Nat) :=
  if 20 ≤ x5 then (oN x3 (fun a2 => oC (decide (hT h a2 = 6)) (oN (hR h 656 a2) (fun a4 => oC (decide (hT h a4 = 101)) (oC (ix 1 (hN h a4)) (some (h, (hA h a4 (Int32.toNatClampNeg 1)), 0, 0))))))) else (oN x3 (fun a7 => oC (decide (hT h a7 = 6)) (oB (fX5_reckon h a7 x5) (fun h10 => oL (x5 + 1) (fun y11 => k160 h10 x3 y11)))))
set_option maxHeartbeats 4000000 in
theorem wfX11_judge_160F {mc ms cells slots : Nat} {args : Array Value} (b : Bd p s m c cX11_judge 6 RX11 D aC) (hlk : meth.locks = false) (hr : meth.sig.returnType = some .int) {Z : State → Prop} (zs : Z s) (zk : ZOK Z (Rg ad)) {hz : PH} {rz : Int32} {k160 : PH → Option Nat → Int32 → Option (PH × Int32 × Nat × Nat)} (H160 : ∀ (h : PH) (x3 : Option Nat) (x5 : Int32), ∀ (cells slots kz mz : Nat) (H : Heap) (locs : List Loc) (ls : Array Slot), k160 h x3 x5 = some (hz, rz, kz, mz) → cells + kz ≤ mc → slots + mz ≤ ms → CE (EX D aC ad h) (Rg ad) s H locs → lv_has ls 6 [(3, va_rf (Option.map ad x3)), (5, .int x5)] → W p l e (RM 7 178 mc ms) s m args below meth c H locs cells slots (MQ below (PQ (EX D aC ad hz) (Rg ad) (some (.int rz))) args s mc ms (Rg ad)) (F0 m 160 ls [])) {h : PH} {x3 : Option Nat} {x5 : Int32} {kz : Nat} {mz : Nat}  {H : Heap} {locs : List Loc} {ls : Array Slot} (hf : fX11_judge_160F k160 h x3 x5 = some (hz, rz, kz, mz)) (hk : cells + kz ≤ mc) (hs : slots + mz ≤ ms) (hE : CE (EX D aC ad h) (Rg ad) s H locs) (hl : lv_has ls 6 [(3, va_rf (Option.map ad x3)), (5, .int x5)]) : W p l e (RM 7 178 mc ms) s m args below meth c H locs cells slots (MQ below (PQ (EX D aC ad hz) (Rg ad) (some (.int rz))) args s mc ms (Rg ad)) (F0 m 160 ls []) := by
  unfold fX11_judge_160F at hf
  refine lv_iload b.1 b.2.1 dX11_judge_160 (lv_at hl 1 rfl) ?_
  refine lv_bipush (v := 20) b.1 b.2.1 dX11_judge_162 (by decide) ?_
  refine lv_icmp_ge (tgt := 179) b.1 b.2.1 dX11_judge_164 (by decide) (fun c1 => ?_) (fun c1 => ?_)
  · have hf := oI_t c1 hf
    refine k_aload_n (x := Option.map ad x3) b dX11_judge_179 rfl (lv_at hl 0 rfl) ?_
    obtain ⟨a2, ea2, hf⟩ := oN_s hf
    obtain ⟨t3, hf⟩ := oC_s hf
    have t3 := of_decide_eq_true t3
    refine gX11_147 (x := x3) b hE ea2 t3 dX11_judge_180 ?_
    refine lv_iconst (v := 1) b.1 b.2.1 dX11_judge_183 (by decide) ?_
    obtain ⟨a4, ea4, hf⟩ := oN_s hf
    obtain ⟨t5, hf⟩ := oC_s hf
    have t5 := of_decide_eq_true t5
    obtain ⟨g6, hf⟩ := oC_s hf
    refine q_iald (x := (hR h 656 a2)) b hE ea4 t5 g6 dX11_judge_184 ?_
    cases hf
    exact k_iret b hlk hr hE (le_c hk) (le_c hs) dX11_judge_185
  · have hf := oI_f c1 hf
    refine k_aload_n (x := Option.map ad x3) b dX11_judge_167 rfl (lv_at hl 0 rfl) ?_
    refine lv_iload b.1 b.2.1 dX11_judge_168 (lv_at hl 1 rfl) ?_
    obtain ⟨a7, ea7, hf⟩ := oN_s hf
    obtain ⟨t8, hf⟩ := oC_s hf
    have t8 := of_decide_eq_true t8
    obtain ⟨h10, hc9, hf⟩ := oB_s hf
    refine k_stk [.int x5] ea7 ?_
    refine k_callV0 (C := RX5) b zs zk hE (CX5_reckon l D aC ad zk hc9) mc_X5_reckon (in5 67 rfl rfl) mi_X5_reckon ms_X5_reckon ini_RX5 ok_X5_reckon (x_recv b hE (ci := 5) rfl (by decide) t8) ⟨Nat.le_of_ble_eq_true rfl, Nat.le_of_ble_eq_true rfl⟩ rfl hl.1 rfl (k_room _ (by exact Nat.le_of_ble_eq_true rfl)) ⟨le_0 hk, le_0 hs⟩ dX11_judge_170 (fun H locs hE => ?_)
    obtain ⟨y11, ey11, hf⟩ := oL_s hf
    refine lv_iinc (v := y11) (lv' := [(5, .int y11), (3, va_rf (Option.map ad x3))]) b.1 b.2.1 dX11_judge_173 hl (k := 1) rfl (by rw [ey11]; rfl) (by decide) rfl (fun ls hl => ?_)
    refine lv_goto (tgt := 160) b.1 b.2.1 dX11_judge_176 (by decide) ?_
    exact H160 h10 x3 y11 _ _ _ _ _ _ _ hf hk hs hE (lv_sub hl [1, 0] rfl)
def fX11_judge_160  : Nat → PH → Option Nat → Int32 → Option (PH × Int32 × Nat × Nat)
  | 0 => fun _ _ _ => none
  | n + 1 => fX11_judge_160F  (fX11_judge_160  n)
set_option maxHeartbeats 4000000 in
theorem wfX11_judge_160 {mc ms : Nat} {args : Array Value} (b : Bd p s m c cX11_judge 6 RX11 D aC) (hlk : meth.locks = false) (hr : meth.sig.returnType = some .int) {Z : State → Prop} (zs : Z s) (zk : ZOK Z (Rg ad)) {hz : PH} {rz : Int32} : ∀ n : Nat, ∀ (h : PH) (x3 : Option Nat) (x5 : Int32), ∀ (cells slots kz mz : Nat) (H : Heap) (locs : List Loc) (ls : Array Slot), fX11_judge_160  n h x3 x5 = some (hz, rz, kz, mz) → cells + kz ≤ mc → slots + mz ≤ ms → CE (EX D aC ad h) (Rg ad) s H locs → lv_has ls 6 [(3, va_rf (Option.map ad x3)), (5, .int x5)] → W p l e (RM 7 178 mc ms) s m args below meth c H locs cells slots (MQ below (PQ (EX D aC ad hz) (Rg ad) (some (.int rz))) args s mc ms (Rg ad)) (F0 m 160 ls []) := by
  intro n
  induction n with
  | zero =>
    intro h x3 x5 cells slots kz mz H locs ls hf
    have hf : (none : Option (PH × Int32 × Nat × Nat)) = some _ := hf
    cases hf
  | succ n ih =>
    intro h x3 x5 cells slots kz mz H locs ls hf hk hs hE hl
    exact wfX11_judge_160F b hlk hr zs zk  ih hf hk hs hE hl
def fX11_judge_153  (h : PH) (x3 : Option Nat) : Option (PH × Int32 × Nat × Nat) :=
  oN x3 (fun a12 => oC (decide (hT h a12 = 6)) (oB (fX5_explain h a12) (fun h15 => fX11_judge_160  FU h15 x3 0)))
set_option maxHeartbeats 4000000 in
theorem wfX11_judge_153 {mc ms cells slots : Nat} {args : Array Value} (b : Bd p s m c cX11_judge 6 RX11 D aC) (hlk : meth.locks = false) (hr : meth.sig.returnType = some .int) {Z : State → Prop} (zs : Z s) (zk : ZOK Z (Rg ad)) {hz : PH} {rz : Int32} {h : PH} {x3 : Option Nat} {kz : Nat} {mz : Nat}  {H : Heap} {locs : List Loc} {ls : Array Slot} (hf : fX11_judge_153 h x3 = some (hz, rz, kz, mz)) (hk : cells + kz ≤ mc) (hs : slots + mz ≤ ms) (hE : CE (EX D aC ad h) (Rg ad) s H locs) (hl : lv_has ls 6 [(3, va_rf (Option.map ad x3))]) : W p l e (RM 7 178 mc ms) s m args below meth c H locs cells slots (MQ below (PQ (EX D aC ad hz) (Rg ad) (some (.int rz))) args s mc ms (Rg ad)) (F0 m 153 ls []) := by
  unfold fX11_judge_153 at hf
  refine k_aload_n (x := Option.map ad x3) b dX11_judge_153 rfl (lv_at hl 0 rfl) ?_
  obtain ⟨a12, ea12, hf⟩ := oN_s hf
  obtain ⟨t13, hf⟩ := oC_s hf
  have t13 := of_decide_eq_true t13
  obtain ⟨h15, hc14, hf⟩ := oB_s hf
  refine k_stk [] ea12 ?_
  refine k_callV0 (C := RX5) b zs zk hE (CX5_explain l D aC ad zk hc14) mc_X5_explain (in5 59 rfl rfl) mi_X5_explain ms_X5_explain ini_RX5 ok_X5_explain (x_recv b hE (ci := 5) rfl (by decide) t13) ⟨Nat.le_of_ble_eq_true rfl, Nat.le_of_ble_eq_true rfl⟩ rfl hl.1 rfl (k_room _ (by exact Nat.le_of_ble_eq_true rfl)) ⟨le_0 hk, le_0 hs⟩ dX11_judge_154 (fun H locs hE => ?_)
  refine lv_iconst (v := 0) b.1 b.2.1 dX11_judge_157 (by decide) ?_
  refine lv_istore (lv' := [(5, .int 0), (3, va_rf (Option.map ad x3))]) b.1 b.2.1 dX11_judge_158 hl (by decide) rfl (fun ls hl => ?_)
  exact wfX11_judge_160 b hlk hr zs zk  FU h15 x3 0 _ _ _ _ _ _ _ hf hk hs hE (lv_sub hl [1, 0] rfl)
def fX11_judge_124F (k124 : PH → Option Nat → Int32 → Int32 → Option (PH × Int32 × Nat × Nat)) (h : PH) (x3 : Option Nat) (x4 : Int32) (x5 : Int32) : Option (PH × Int32 × Nat × Nat) :=
  if 600 < x5 then (fX11_judge_153  h x3) else (if x4 = 0 then (fX11_judge_153  h x3) else (oN x3 (fun a18 => oC (decide (hT h a18 = 6)) (oB (fX5_settleInstances h a18) (fun h21 => oC (decide (hT h21 a18 = 6)) (oB2 (fX5_settleLiterals h21 a18) (fun h25 r24 => oL (x5 + 1) (fun y26 => k124 h25 x3 r24 y26))))))))
set_option maxHeartbeats 4000000 in
theorem wfX11_judge_124F {mc ms cells slots : Nat} {args : Array Value} (b : Bd p s m c cX11_judge 6 RX11 D aC) (hlk : meth.locks = false) (hr : meth.sig.returnType = some .int) {Z : State → Prop} (zs : Z s) (zk : ZOK Z (Rg ad)) {hz : PH} {rz : Int32} {k124 : PH → Option Nat → Int32 → Int32 → Option (PH × Int32 × Nat × Nat)} (H124 : ∀ (h : PH) (x3 : Option Nat) (x4 : Int32) (x5 : Int32), ∀ (cells slots kz mz : Nat) (H : Heap) (locs : List Loc) (ls : Array Slot), k124 h x3 x4 x5 = some (hz, rz, kz, mz) → cells + kz ≤ mc → slots + mz ≤ ms → CE (EX D aC ad h) (Rg ad) s H locs → lv_has ls 6 [(3, va_rf (Option.map ad x3)), (4, .int x4), (5, .int x5)] → W p l e (RM 7 178 mc ms) s m args below meth c H locs cells slots (MQ below (PQ (EX D aC ad hz) (Rg ad) (some (.int rz))) args s mc ms (Rg ad)) (F0 m 124 ls [])) {h : PH} {x3 : Option Nat} {x4 : Int32} {x5 : Int32} {kz : Nat} {mz : Nat}  {H : Heap} {locs : List Loc} {ls : Array Slot} (hf : fX11_judge_124F k124 h x3 x4 x5 = some (hz, rz, kz, mz)) (hk : cells + kz ≤ mc) (hs : slots + mz ≤ ms) (hE : CE (EX D aC ad h) (Rg ad) s H locs) (hl : lv_has ls 6 [(3, va_rf (Option.map ad x3)), (4, .int x4), (5, .int x5)]) : W p l e (RM 7 178 mc ms) s m args below meth c H locs cells slots (MQ below (PQ (EX D aC ad hz) (Rg ad) (some (.int rz))) args s mc ms (Rg ad)) (F0 m 124 ls []) := by
  unfold fX11_judge_124F at hf
  refine lv_iload b.1 b.2.1 dX11_judge_124 (lv_at hl 2 rfl) ?_
  refine lv_sipush (v := 600) b.1 b.2.1 dX11_judge_126 (by decide) ?_
  refine lv_icmp_gt (tgt := 153) b.1 b.2.1 dX11_judge_129 (by decide) (fun c16 => ?_) (fun c16 => ?_)
  · have hf := oI_t c16 hf
    exact wfX11_judge_153 b hlk hr zs zk  hf hk hs hE (lv_sub hl [0] rfl)
  · have hf := oI_f c16 hf
    refine lv_iload b.1 b.2.1 dX11_judge_132 (lv_at hl 1 rfl) ?_
    refine lv_if_eq (tgt := 153) b.1 b.2.1 dX11_judge_134 (by decide) (fun c17 => ?_) (fun c17 => ?_)
    · have hf := oI_t c17 hf
      exact wfX11_judge_153 b hlk hr zs zk  hf hk hs hE (lv_sub hl [0] rfl)
    · have hf := oI_f c17 hf
      refine k_aload_n (x := Option.map ad x3) b dX11_judge_137 rfl (lv_at hl 0 rfl) ?_
      obtain ⟨a18, ea18, hf⟩ := oN_s hf
      obtain ⟨t19, hf⟩ := oC_s hf
      have t19 := of_decide_eq_true t19
      obtain ⟨h21, hc20, hf⟩ := oB_s hf
      refine k_stk [] ea18 ?_
      refine k_callV0 (C := RX5) b zs zk hE (CX5_settleInstances l D aC ad zk hc20) mc_X5_settleInstances (in5 27 rfl rfl) mi_X5_settleInstances ms_X5_settleInstances ini_RX5 ok_X5_settleInstances (x_recv b hE (ci := 5) rfl (by decide) t19) ⟨Nat.le_of_ble_eq_true rfl, Nat.le_of_ble_eq_true rfl⟩ rfl hl.1 rfl (k_room _ (by exact Nat.le_of_ble_eq_true rfl)) ⟨le_0 hk, le_0 hs⟩ dX11_judge_138 (fun H locs hE => ?_)
      refine k_aload_n (x := Option.map ad x3) b dX11_judge_141 rfl (lv_at hl 0 rfl) ?_
      obtain ⟨t22, hf⟩ := oC_s hf
      have t22 := of_decide_eq_true t22
      obtain ⟨h25, r24, hc23, hf⟩ := oB2_s hf
      refine k_stk [] ea18 ?_
      refine k_callV0 (C := RX5) b zs zk hE (CX5_settleLiterals l D aC ad zk hc23) mc_X5_settleLiterals (in5 39 rfl rfl) mi_X5_settleLiterals ms_X5_settleLiterals ini_RX5 ok_X5_settleLiterals (x_recv b hE (ci := 5) rfl (by decide) t22) ⟨Nat.le_of_ble_eq_true rfl, Nat.le_of_ble_eq_true rfl⟩ rfl hl.1 rfl (k_room _ (by exact Nat.le_of_ble_eq_true rfl)) ⟨le_0 hk, le_0 hs⟩ dX11_judge_142 (fun H locs hE => ?_)
      refine lv_istore (lv' := [(4, .int r24), (3, va_rf (Option.map ad x3)), (5, .int x5)]) b.1 b.2.1 dX11_judge_145 hl (by decide) (by cases x3 <;> rfl) (fun ls hl => ?_)
      obtain ⟨y26, ey26, hf⟩ := oL_s hf
      refine lv_iinc (v := y26) (lv' := [(5, .int y26), (4, .int r24), (3, va_rf (Option.map ad x3))]) b.1 b.2.1 dX11_judge_147 hl (k := 2) rfl (by rw [ey26]; rfl) (by decide) rfl (fun ls hl => ?_)
      refine lv_goto (tgt := 124) b.1 b.2.1 dX11_judge_150 (by decide) ?_
      exact H124 h25 x3 r24 y26 _ _ _ _ _ _ _ hf hk hs hE (lv_sub hl [2, 1, 0] rfl)
def fX11_judge_124  : Nat → PH → Option Nat → Int32 → Int32 → Option (PH × Int32 × Nat × Nat)
  | 0 => fun _ _ _ _ => none
  | n + 1 => fX11_judge_124F  (fX11_judge_124  n)
set_option maxHeartbeats 4000000 in
theorem wfX11_judge_124 {mc ms : Nat} {args : Array Value} (b : Bd p s m c cX11_judge 6 RX11 D aC) (hlk : meth.locks = false) (hr : meth.sig.returnType = some .int) {Z : State → Prop} (zs : Z s) (zk : ZOK Z (Rg ad)) {hz : PH} {rz : Int32} : ∀ n : Nat, ∀ (h : PH) (x3 : Option Nat) (x4 : Int32) (x5 : Int32), ∀ (cells slots kz mz : Nat) (H : Heap) (locs : List Loc) (ls : Array Slot), fX11_judge_124  n h x3 x4 x5 = some (hz, rz, kz, mz) → cells + kz ≤ mc → slots + mz ≤ ms → CE (EX D aC ad h) (Rg ad) s H locs → lv_has ls 6 [(3, va_rf (Option.map ad x3)), (4, .int x4), (5, .int x5)] → W p l e (RM 7 178 mc ms) s m args below meth c H locs cells slots (MQ below (PQ (EX D aC ad hz) (Rg ad) (some (.int rz))) args s mc ms (Rg ad)) (F0 m 124 ls []) := by
  intro n
  induction n with
  | zero =>
    intro h x3 x4 x5 cells slots kz mz H locs ls hf
    have hf : (none : Option (PH × Int32 × Nat × Nat)) = some _ := hf
    cases hf
  | succ n ih =>
    intro h x3 x4 x5 cells slots kz mz H locs ls hf hk hs hE hl
    exact wfX11_judge_124F b hlk hr zs zk  ih hf hk hs hE hl
def fX11_judge_89F (k89 : PH → Nat → Int32 → Int32 → Option Nat → Int32 → Option (PH × Int32 × Nat × Nat)) (h : PH) (x0 : Nat) (x1 : Int32) (x2 : Int32) (x3 : Option Nat) (x4 : Int32) : Option (PH × Int32 × Nat × Nat) :=
  oC (decide (hT h x0 = 12)) (oN (hR h 1410 x0) (fun a28 => oC (decide (hT h a28 = 2)) (oN (hR h 132 a28) (fun a30 => oC (decide (hT h a30 = 8)) (if (hI h 897 a30) ≤ x4 then (fX11_judge_124  FU h x3 1 0) else (oN x3 (fun a33 => oC (decide (hT h a33 = 6)) (oB3 (fX5_gather h a33 x4 x1 x2) (fun h36 i37 j38 => oK4 i37 j38 (oL (x4 + 1) (fun y41 => k89 h36 x0 x1 x2 x3 y41)))))))))))
set_option maxHeartbeats 4000000 in
theorem wfX11_judge_89F {mc ms cells slots : Nat} {args : Array Value} (b : Bd p s m c cX11_judge 6 RX11 D aC) (hlk : meth.locks = false) (hr : meth.sig.returnType = some .int) {Z : State → Prop} (zs : Z s) (zk : ZOK Z (Rg ad)) {hz : PH} {rz : Int32} {k89 : PH → Nat → Int32 → Int32 → Option Nat → Int32 → Option (PH × Int32 × Nat × Nat)} (H89 : ∀ (h : PH) (x0 : Nat) (x1 : Int32) (x2 : Int32) (x3 : Option Nat) (x4 : Int32), ∀ (cells slots kz mz : Nat) (H : Heap) (locs : List Loc) (ls : Array Slot), k89 h x0 x1 x2 x3 x4 = some (hz, rz, kz, mz) → cells + kz ≤ mc → slots + mz ≤ ms → CE (EX D aC ad h) (Rg ad) s H locs → lv_has ls 6 [(0, .ref (ad x0)), (1, .int x1), (2, .int x2), (3, va_rf (Option.map ad x3)), (4, .int x4)] → W p l e (RM 7 178 mc ms) s m args below meth c H locs cells slots (MQ below (PQ (EX D aC ad hz) (Rg ad) (some (.int rz))) args s mc ms (Rg ad)) (F0 m 89 ls [])) {h : PH} {x0 : Nat} {x1 : Int32} {x2 : Int32} {x3 : Option Nat} {x4 : Int32} {kz : Nat} {mz : Nat}  {H : Heap} {locs : List Loc} {ls : Array Slot} (hf : fX11_judge_89F k89 h x0 x1 x2 x3 x4 = some (hz, rz, kz, mz)) (hk : cells + kz ≤ mc) (hs : slots + mz ≤ ms) (hE : CE (EX D aC ad h) (Rg ad) s H locs) (hl : lv_has ls 6 [(0, .ref (ad x0)), (1, .int x1), (2, .int x2), (3, va_rf (Option.map ad x3)), (4, .int x4)]) : W p l e (RM 7 178 mc ms) s m args below meth c H locs cells slots (MQ below (PQ (EX D aC ad hz) (Rg ad) (some (.int rz))) args s mc ms (Rg ad)) (F0 m 89 ls []) := by
  unfold fX11_judge_89F at hf
  refine lv_iload b.1 b.2.1 dX11_judge_89 (lv_at hl 4 rfl) ?_
  refine lv_aload_n b.1 b.2.1 dX11_judge_91 rfl (lv_at hl 0 rfl) ?_
  obtain ⟨t27, hf⟩ := oC_s hf
  have t27 := of_decide_eq_true t27
  refine gX11_22 (x := (some x0)) b hE rfl t27 dX11_judge_92 ?_
  obtain ⟨a28, ea28, hf⟩ := oN_s hf
  obtain ⟨t29, hf⟩ := oC_s hf
  have t29 := of_decide_eq_true t29
  refine gX11_128 (x := (hR h 1410 x0)) b hE ea28 t29 dX11_judge_95 ?_
  obtain ⟨a30, ea30, hf⟩ := oN_s hf
  obtain ⟨t31, hf⟩ := oC_s hf
  have t31 := of_decide_eq_true t31
  refine gX11_84 (x := (hR h 132 a28)) b hE ea30 t31 dX11_judge_98 ?_
  refine lv_icmp_ge (tgt := 118) b.1 b.2.1 dX11_judge_101 (by decide) (fun c32 => ?_) (fun c32 => ?_)
  · have hf := oI_t c32 hf
    refine lv_iconst (v := 1) b.1 b.2.1 dX11_judge_118 (by decide) ?_
    refine lv_istore (lv' := [(4, .int 1), (0, .ref (ad x0)), (1, .int x1), (2, .int x2), (3, va_rf (Option.map ad x3))]) b.1 b.2.1 dX11_judge_119 hl (by decide) (by cases x3 <;> rfl) (fun ls hl => ?_)
    have hl := lv_sub (l' := [(4, .int 1), (3, va_rf (Option.map ad x3))]) hl [0, 4] rfl
    refine lv_iconst (v := 0) b.1 b.2.1 dX11_judge_121 (by decide) ?_
    refine lv_istore (lv' := [(5, .int 0), (4, .int 1), (3, va_rf (Option.map ad x3))]) b.1 b.2.1 dX11_judge_122 hl (by decide) rfl (fun ls hl => ?_)
    exact wfX11_judge_124 b hlk hr zs zk  FU h x3 1 0 _ _ _ _ _ _ _ hf hk hs hE (lv_sub hl [2, 1, 0] rfl)
  · have hf := oI_f c32 hf
    refine k_aload_n (x := Option.map ad x3) b dX11_judge_104 rfl (lv_at hl 3 rfl) ?_
    refine lv_iload b.1 b.2.1 dX11_judge_105 (lv_at hl 4 rfl) ?_
    refine lv_iload_n b.1 b.2.1 dX11_judge_107 rfl (lv_at hl 1 rfl) ?_
    refine lv_iload_n b.1 b.2.1 dX11_judge_108 rfl (lv_at hl 2 rfl) ?_
    obtain ⟨a33, ea33, hf⟩ := oN_s hf
    obtain ⟨t34, hf⟩ := oC_s hf
    have t34 := of_decide_eq_true t34
    obtain ⟨h36, i37, j38, hc35, hf⟩ := oB3_s hf
    obtain ⟨i39, j40, ei39, ej40, hf⟩ := oK4_s hf
    refine k_stk [.int x2, .int x1, .int x4] ea33 ?_
    refine k_callV (C := RX5) b zs zk hE (CX5_gather l D aC ad zk hc35) mc_X5_gather (in4 170 rfl rfl) mi_X5_gather ms_X5_gather ini_RX5 ok_X5_gather (x_recv b hE (ci := 5) rfl (by decide) t34) ⟨Nat.le_of_ble_eq_true rfl, Nat.le_of_ble_eq_true rfl⟩ rfl hl.1 rfl (k_room _ (by exact Nat.le_of_ble_eq_true rfl)) ⟨le_room hk ei39, le_room hs ej40⟩ dX11_judge_109 (fun H locs hE => ?_)
    have hk := le_step hk ei39
    have hs := le_step hs ej40
    obtain ⟨y41, ey41, hf⟩ := oL_s hf
    refine lv_iinc (v := y41) (lv' := [(4, .int y41), (0, .ref (ad x0)), (1, .int x1), (2, .int x2), (3, va_rf (Option.map ad x3))]) b.1 b.2.1 dX11_judge_112 hl (k := 4) rfl (by rw [ey41]; rfl) (by decide) (by cases x3 <;> rfl) (fun ls hl => ?_)
    refine lv_goto (tgt := 89) b.1 b.2.1 dX11_judge_115 (by decide) ?_
    exact H89 h36 x0 x1 x2 x3 y41 _ _ _ _ _ _ _ hf hk hs hE (lv_sub hl [1, 2, 3, 4, 0] rfl)
def fX11_judge_89  : Nat → PH → Nat → Int32 → Int32 → Option Nat → Int32 → Option (PH × Int32 × Nat × Nat)
  | 0 => fun _ _ _ _ _ _ => none
  | n + 1 => fX11_judge_89F  (fX11_judge_89  n)
set_option maxHeartbeats 4000000 in
theorem wfX11_judge_89 {mc ms : Nat} {args : Array Value} (b : Bd p s m c cX11_judge 6 RX11 D aC) (hlk : meth.locks = false) (hr : meth.sig.returnType = some .int) {Z : State → Prop} (zs : Z s) (zk : ZOK Z (Rg ad)) {hz : PH} {rz : Int32} : ∀ n : Nat, ∀ (h : PH) (x0 : Nat) (x1 : Int32) (x2 : Int32) (x3 : Option Nat) (x4 : Int32), ∀ (cells slots kz mz : Nat) (H : Heap) (locs : List Loc) (ls : Array Slot), fX11_judge_89  n h x0 x1 x2 x3 x4 = some (hz, rz, kz, mz) → cells + kz ≤ mc → slots + mz ≤ ms → CE (EX D aC ad h) (Rg ad) s H locs → lv_has ls 6 [(0, .ref (ad x0)), (1, .int x1), (2, .int x2), (3, va_rf (Option.map ad x3)), (4, .int x4)] → W p l e (RM 7 178 mc ms) s m args below meth c H locs cells slots (MQ below (PQ (EX D aC ad hz) (Rg ad) (some (.int rz))) args s mc ms (Rg ad)) (F0 m 89 ls []) := by
  intro n
  induction n with
  | zero =>
    intro h x0 x1 x2 x3 x4 cells slots kz mz H locs ls hf
    have hf : (none : Option (PH × Int32 × Nat × Nat)) = some _ := hf
    cases hf
  | succ n ih =>
    intro h x0 x1 x2 x3 x4 cells slots kz mz H locs ls hf hk hs hE hl
    exact wfX11_judge_89F b hlk hr zs zk  ih hf hk hs hE hl
def fX11_judge_54F (k54 : PH → Nat → Int32 → Int32 → Option Nat → Int32 → Option (PH × Int32 × Nat × Nat)) (h : PH) (x0 : Nat) (x1 : Int32) (x2 : Int32) (x3 : Option Nat) (x4 : Int32) : Option (PH × Int32 × Nat × Nat) :=
  oC (decide (hT h x0 = 12)) (if (hI h 1413 x0) ≤ x4 then (oN x3 (fun a44 => oC (decide (hT h a44 = 6)) (oB (fX5_findFacts h a44) (fun h47 => fX11_judge_89  FU h47 x0 x1 x2 x3 0)))) else (oN (hR h 1412 x0) (fun a48 => oC (decide (hT h a48 = 106)) (oC (ix x4 (hN h a48)) (oN x3 (fun a51 => oC (decide (hT h a51 = 6)) (oB (fX5_hear h a51 (hC h a48 (Int32.toNatClampNeg x4)) x1 x2) (fun h54 => oL (x4 + 1) (fun y55 => k54 h54 x0 x1 x2 x3 y55)))))))))
set_option maxHeartbeats 4000000 in
theorem wfX11_judge_54F {mc ms cells slots : Nat} {args : Array Value} (b : Bd p s m c cX11_judge 6 RX11 D aC) (hlk : meth.locks = false) (hr : meth.sig.returnType = some .int) {Z : State → Prop} (zs : Z s) (zk : ZOK Z (Rg ad)) {hz : PH} {rz : Int32} {k54 : PH → Nat → Int32 → Int32 → Option Nat → Int32 → Option (PH × Int32 × Nat × Nat)} (H54 : ∀ (h : PH) (x0 : Nat) (x1 : Int32) (x2 : Int32) (x3 : Option Nat) (x4 : Int32), ∀ (cells slots kz mz : Nat) (H : Heap) (locs : List Loc) (ls : Array Slot), k54 h x0 x1 x2 x3 x4 = some (hz, rz, kz, mz) → cells + kz ≤ mc → slots + mz ≤ ms → CE (EX D aC ad h) (Rg ad) s H locs → lv_has ls 6 [(0, .ref (ad x0)), (1, .int x1), (2, .int x2), (3, va_rf (Option.map ad x3)), (4, .int x4)] → W p l e (RM 7 178 mc ms) s m args below meth c H locs cells slots (MQ below (PQ (EX D aC ad hz) (Rg ad) (some (.int rz))) args s mc ms (Rg ad)) (F0 m 54 ls [])) {h : PH} {x0 : Nat} {x1 : Int32} {x2 : Int32} {x3 : Option Nat} {x4 : Int32} {kz : Nat} {mz : Nat}  {H : Heap} {locs : List Loc} {ls : Array Slot} (hf : fX11_judge_54F k54 h x0 x1 x2 x3 x4 = some (hz, rz, kz, mz)) (hk : cells + kz ≤ mc) (hs : slots + mz ≤ ms) (hE : CE (EX D aC ad h) (Rg ad) s H locs) (hl : lv_has ls 6 [(0, .ref (ad x0)), (1, .int x1), (2, .int x2), (3, va_rf (Option.map ad x3)), (4, .int x4)]) : W p l e (RM 7 178 mc ms) s m args below meth c H locs cells slots (MQ below (PQ (EX D aC ad hz) (Rg ad) (some (.int rz))) args s mc ms (Rg ad)) (F0 m 54 ls []) := by
  unfold fX11_judge_54F at hf
  refine lv_iload b.1 b.2.1 dX11_judge_54 (lv_at hl 4 rfl) ?_
  refine lv_aload_n b.1 b.2.1 dX11_judge_56 rfl (lv_at hl 0 rfl) ?_
  obtain ⟨t42, hf⟩ := oC_s hf
  have t42 := of_decide_eq_true t42
  refine gX11_97 (x := (some x0)) b hE rfl t42 dX11_judge_57 ?_
  refine lv_icmp_ge (tgt := 82) b.1 b.2.1 dX11_judge_60 (by decide) (fun c43 => ?_) (fun c43 => ?_)
  · have hf := oI_t c43 hf
    refine k_aload_n (x := Option.map ad x3) b dX11_judge_82 rfl (lv_at hl 3 rfl) ?_
    obtain ⟨a44, ea44, hf⟩ := oN_s hf
    obtain ⟨t45, hf⟩ := oC_s hf
    have t45 := of_decide_eq_true t45
    obtain ⟨h47, hc46, hf⟩ := oB_s hf
    refine k_stk [] ea44 ?_
    refine k_callV0 (C := RX5) b zs zk hE (CX5_findFacts l D aC ad zk hc46) mc_X5_findFacts (in4 166 rfl rfl) mi_X5_findFacts ms_X5_findFacts ini_RX5 ok_X5_findFacts (x_recv b hE (ci := 5) rfl (by decide) t45) ⟨Nat.le_of_ble_eq_true rfl, Nat.le_of_ble_eq_true rfl⟩ rfl hl.1 rfl (k_room _ (by exact Nat.le_of_ble_eq_true rfl)) ⟨le_0 hk, le_0 hs⟩ dX11_judge_83 (fun H locs hE => ?_)
    refine lv_iconst (v := 0) b.1 b.2.1 dX11_judge_86 (by decide) ?_
    refine lv_istore (lv' := [(4, .int 0), (0, .ref (ad x0)), (1, .int x1), (2, .int x2), (3, va_rf (Option.map ad x3))]) b.1 b.2.1 dX11_judge_87 hl (by decide) (by cases x3 <;> rfl) (fun ls hl => ?_)
    exact wfX11_judge_89 b hlk hr zs zk  FU h47 x0 x1 x2 x3 0 _ _ _ _ _ _ _ hf hk hs hE (lv_sub hl [1, 2, 3, 4, 0] rfl)
  · have hf := oI_f c43 hf
    refine k_aload_n (x := Option.map ad x3) b dX11_judge_63 rfl (lv_at hl 3 rfl) ?_
    refine lv_aload_n b.1 b.2.1 dX11_judge_64 rfl (lv_at hl 0 rfl) ?_
    refine gX11_37 (x := (some x0)) b hE rfl t42 dX11_judge_65 ?_
    refine lv_iload b.1 b.2.1 dX11_judge_68 (lv_at hl 4 rfl) ?_
    obtain ⟨a48, ea48, hf⟩ := oN_s hf
    obtain ⟨t49, hf⟩ := oC_s hf
    have t49 := of_decide_eq_true t49
    obtain ⟨g50, hf⟩ := oC_s hf
    refine q_aald6 (x := (hR h 1412 x0)) b hE ea48 t49 g50 dX11_judge_70 ?_
    refine lv_iload_n b.1 b.2.1 dX11_judge_71 rfl (lv_at hl 1 rfl) ?_
    refine lv_iload_n b.1 b.2.1 dX11_judge_72 rfl (lv_at hl 2 rfl) ?_
    obtain ⟨a51, ea51, hf⟩ := oN_s hf
    obtain ⟨t52, hf⟩ := oC_s hf
    have t52 := of_decide_eq_true t52
    obtain ⟨h54, hc53, hf⟩ := oB_s hf
    refine k_stk [.int x2, .int x1, va_rf (Option.map ad (hC h a48 (Int32.toNatClampNeg x4)))] ea51 ?_
    refine k_callV0 (C := RX5) b zs zk hE (CX5_hear l D aC ad zk hc53) mc_X5_hear (in4 158 rfl rfl) mi_X5_hear ms_X5_hear ini_RX5 ok_X5_hear (x_recv b hE (ci := 5) rfl (by decide) t52) ⟨Nat.le_of_ble_eq_true rfl, Nat.le_of_ble_eq_true rfl⟩ rfl hl.1 rfl (k_room _ (by exact Nat.le_of_ble_eq_true rfl)) ⟨le_0 hk, le_0 hs⟩ dX11_judge_73 (fun H locs hE => ?_)
    obtain ⟨y55, ey55, hf⟩ := oL_s hf
    refine lv_iinc (v := y55) (lv' := [(4, .int y55), (0, .ref (ad x0)), (1, .int x1), (2, .int x2), (3, va_rf (Option.map ad x3))]) b.1 b.2.1 dX11_judge_76 hl (k := 4) rfl (by rw [ey55]; rfl) (by decide) (by cases x3 <;> rfl) (fun ls hl => ?_)
    refine lv_goto (tgt := 54) b.1 b.2.1 dX11_judge_79 (by decide) ?_
    exact H54 h54 x0 x1 x2 x3 y55 _ _ _ _ _ _ _ hf hk hs hE (lv_sub hl [1, 2, 3, 4, 0] rfl)
def fX11_judge_54  : Nat → PH → Nat → Int32 → Int32 → Option Nat → Int32 → Option (PH × Int32 × Nat × Nat)
  | 0 => fun _ _ _ _ _ _ => none
  | n + 1 => fX11_judge_54F  (fX11_judge_54  n)
set_option maxHeartbeats 4000000 in
theorem wfX11_judge_54 {mc ms : Nat} {args : Array Value} (b : Bd p s m c cX11_judge 6 RX11 D aC) (hlk : meth.locks = false) (hr : meth.sig.returnType = some .int) {Z : State → Prop} (zs : Z s) (zk : ZOK Z (Rg ad)) {hz : PH} {rz : Int32} : ∀ n : Nat, ∀ (h : PH) (x0 : Nat) (x1 : Int32) (x2 : Int32) (x3 : Option Nat) (x4 : Int32), ∀ (cells slots kz mz : Nat) (H : Heap) (locs : List Loc) (ls : Array Slot), fX11_judge_54  n h x0 x1 x2 x3 x4 = some (hz, rz, kz, mz) → cells + kz ≤ mc → slots + mz ≤ ms → CE (EX D aC ad h) (Rg ad) s H locs → lv_has ls 6 [(0, .ref (ad x0)), (1, .int x1), (2, .int x2), (3, va_rf (Option.map ad x3)), (4, .int x4)] → W p l e (RM 7 178 mc ms) s m args below meth c H locs cells slots (MQ below (PQ (EX D aC ad hz) (Rg ad) (some (.int rz))) args s mc ms (Rg ad)) (F0 m 54 ls []) := by
  intro n
  induction n with
  | zero =>
    intro h x0 x1 x2 x3 x4 cells slots kz mz H locs ls hf
    have hf : (none : Option (PH × Int32 × Nat × Nat)) = some _ := hf
    cases hf
  | succ n ih =>
    intro h x0 x1 x2 x3 x4 cells slots kz mz H locs ls hf hk hs hE hl
    exact wfX11_judge_54F b hlk hr zs zk  ih hf hk hs hE hl
def fX11_judge_41  (h : PH) (x0 : Nat) (x1 : Int32) (x2 : Int32) (s0 : Option Nat) : Option (PH × Int32 × Nat × Nat) :=
  oC (decide (hT h x0 = 12)) (oL (sR h 1416 x0 s0) (fun h57 => oN s0 (fun a58 => oC (decide (hT h57 a58 = 6)) (oB (fX5_begin h57 a58) (fun h61 => fX11_judge_54  FU h61 x0 x1 x2 s0 0)))))
set_option maxHeartbeats 4000000 in
theorem wfX11_judge_41 {mc ms cells slots : Nat} {args : Array Value} (b : Bd p s m c cX11_judge 6 RX11 D aC) (hlk : meth.locks = false) (hr : meth.sig.returnType = some .int) {Z : State → Prop} (zs : Z s) (zk : ZOK Z (Rg ad)) {hz : PH} {rz : Int32} {h : PH} {x0 : Nat} {x1 : Int32} {x2 : Int32} {s0 : Option Nat} {kz : Nat} {mz : Nat}  {H : Heap} {locs : List Loc} {ls : Array Slot} (hf : fX11_judge_41 h x0 x1 x2 s0 = some (hz, rz, kz, mz)) (hk : cells + kz ≤ mc) (hs : slots + mz ≤ ms) (hE : CE (EX D aC ad h) (Rg ad) s H locs) (hl : lv_has ls 6 [(0, .ref (ad x0)), (1, .int x1), (2, .int x2)]) : W p l e (RM 7 178 mc ms) s m args below meth c H locs cells slots (MQ below (PQ (EX D aC ad hz) (Rg ad) (some (.int rz))) args s mc ms (Rg ad)) (F0 m 41 ls [va_rf (Option.map ad s0)]) := by
  unfold fX11_judge_41 at hf
  refine k_astore_n (x := Option.map ad s0) (lv' := [(3, va_rf (Option.map ad s0)), (0, .ref (ad x0)), (1, .int x1), (2, .int x2)]) b dX11_judge_41 rfl hl (by decide) rfl (fun ls hl => ?_)
  refine lv_aload_n b.1 b.2.1 dX11_judge_42 rfl (lv_at hl 1 rfl) ?_
  refine k_aload_n (x := Option.map ad s0) b dX11_judge_43 rfl (lv_at hl 0 rfl) ?_
  obtain ⟨t56, hf⟩ := oC_s hf
  have t56 := of_decide_eq_true t56
  obtain ⟨h57, eh57, hf⟩ := oL_s hf
  refine pX11_112 (x := (some x0)) (v := s0) b hE rfl t56 eh57 dX11_judge_44 (fun H locs hE => ?_)
  refine k_aload_n (x := Option.map ad s0) b dX11_judge_47 rfl (lv_at hl 0 rfl) ?_
  obtain ⟨a58, ea58, hf⟩ := oN_s hf
  obtain ⟨t59, hf⟩ := oC_s hf
  have t59 := of_decide_eq_true t59
  obtain ⟨h61, hc60, hf⟩ := oB_s hf
  refine k_stk [] ea58 ?_
  refine k_callV0 (C := RX5) b zs zk hE (CX5_begin l D aC ad zk hc60) mc_X5_begin (in4 137 rfl rfl) mi_X5_begin ms_X5_begin ini_RX5 ok_X5_begin (x_recv b hE (ci := 5) rfl (by decide) t59) ⟨Nat.le_of_ble_eq_true rfl, Nat.le_of_ble_eq_true rfl⟩ rfl hl.1 rfl (k_room _ (by exact Nat.le_of_ble_eq_true rfl)) ⟨le_0 hk, le_0 hs⟩ dX11_judge_48 (fun H locs hE => ?_)
  refine lv_iconst (v := 0) b.1 b.2.1 dX11_judge_51 (by decide) ?_
  refine lv_istore (lv' := [(4, .int 0), (3, va_rf (Option.map ad s0)), (0, .ref (ad x0)), (1, .int x1), (2, .int x2)]) b.1 b.2.1 dX11_judge_52 hl (by decide) (by cases s0 <;> rfl) (fun ls hl => ?_)
  exact wfX11_judge_54 b hlk hr zs zk  FU h61 x0 x1 x2 s0 0 _ _ _ _ _ _ _ hf hk hs hE (lv_sub hl [2, 3, 4, 1, 0] rfl)
def fX11_judge_0  (h : PH) (x0 : Nat) (x1 : Int32) (x2 : Int32) : Option (PH × Int32 × Nat × Nat) :=
  oB (fX11_isDay x1) (fun r63 => if r63 = 0 then (some (h, (-1), 0, 0)) else (oB (fX11_isDay x2) (fun r66 => if r66 = 0 then (some (h, (-1), 0, 0)) else (oC (decide (hT h x0 = 12)) (if (hR h 1416 x0) = none then (oL (nO h 6) (fun h72 => oK4 1 19 (oB3 (fX5_init h72 (hZ h) (hR h72 1410 x0)) (fun h76 i77 j78 => oK4 i77 j78 (fX11_judge_41  h76 x0 x1 x2 (some (hZ h))))))) else (fX11_judge_41  h x0 x1 x2 (hR h 1416 x0)))))))
set_option maxHeartbeats 4000000 in
theorem wfX11_judge_0 {mc ms cells slots : Nat} {args : Array Value} (b : Bd p s m c cX11_judge 6 RX11 D aC) (hlk : meth.locks = false) (hr : meth.sig.returnType = some .int) {Z : State → Prop} (zs : Z s) (zk : ZOK Z (Rg ad)) {hz : PH} {rz : Int32} {h : PH} {x0 : Nat} {x1 : Int32} {x2 : Int32} {kz : Nat} {mz : Nat}  {H : Heap} {locs : List Loc} {ls : Array Slot} (hf : fX11_judge_0 h x0 x1 x2 = some (hz, rz, kz, mz)) (hk : cells + kz ≤ mc) (hs : slots + mz ≤ ms) (hE : CE (EX D aC ad h) (Rg ad) s H locs) (hl : lv_has ls 6 [(0, .ref (ad x0)), (1, .int x1), (2, .int x2)]) : W p l e (RM 7 178 mc ms) s m args below meth c H locs cells slots (MQ below (PQ (EX D aC ad hz) (Rg ad) (some (.int rz))) args s mc ms (Rg ad)) (F0 m 0 ls []) := by
  unfold fX11_judge_0 at hf
  refine lv_iload_n b.1 b.2.1 dX11_judge_0 rfl (lv_at hl 1 rfl) ?_
  obtain ⟨r63, hc62, hf⟩ := oB_s hf
  refine k_callS0 b zs zk hE (CX11_isDay l D aC zk hc62) mc_X11_isDay (in4 8 rfl rfl) mt_X11_isDay ini_RX11 ok_X11_isDay ⟨Nat.le_of_ble_eq_true rfl, Nat.le_of_ble_eq_true rfl⟩ rfl hl.1 rfl (k_room _ (by exact Nat.le_of_ble_eq_true rfl)) ⟨le_0 hk, le_0 hs⟩ dX11_judge_1 (fun H locs hE => ?_)
  refine lv_if_eq (tgt := 14) b.1 b.2.1 dX11_judge_4 (by decide) (fun c64 => ?_) (fun c64 => ?_)
  · have hf := oI_t c64 hf
    refine lv_iconst (v := (-1)) b.1 b.2.1 dX11_judge_14 (by decide) ?_
    cases hf
    exact k_iret b hlk hr hE (le_c hk) (le_c hs) dX11_judge_15
  · have hf := oI_f c64 hf
    refine lv_iload_n b.1 b.2.1 dX11_judge_7 rfl (lv_at hl 2 rfl) ?_
    obtain ⟨r66, hc65, hf⟩ := oB_s hf
    refine k_callS0 b zs zk hE (CX11_isDay l D aC zk hc65) mc_X11_isDay (in4 8 rfl rfl) mt_X11_isDay ini_RX11 ok_X11_isDay ⟨Nat.le_of_ble_eq_true rfl, Nat.le_of_ble_eq_true rfl⟩ rfl hl.1 rfl (k_room _ (by exact Nat.le_of_ble_eq_true rfl)) ⟨le_0 hk, le_0 hs⟩ dX11_judge_8 (fun H locs hE => ?_)
    refine lv_if_ne (tgt := 16) b.1 b.2.1 dX11_judge_11 (by decide) (fun c67 => ?_) (fun c67 => ?_)
    · have hf := oI_f c67 hf
      refine lv_aload_n b.1 b.2.1 dX11_judge_16 rfl (lv_at hl 0 rfl) ?_
      obtain ⟨t68, hf⟩ := oC_s hf
      have t68 := of_decide_eq_true t68
      refine gX11_112 (x := (some x0)) b hE rfl t68 dX11_judge_17 ?_
      refine k_ifnonnull (x := Option.map ad (hR h 1416 x0)) b dX11_judge_20 (tgt := 37) (by decide) (fun c69 => ?_) (fun c69 => ?_)
      · have hf := oI_f (fun z => c69 (Option.map_eq_none_iff.mpr z)) hf
        refine lv_aload_n b.1 b.2.1 dX11_judge_37 rfl (lv_at hl 0 rfl) ?_
        refine gX11_112 (x := (some x0)) b hE rfl t68 dX11_judge_38 ?_
        exact wfX11_judge_41 b hlk hr zs zk  hf hk hs hE (lv_sub hl [0, 1, 2] rfl)
      · have hf := oI_t (Option.map_eq_none_iff.mp c69) hf
        obtain ⟨h72, eh72, hf⟩ := oL_s hf
        obtain ⟨i70, j71, ei70, ej71, hf⟩ := oK4_s hf
        have t73 := tg_nO (t := 11) hE eh72 t68
        have t74 := tg_nO0 eh72
        refine nX11_116 b hE (le_room hk ei70) (le_room hs ej71) eh72 dX11_judge_23 (fun H hE => ?_)
        have hk := le_step hk ei70
        have hs := le_step hs ej71
        refine lv_dup b.1 b.2.1 dX11_judge_26 rfl ?_
        refine lv_aload_n b.1 b.2.1 dX11_judge_27 rfl (lv_at hl 0 rfl) ?_
        refine gX11_22 (x := (some x0)) b hE rfl t73 dX11_judge_28 ?_
        obtain ⟨h76, i77, j78, hc75, hf⟩ := oB3_s hf
        obtain ⟨i79, j80, ei79, ej80, hf⟩ := oK4_s hf
        refine k_callI b zs zk hE (CX5_init l D aC ad zk hc75) mc_X5_init (in4 13 rfl rfl) mi_X5_init ini_RX5 rfl ok_X5_init ⟨Nat.le_of_ble_eq_true rfl, Nat.le_of_ble_eq_true rfl⟩ rfl hl.1 rfl (k_room _ (by exact Nat.le_of_ble_eq_true rfl)) ⟨le_room hk ei79, le_room hs ej80⟩ dX11_judge_31 (fun H locs hE => ?_)
        have hk := le_step hk ei79
        have hs := le_step hs ej80
        refine lv_goto (tgt := 41) b.1 b.2.1 dX11_judge_34 (by decide) ?_
        exact wfX11_judge_41 b hlk hr zs zk  hf hk hs hE (lv_sub hl [0, 1, 2] rfl)
    · have hf := oI_t c67 hf
      refine lv_iconst (v := (-1)) b.1 b.2.1 dX11_judge_14 (by decide) ?_
      cases hf
      exact k_iret b hlk hr hE (le_c hk) (le_c hs) dX11_judge_15
def fX11_judge (h : PH) (x0 : Nat) (x1 : Int32) (x2 : Int32) : Option (PH × Int32 × Nat × Nat) := fX11_judge_0 h x0 x1 x2
set_option maxHeartbeats 4000000 in
theorem CX11_judge (l : Launch) (D : va_G) (aC : Nat → ClassId) (ad : Nat → Nat) {Z : State → Prop} (zk : ZOK Z (Rg ad)) {h : PH} {x0 : Nat} {x1 : Int32} {x2 : Int32} {hz : PH} {rz : Int32} {kz : Nat} {mz : Nat} (hf : fX11_judge h x0 x1 x2 = some (hz, rz, kz, mz)) : CM l D aC Z yX11_judge cX11_judge 6 (some .int) 7 178 kz mz (EX D aC ad h) [.ref (ad x0), .int x1, .int x2] (EX D aC ad hz) (some (.int rz)) (Rg ad) := by
  refine CM.of rfl ?_
  intro p e s m below meth c b hr hlk hin2 zs hE
  refine k_ent (Nat.le_of_ble_eq_true rfl) (fun ls hl => ?_)
  exact wfX11_judge_0 b hlk hr zs zk hf (by omega) (by omega) hE (lv_sub hl [0, 1, 2] rfl)
theorem dX11_status_0 : decode cX11_status 0 = .ok (.aload_n 0, 1) := by decide +kernel
theorem dX11_status_1 : decode cX11_status 1 = .ok (.getfield 112, 3) := by decide +kernel
theorem dX11_status_4 : decode cX11_status 4 = .ok (.ifnonnull 5, 3) := by decide +kernel
theorem dX11_status_7 : decode cX11_status 7 = .ok (.iconst (-1), 1) := by decide +kernel
theorem dX11_status_8 : decode cX11_status 8 = .ok (.ireturn, 1) := by decide +kernel
theorem dX11_status_9 : decode cX11_status 9 = .ok (.aload_n 0, 1) := by decide +kernel
theorem dX11_status_10 : decode cX11_status 10 = .ok (.getfield 112, 3) := by decide +kernel
theorem dX11_status_13 : decode cX11_status 13 = .ok (.iload_n 1, 1) := by decide +kernel
theorem dX11_status_14 : decode cX11_status 14 = .ok (.iload_n 2, 1) := by decide +kernel
theorem dX11_status_15 : decode cX11_status 15 = .ok (.iload_n 3, 1) := by decide +kernel
theorem dX11_status_16 : decode cX11_status 16 = .ok (.iload 4, 2) := by decide +kernel
theorem dX11_status_18 : decode cX11_status 18 = .ok (.invokevirtual 150, 3) := by decide +kernel
theorem dX11_status_21 : decode cX11_status 21 = .ok (.istore 5, 2) := by decide +kernel
theorem dX11_status_23 : decode cX11_status 23 = .ok (.iload 5, 2) := by decide +kernel
theorem dX11_status_25 : decode cX11_status 25 = .ok (.iconst (-1), 1) := by decide +kernel
theorem dX11_status_26 : decode cX11_status 26 = .ok (.if_icmp .ne 7, 3) := by decide +kernel
theorem dX11_status_29 : decode cX11_status 29 = .ok (.iconst (-1), 1) := by decide +kernel
theorem dX11_status_30 : decode cX11_status 30 = .ok (.goto 13, 3) := by decide +kernel
theorem dX11_status_33 : decode cX11_status 33 = .ok (.aload_n 0, 1) := by decide +kernel
theorem dX11_status_34 : decode cX11_status 34 = .ok (.getfield 112, 3) := by decide +kernel
theorem dX11_status_37 : decode cX11_status 37 = .ok (.getfield 154, 3) := by decide +kernel
theorem dX11_status_40 : decode cX11_status 40 = .ok (.iload 5, 2) := by decide +kernel
theorem dX11_status_42 : decode cX11_status 42 = .ok (.baload, 1) := by decide +kernel
theorem dX11_status_43 : decode cX11_status 43 = .ok (.ireturn, 1) := by decide +kernel
def fX11_status_0  (h : PH) (x0 : Nat) (x1 : Int32) (x2 : Int32) (x3 : Int32) (x4 : Int32) : Option (Int32) :=
  oC (decide (hT h x0 = 12)) (if (hR h 1416 x0) = none then (some ((-1))) else (oN (hR h 1416 x0) (fun a3 => oC (decide (hT h a3 = 6)) (oB (fX5_find h a3 x1 x2 x3 x4) (fun r6 => if r6 = (-1) then (some ((-1))) else (oN (hR h 646 a3) (fun a8 => oC (decide (hT h a8 = 100)) (oC (ix r6 (hN h a8)) (some ((hA h a8 (Int32.toNatClampNeg r6))))))))))))
set_option maxHeartbeats 4000000 in
theorem wfX11_status_0 {args : Array Value} (b : Bd p s m c cX11_status 6 RX11 D aC) (hlk : meth.locks = false) (hr : meth.sig.returnType = some .int) {Z : State → Prop} (zs : Z s) (zk : ZOK Z (Rg ad)) {rz : Int32} {h : PH} {x0 : Nat} {x1 : Int32} {x2 : Int32} {x3 : Int32} {x4 : Int32}  {H : Heap} {locs : List Loc} {ls : Array Slot} (hf : fX11_status_0 h x0 x1 x2 x3 x4 = some rz) (hE : CE (EX D aC ad h) (Rg ad) s H locs) (hl : lv_has ls 6 [(0, .ref (ad x0)), (1, .int x1), (2, .int x2), (3, .int x3), (4, .int x4)]) : W p l e (RM 3 75 0 0) s m args below meth c H locs 0 0 (MQ below (PQ (EX D aC ad h) (Rg ad) (some (.int rz))) args s 0 0 (Rg ad)) (F0 m 0 ls []) := by
  unfold fX11_status_0 at hf
  refine lv_aload_n b.1 b.2.1 dX11_status_0 rfl (lv_at hl 0 rfl) ?_
  obtain ⟨t1, hf⟩ := oC_s hf
  have t1 := of_decide_eq_true t1
  refine gX11_112 (x := (some x0)) b hE rfl t1 dX11_status_1 ?_
  refine k_ifnonnull (x := Option.map ad (hR h 1416 x0)) b dX11_status_4 (tgt := 9) (by decide) (fun c2 => ?_) (fun c2 => ?_)
  · have hf := oI_f (fun z => c2 (Option.map_eq_none_iff.mpr z)) hf
    refine lv_aload_n b.1 b.2.1 dX11_status_9 rfl (lv_at hl 0 rfl) ?_
    refine gX11_112 (x := (some x0)) b hE rfl t1 dX11_status_10 ?_
    refine lv_iload_n b.1 b.2.1 dX11_status_13 rfl (lv_at hl 1 rfl) ?_
    refine lv_iload_n b.1 b.2.1 dX11_status_14 rfl (lv_at hl 2 rfl) ?_
    refine lv_iload_n b.1 b.2.1 dX11_status_15 rfl (lv_at hl 3 rfl) ?_
    refine lv_iload b.1 b.2.1 dX11_status_16 (lv_at hl 4 rfl) ?_
    obtain ⟨a3, ea3, hf⟩ := oN_s hf
    obtain ⟨t4, hf⟩ := oC_s hf
    have t4 := of_decide_eq_true t4
    obtain ⟨r6, hc5, hf⟩ := oB_s hf
    refine k_stk [.int x4, .int x3, .int x2, .int x1] ea3 ?_
    refine k_callV0 (C := RX5) b zs zk hE (CX5_find l D aC ad zk hc5) mc_X5_find (in5 91 rfl rfl) mi_X5_find ms_X5_find ini_RX5 ok_X5_find (x_recv b hE (ci := 5) rfl (by decide) t4) ⟨Nat.le_of_ble_eq_true rfl, Nat.le_of_ble_eq_true rfl⟩ rfl hl.1 rfl (k_room _ (by exact Nat.le_of_ble_eq_true rfl)) ⟨Nat.le_refl _, Nat.le_refl _⟩ dX11_status_18 (fun H locs hE => ?_)
    refine lv_istore (lv' := [(5, .int r6), (0, .ref (ad x0)), (1, .int x1), (2, .int x2), (3, .int x3), (4, .int x4)]) b.1 b.2.1 dX11_status_21 hl (by decide) rfl (fun ls hl => ?_)
    have hl := lv_sub (l' := [(5, .int r6), (0, .ref (ad x0))]) hl [0, 1] rfl
    refine lv_iload b.1 b.2.1 dX11_status_23 (lv_at hl 0 rfl) ?_
    refine lv_iconst (v := (-1)) b.1 b.2.1 dX11_status_25 (by decide) ?_
    refine lv_icmp_ne (tgt := 33) b.1 b.2.1 dX11_status_26 (by decide) (fun c7 => ?_) (fun c7 => ?_)
    · have hf := oI_f c7 hf
      refine lv_aload_n b.1 b.2.1 dX11_status_33 rfl (lv_at hl 1 rfl) ?_
      refine gX11_112 (x := (some x0)) b hE rfl t1 dX11_status_34 ?_
      refine gX11_154 (x := (hR h 1416 x0)) b hE ea3 t4 dX11_status_37 ?_
      refine lv_iload b.1 b.2.1 dX11_status_40 (lv_at hl 0 rfl) ?_
      obtain ⟨a8, ea8, hf⟩ := oN_s hf
      obtain ⟨t9, hf⟩ := oC_s hf
      have t9 := of_decide_eq_true t9
      obtain ⟨g10, hf⟩ := oC_s hf
      refine q_bald (x := (hR h 646 a3)) b hE ea8 t9 g10 dX11_status_42 ?_
      cases hf
      exact k_iret b hlk hr hE (Nat.le_refl _) (Nat.le_refl _) dX11_status_43
    · have hf := oI_t c7 hf
      refine lv_iconst (v := (-1)) b.1 b.2.1 dX11_status_29 (by decide) ?_
      refine lv_goto (tgt := 43) b.1 b.2.1 dX11_status_30 (by decide) ?_
      cases hf
      exact k_iret b hlk hr hE (Nat.le_refl _) (Nat.le_refl _) dX11_status_43
  · have hf := oI_t (Option.map_eq_none_iff.mp c2) hf
    refine lv_iconst (v := (-1)) b.1 b.2.1 dX11_status_7 (by decide) ?_
    cases hf
    exact k_iret b hlk hr hE (Nat.le_refl _) (Nat.le_refl _) dX11_status_8
def fX11_status (h : PH) (x0 : Nat) (x1 : Int32) (x2 : Int32) (x3 : Int32) (x4 : Int32) : Option (Int32) := fX11_status_0 h x0 x1 x2 x3 x4
set_option maxHeartbeats 4000000 in
theorem CX11_status (l : Launch) (D : va_G) (aC : Nat → ClassId) (ad : Nat → Nat) {Z : State → Prop} (zk : ZOK Z (Rg ad)) {h : PH} {x0 : Nat} {x1 : Int32} {x2 : Int32} {x3 : Int32} {x4 : Int32} {rz : Int32} (hf : fX11_status h x0 x1 x2 x3 x4 = some rz) : CM l D aC Z yX11_status cX11_status 6 (some .int) 3 75 0 0 (EX D aC ad h) [.ref (ad x0), .int x1, .int x2, .int x3, .int x4] (EX D aC ad h) (some (.int rz)) (Rg ad) := by
  refine CM.of rfl ?_
  intro p e s m below meth c b hr hlk hin2 zs hE
  refine k_ent (Nat.le_of_ble_eq_true rfl) (fun ls hl => ?_)
  exact wfX11_status_0 b hlk hr zs zk hf hE (lv_sub hl [0, 1, 2, 3, 4] rfl)
theorem dX11_why_0 : decode cX11_why 0 = .ok (.aload_n 0, 1) := by decide +kernel
theorem dX11_why_1 : decode cX11_why 1 = .ok (.getfield 112, 3) := by decide +kernel
theorem dX11_why_4 : decode cX11_why 4 = .ok (.ifnonnull 5, 3) := by decide +kernel
theorem dX11_why_7 : decode cX11_why 7 = .ok (.iconst (-1), 1) := by decide +kernel
theorem dX11_why_8 : decode cX11_why 8 = .ok (.ireturn, 1) := by decide +kernel
theorem dX11_why_9 : decode cX11_why 9 = .ok (.aload_n 0, 1) := by decide +kernel
theorem dX11_why_10 : decode cX11_why 10 = .ok (.getfield 112, 3) := by decide +kernel
theorem dX11_why_13 : decode cX11_why 13 = .ok (.iload_n 1, 1) := by decide +kernel
theorem dX11_why_14 : decode cX11_why 14 = .ok (.iload_n 2, 1) := by decide +kernel
theorem dX11_why_15 : decode cX11_why 15 = .ok (.iload_n 3, 1) := by decide +kernel
theorem dX11_why_16 : decode cX11_why 16 = .ok (.iload 4, 2) := by decide +kernel
theorem dX11_why_18 : decode cX11_why 18 = .ok (.invokevirtual 150, 3) := by decide +kernel
theorem dX11_why_21 : decode cX11_why 21 = .ok (.istore 6, 2) := by decide +kernel
theorem dX11_why_23 : decode cX11_why 23 = .ok (.iload 6, 2) := by decide +kernel
theorem dX11_why_25 : decode cX11_why 25 = .ok (.iconst (-1), 1) := by decide +kernel
theorem dX11_why_26 : decode cX11_why 26 = .ok (.if_icmp .ne 7, 3) := by decide +kernel
theorem dX11_why_29 : decode cX11_why 29 = .ok (.iconst (-1), 1) := by decide +kernel
theorem dX11_why_30 : decode cX11_why 30 = .ok (.goto 14, 3) := by decide +kernel
theorem dX11_why_33 : decode cX11_why 33 = .ok (.aload_n 0, 1) := by decide +kernel
theorem dX11_why_34 : decode cX11_why 34 = .ok (.getfield 112, 3) := by decide +kernel
theorem dX11_why_37 : decode cX11_why 37 = .ok (.iload 6, 2) := by decide +kernel
theorem dX11_why_39 : decode cX11_why 39 = .ok (.iload 5, 2) := by decide +kernel
theorem dX11_why_41 : decode cX11_why 41 = .ok (.invokevirtual 158, 3) := by decide +kernel
theorem dX11_why_44 : decode cX11_why 44 = .ok (.ireturn, 1) := by decide +kernel
def fX11_why_0  (h : PH) (x0 : Nat) (x1 : Int32) (x2 : Int32) (x3 : Int32) (x4 : Int32) (x5 : Int32) : Option (PH × Int32) :=
  oC (decide (hT h x0 = 12)) (if (hR h 1416 x0) = none then (some (h, (-1))) else (oN (hR h 1416 x0) (fun a3 => oC (decide (hT h a3 = 6)) (oB (fX5_find h a3 x1 x2 x3 x4) (fun r6 => if r6 = (-1) then (some (h, (-1))) else (oB2 (fX5_reason h a3 r6 x5) (fun h10 r9 => some (h10, r9))))))))
set_option maxHeartbeats 4000000 in
theorem wfX11_why_0 {args : Array Value} (b : Bd p s m c cX11_why 7 RX11 D aC) (hlk : meth.locks = false) (hr : meth.sig.returnType = some .int) {Z : State → Prop} (zs : Z s) (zk : ZOK Z (Rg ad)) {hz : PH} {rz : Int32} {h : PH} {x0 : Nat} {x1 : Int32} {x2 : Int32} {x3 : Int32} {x4 : Int32} {x5 : Int32}  {H : Heap} {locs : List Loc} {ls : Array Slot} (hf : fX11_why_0 h x0 x1 x2 x3 x4 x5 = some (hz, rz)) (hE : CE (EX D aC ad h) (Rg ad) s H locs) (hl : lv_has ls 7 [(0, .ref (ad x0)), (1, .int x1), (2, .int x2), (3, .int x3), (4, .int x4), (5, .int x5)]) : W p l e (RM 4 95 0 0) s m args below meth c H locs 0 0 (MQ below (PQ (EX D aC ad hz) (Rg ad) (some (.int rz))) args s 0 0 (Rg ad)) (F0 m 0 ls []) := by
  unfold fX11_why_0 at hf
  refine lv_aload_n b.1 b.2.1 dX11_why_0 rfl (lv_at hl 0 rfl) ?_
  obtain ⟨t1, hf⟩ := oC_s hf
  have t1 := of_decide_eq_true t1
  refine gX11_112 (x := (some x0)) b hE rfl t1 dX11_why_1 ?_
  refine k_ifnonnull (x := Option.map ad (hR h 1416 x0)) b dX11_why_4 (tgt := 9) (by decide) (fun c2 => ?_) (fun c2 => ?_)
  · have hf := oI_f (fun z => c2 (Option.map_eq_none_iff.mpr z)) hf
    refine lv_aload_n b.1 b.2.1 dX11_why_9 rfl (lv_at hl 0 rfl) ?_
    refine gX11_112 (x := (some x0)) b hE rfl t1 dX11_why_10 ?_
    refine lv_iload_n b.1 b.2.1 dX11_why_13 rfl (lv_at hl 1 rfl) ?_
    refine lv_iload_n b.1 b.2.1 dX11_why_14 rfl (lv_at hl 2 rfl) ?_
    refine lv_iload_n b.1 b.2.1 dX11_why_15 rfl (lv_at hl 3 rfl) ?_
    refine lv_iload b.1 b.2.1 dX11_why_16 (lv_at hl 4 rfl) ?_
    obtain ⟨a3, ea3, hf⟩ := oN_s hf
    obtain ⟨t4, hf⟩ := oC_s hf
    have t4 := of_decide_eq_true t4
    obtain ⟨r6, hc5, hf⟩ := oB_s hf
    refine k_stk [.int x4, .int x3, .int x2, .int x1] ea3 ?_
    refine k_callV0 (C := RX5) b zs zk hE (CX5_find l D aC ad zk hc5) mc_X5_find (in5 91 rfl rfl) mi_X5_find ms_X5_find ini_RX5 ok_X5_find (x_recv b hE (ci := 5) rfl (by decide) t4) ⟨Nat.le_of_ble_eq_true rfl, Nat.le_of_ble_eq_true rfl⟩ rfl hl.1 rfl (k_room _ (by exact Nat.le_of_ble_eq_true rfl)) ⟨Nat.le_refl _, Nat.le_refl _⟩ dX11_why_18 (fun H locs hE => ?_)
    refine lv_istore (lv' := [(6, .int r6), (0, .ref (ad x0)), (1, .int x1), (2, .int x2), (3, .int x3), (4, .int x4), (5, .int x5)]) b.1 b.2.1 dX11_why_21 hl (by decide) rfl (fun ls hl => ?_)
    have hl := lv_sub (l' := [(6, .int r6), (0, .ref (ad x0)), (5, .int x5)]) hl [0, 1, 6] rfl
    refine lv_iload b.1 b.2.1 dX11_why_23 (lv_at hl 0 rfl) ?_
    refine lv_iconst (v := (-1)) b.1 b.2.1 dX11_why_25 (by decide) ?_
    refine lv_icmp_ne (tgt := 33) b.1 b.2.1 dX11_why_26 (by decide) (fun c7 => ?_) (fun c7 => ?_)
    · have hf := oI_f c7 hf
      refine lv_aload_n b.1 b.2.1 dX11_why_33 rfl (lv_at hl 1 rfl) ?_
      refine gX11_112 (x := (some x0)) b hE rfl t1 dX11_why_34 ?_
      refine lv_iload b.1 b.2.1 dX11_why_37 (lv_at hl 0 rfl) ?_
      refine lv_iload b.1 b.2.1 dX11_why_39 (lv_at hl 2 rfl) ?_
      obtain ⟨h10, r9, hc8, hf⟩ := oB2_s hf
      refine k_stk [.int x5, .int r6] ea3 ?_
      refine k_callV0 (C := RX5) b zs zk hE (CX5_reason l D aC ad zk hc8) mc_X5_reason (in5 100 rfl rfl) mi_X5_reason ms_X5_reason ini_RX5 ok_X5_reason (x_recv b hE (ci := 5) rfl (by decide) t4) ⟨Nat.le_of_ble_eq_true rfl, Nat.le_of_ble_eq_true rfl⟩ rfl hl.1 rfl (k_room _ (by exact Nat.le_of_ble_eq_true rfl)) ⟨Nat.le_refl _, Nat.le_refl _⟩ dX11_why_41 (fun H locs hE => ?_)
      cases hf
      exact k_iret b hlk hr hE (Nat.le_refl _) (Nat.le_refl _) dX11_why_44
    · have hf := oI_t c7 hf
      refine lv_iconst (v := (-1)) b.1 b.2.1 dX11_why_29 (by decide) ?_
      refine lv_goto (tgt := 44) b.1 b.2.1 dX11_why_30 (by decide) ?_
      cases hf
      exact k_iret b hlk hr hE (Nat.le_refl _) (Nat.le_refl _) dX11_why_44
  · have hf := oI_t (Option.map_eq_none_iff.mp c2) hf
    refine lv_iconst (v := (-1)) b.1 b.2.1 dX11_why_7 (by decide) ?_
    cases hf
    exact k_iret b hlk hr hE (Nat.le_refl _) (Nat.le_refl _) dX11_why_8
def fX11_why (h : PH) (x0 : Nat) (x1 : Int32) (x2 : Int32) (x3 : Int32) (x4 : Int32) (x5 : Int32) : Option (PH × Int32) := fX11_why_0 h x0 x1 x2 x3 x4 x5
set_option maxHeartbeats 4000000 in
theorem CX11_why (l : Launch) (D : va_G) (aC : Nat → ClassId) (ad : Nat → Nat) {Z : State → Prop} (zk : ZOK Z (Rg ad)) {h : PH} {x0 : Nat} {x1 : Int32} {x2 : Int32} {x3 : Int32} {x4 : Int32} {x5 : Int32} {hz : PH} {rz : Int32} (hf : fX11_why h x0 x1 x2 x3 x4 x5 = some (hz, rz)) : CM l D aC Z yX11_why cX11_why 7 (some .int) 4 95 0 0 (EX D aC ad h) [.ref (ad x0), .int x1, .int x2, .int x3, .int x4, .int x5] (EX D aC ad hz) (some (.int rz)) (Rg ad) := by
  refine CM.of rfl ?_
  intro p e s m below meth c b hr hlk hin2 zs hE
  refine k_ent (Nat.le_of_ble_eq_true rfl) (fun ls hl => ?_)
  exact wfX11_why_0 b hlk hr zs zk hf hE (lv_sub hl [0, 1, 2, 3, 4, 5] rfl)
theorem dX11_sum_0 : decode cX11_sum 0 = .ok (.aload_n 0, 1) := by decide +kernel
theorem dX11_sum_1 : decode cX11_sum 1 = .ok (.getfield 112, 3) := by decide +kernel
theorem dX11_sum_4 : decode cX11_sum 4 = .ok (.ifnonnull 9, 3) := by decide +kernel
theorem dX11_sum_7 : decode cX11_sum 7 = .ok (.ldc2_w 162, 3) := by decide +kernel
theorem dX11_sum_10 : decode cX11_sum 10 = .ok (.goto 13, 3) := by decide +kernel
theorem dX11_sum_13 : decode cX11_sum 13 = .ok (.aload_n 0, 1) := by decide +kernel
theorem dX11_sum_14 : decode cX11_sum 14 = .ok (.getfield 112, 3) := by decide +kernel
theorem dX11_sum_17 : decode cX11_sum 17 = .ok (.iload_n 1, 1) := by decide +kernel
theorem dX11_sum_18 : decode cX11_sum 18 = .ok (.iload_n 2, 1) := by decide +kernel
theorem dX11_sum_19 : decode cX11_sum 19 = .ok (.iload_n 3, 1) := by decide +kernel
theorem dX11_sum_20 : decode cX11_sum 20 = .ok (.invokevirtual 164, 3) := by decide +kernel
theorem dX11_sum_23 : decode cX11_sum 23 = .ok (.lreturn, 1) := by decide +kernel
def fX11_sum_0  (h : PH) (x0 : Nat) (x1 : Int32) (x2 : Int32) (x3 : Int32) : Option (Int64) :=
  oC (decide (hT h x0 = 12)) (if (hR h 1416 x0) = none then (some ((-1))) else (oN (hR h 1416 x0) (fun a3 => oC (decide (hT h a3 = 6)) (oB (fX5_amount h a3 x1 x2 x3) (fun r6 => some (r6))))))
set_option maxHeartbeats 4000000 in
theorem wfX11_sum_0 {args : Array Value} (b : Bd p s m c cX11_sum 4 RX11 D aC) (hlk : meth.locks = false) (hr : meth.sig.returnType = some .long) {Z : State → Prop} (zs : Z s) (zk : ZOK Z (Rg ad)) {rz : Int64} {h : PH} {x0 : Nat} {x1 : Int32} {x2 : Int32} {x3 : Int32}  {H : Heap} {locs : List Loc} {ls : Array Slot} (hf : fX11_sum_0 h x0 x1 x2 x3 = some rz) (hE : CE (EX D aC ad h) (Rg ad) s H locs) (hl : lv_has ls 4 [(0, .ref (ad x0)), (1, .int x1), (2, .int x2), (3, .int x3)]) : W p l e (RM 1 24 0 0) s m args below meth c H locs 0 0 (MQ below (PQ (EX D aC ad h) (Rg ad) (some (.long rz))) args s 0 0 (Rg ad)) (F0 m 0 ls []) := by
  unfold fX11_sum_0 at hf
  refine lv_aload_n b.1 b.2.1 dX11_sum_0 rfl (lv_at hl 0 rfl) ?_
  obtain ⟨t1, hf⟩ := oC_s hf
  have t1 := of_decide_eq_true t1
  refine gX11_112 (x := (some x0)) b hE rfl t1 dX11_sum_1 ?_
  refine k_ifnonnull (x := Option.map ad (hR h 1416 x0)) b dX11_sum_4 (tgt := 13) (by decide) (fun c2 => ?_) (fun c2 => ?_)
  · have hf := oI_f (fun z => c2 (Option.map_eq_none_iff.mpr z)) hf
    refine lv_aload_n b.1 b.2.1 dX11_sum_13 rfl (lv_at hl 0 rfl) ?_
    refine gX11_112 (x := (some x0)) b hE rfl t1 dX11_sum_14 ?_
    refine lv_iload_n b.1 b.2.1 dX11_sum_17 rfl (lv_at hl 1 rfl) ?_
    refine lv_iload_n b.1 b.2.1 dX11_sum_18 rfl (lv_at hl 2 rfl) ?_
    refine lv_iload_n b.1 b.2.1 dX11_sum_19 rfl (lv_at hl 3 rfl) ?_
    obtain ⟨a3, ea3, hf⟩ := oN_s hf
    obtain ⟨t4, hf⟩ := oC_s hf
    have t4 := of_decide_eq_true t4
    obtain ⟨r6, hc5, hf⟩ := oB_s hf
    refine k_stk [.int x3, .int x2, .int x1] ea3 ?_
    refine k_callV0 (C := RX5) b zs zk hE (CX5_amount l D aC ad zk hc5) mc_X5_amount (in5 113 rfl rfl) mi_X5_amount ms_X5_amount ini_RX5 ok_X5_amount (x_recv b hE (ci := 5) rfl (by decide) t4) ⟨Nat.le_of_ble_eq_true rfl, Nat.le_of_ble_eq_true rfl⟩ rfl hl.1 rfl (k_room _ (by exact Nat.le_of_ble_eq_true rfl)) ⟨Nat.le_refl _, Nat.le_refl _⟩ dX11_sum_20 (fun H locs hE => ?_)
    cases hf
    exact k_lret b hlk hr hE (Nat.le_refl _) (Nat.le_refl _) dX11_sum_23
  · have hf := oI_t (Option.map_eq_none_iff.mp c2) hf
    refine k_ldc2 (v := (-1)) b (in5 112 rfl rfl) dX11_sum_7 ?_
    refine lv_goto (tgt := 23) b.1 b.2.1 dX11_sum_10 (by decide) ?_
    cases hf
    exact k_lret b hlk hr hE (Nat.le_refl _) (Nat.le_refl _) dX11_sum_23
def fX11_sum (h : PH) (x0 : Nat) (x1 : Int32) (x2 : Int32) (x3 : Int32) : Option (Int64) := fX11_sum_0 h x0 x1 x2 x3
set_option maxHeartbeats 4000000 in
theorem CX11_sum (l : Launch) (D : va_G) (aC : Nat → ClassId) (ad : Nat → Nat) {Z : State → Prop} (zk : ZOK Z (Rg ad)) {h : PH} {x0 : Nat} {x1 : Int32} {x2 : Int32} {x3 : Int32} {rz : Int64} (hf : fX11_sum h x0 x1 x2 x3 = some rz) : CM l D aC Z yX11_sum cX11_sum 4 (some .long) 1 24 0 0 (EX D aC ad h) [.ref (ad x0), .int x1, .int x2, .int x3] (EX D aC ad h) (some (.long rz)) (Rg ad) := by
  refine CM.of rfl ?_
  intro p e s m below meth c b hr hlk hin2 zs hE
  refine k_ent (Nat.le_of_ble_eq_true rfl) (fun ls hl => ?_)
  exact wfX11_sum_0 b hlk hr zs zk hf hE (lv_sub hl [0, 1, 2, 3] rfl)
theorem dX11_text_0 : decode cX11_text 0 = .ok (.aload_n 0, 1) := by decide +kernel
theorem dX11_text_1 : decode cX11_text 1 = .ok (.getfield 112, 3) := by decide +kernel
theorem dX11_text_4 : decode cX11_text 4 = .ok (.ifnonnull 5, 3) := by decide +kernel
theorem dX11_text_7 : decode cX11_text 7 = .ok (.iconst (-1), 1) := by decide +kernel
theorem dX11_text_8 : decode cX11_text 8 = .ok (.ireturn, 1) := by decide +kernel
theorem dX11_text_9 : decode cX11_text 9 = .ok (.aload_n 0, 1) := by decide +kernel
theorem dX11_text_10 : decode cX11_text 10 = .ok (.getfield 16, 3) := by decide +kernel
theorem dX11_text_13 : decode cX11_text 13 = .ok (.iconst 0, 1) := by decide +kernel
theorem dX11_text_14 : decode cX11_text 14 = .ok (.putfield 45, 3) := by decide +kernel
theorem dX11_text_17 : decode cX11_text 17 = .ok (.iconst 0, 1) := by decide +kernel
theorem dX11_text_18 : decode cX11_text 18 = .ok (.istore_n 1, 1) := by decide +kernel
theorem dX11_text_19 : decode cX11_text 19 = .ok (.iload_n 1, 1) := by decide +kernel
theorem dX11_text_20 : decode cX11_text 20 = .ok (.sipush 600, 3) := by decide +kernel
theorem dX11_text_23 : decode cX11_text 23 = .ok (.if_icmp .ge 21, 3) := by decide +kernel
theorem dX11_text_26 : decode cX11_text 26 = .ok (.aload_n 0, 1) := by decide +kernel
theorem dX11_text_27 : decode cX11_text 27 = .ok (.getfield 112, 3) := by decide +kernel
theorem dX11_text_30 : decode cX11_text 30 = .ok (.iload_n 1, 1) := by decide +kernel
theorem dX11_text_31 : decode cX11_text 31 = .ok (.aload_n 0, 1) := by decide +kernel
theorem dX11_text_32 : decode cX11_text 32 = .ok (.getfield 16, 3) := by decide +kernel
theorem dX11_text_35 : decode cX11_text 35 = .ok (.invokevirtual 168, 3) := by decide +kernel
theorem dX11_text_38 : decode cX11_text 38 = .ok (.iinc 1 1, 3) := by decide +kernel
theorem dX11_text_41 : decode cX11_text 41 = .ok (.goto (-22), 3) := by decide +kernel
theorem dX11_text_44 : decode cX11_text 44 = .ok (.iconst 0, 1) := by decide +kernel
theorem dX11_text_45 : decode cX11_text 45 = .ok (.istore_n 1, 1) := by decide +kernel
theorem dX11_text_46 : decode cX11_text 46 = .ok (.iload_n 1, 1) := by decide +kernel
theorem dX11_text_47 : decode cX11_text 47 = .ok (.bipush 20, 2) := by decide +kernel
theorem dX11_text_49 : decode cX11_text 49 = .ok (.if_icmp .ge 21, 3) := by decide +kernel
theorem dX11_text_52 : decode cX11_text 52 = .ok (.aload_n 0, 1) := by decide +kernel
theorem dX11_text_53 : decode cX11_text 53 = .ok (.getfield 112, 3) := by decide +kernel
theorem dX11_text_56 : decode cX11_text 56 = .ok (.iload_n 1, 1) := by decide +kernel
theorem dX11_text_57 : decode cX11_text 57 = .ok (.aload_n 0, 1) := by decide +kernel
theorem dX11_text_58 : decode cX11_text 58 = .ok (.getfield 16, 3) := by decide +kernel
theorem dX11_text_61 : decode cX11_text 61 = .ok (.invokevirtual 172, 3) := by decide +kernel
theorem dX11_text_64 : decode cX11_text 64 = .ok (.iinc 1 1, 3) := by decide +kernel
theorem dX11_text_67 : decode cX11_text 67 = .ok (.goto (-21), 3) := by decide +kernel
theorem dX11_text_70 : decode cX11_text 70 = .ok (.aload_n 0, 1) := by decide +kernel
theorem dX11_text_71 : decode cX11_text 71 = .ok (.getfield 16, 3) := by decide +kernel
theorem dX11_text_74 : decode cX11_text 74 = .ok (.getfield 45, 3) := by decide +kernel
theorem dX11_text_77 : decode cX11_text 77 = .ok (.ireturn, 1) := by decide +kernel
def fX11_text_46F (k46 : PH → Nat → Int32 → Option (PH × Int32 × Nat × Nat)) (h : PH) (x0 : Nat) (x1 : Int32) : Option (PH × Int32 × Nat × Nat) :=
  if 20 ≤ x1 then (oC (decide (hT h x0 = 12)) (oN (hR h 1409 x0) (fun a3 => oC (decide (hT h a3 = 1)) (some (h, (hI h 1 a3), 0, 0))))) else (oC (decide (hT h x0 = 12)) (oN (hR h 1416 x0) (fun a6 => oC (decide (hT h a6 = 6)) (oB3 (fX5_writeSum h a6 x1 (hR h 1409 x0)) (fun h9 i10 j11 => oK4 i10 j11 (oL (x1 + 1) (fun y14 => k46 h9 x0 y14)))))))
set_option maxHeartbeats 4000000 in
theorem wfX11_text_46F {mc ms cells slots : Nat} {args : Array Value} (b : Bd p s m c cX11_text 2 RX11 D aC) (hlk : meth.locks = false) (hr : meth.sig.returnType = some .int) {Z : State → Prop} (zs : Z s) (zk : ZOK Z (Rg ad)) {adK adV : Nat → Nat} (hStr : ∀ U : State, Z U → ZS adK adV (Rg ad) U) {hz : PH} {rz : Int32} {k46 : PH → Nat → Int32 → Option (PH × Int32 × Nat × Nat)} (H46 : ∀ (h : PH) (x0 : Nat) (x1 : Int32), ∀ (cells slots kz mz : Nat) (H : Heap) (locs : List Loc) (ls : Array Slot), k46 h x0 x1 = some (hz, rz, kz, mz) → cells + kz ≤ mc → slots + mz ≤ ms → CE (EX D aC ad h) (Rg ad) s H locs → lv_has ls 2 [(0, .ref (ad x0)), (1, .int x1)] → W p l e (RM 6 155 mc ms) s m args below meth c H locs cells slots (MQ below (PQ (EX D aC ad hz) (Rg ad) (some (.int rz))) args s mc ms (Rg ad)) (F0 m 46 ls [])) {h : PH} {x0 : Nat} {x1 : Int32} {kz : Nat} {mz : Nat}  {H : Heap} {locs : List Loc} {ls : Array Slot} (hf : fX11_text_46F k46 h x0 x1 = some (hz, rz, kz, mz)) (hk : cells + kz ≤ mc) (hs : slots + mz ≤ ms) (hE : CE (EX D aC ad h) (Rg ad) s H locs) (hl : lv_has ls 2 [(0, .ref (ad x0)), (1, .int x1)]) : W p l e (RM 6 155 mc ms) s m args below meth c H locs cells slots (MQ below (PQ (EX D aC ad hz) (Rg ad) (some (.int rz))) args s mc ms (Rg ad)) (F0 m 46 ls []) := by
  unfold fX11_text_46F at hf
  refine lv_iload_n b.1 b.2.1 dX11_text_46 rfl (lv_at hl 1 rfl) ?_
  refine lv_bipush (v := 20) b.1 b.2.1 dX11_text_47 (by decide) ?_
  refine lv_icmp_ge (tgt := 70) b.1 b.2.1 dX11_text_49 (by decide) (fun c1 => ?_) (fun c1 => ?_)
  · have hf := oI_t c1 hf
    refine lv_aload_n b.1 b.2.1 dX11_text_70 rfl (lv_at hl 0 rfl) ?_
    obtain ⟨t2, hf⟩ := oC_s hf
    have t2 := of_decide_eq_true t2
    refine gX11_16 (x := (some x0)) b hE rfl t2 dX11_text_71 ?_
    obtain ⟨a3, ea3, hf⟩ := oN_s hf
    obtain ⟨t4, hf⟩ := oC_s hf
    have t4 := of_decide_eq_true t4
    refine gX11_45 (x := (hR h 1409 x0)) b hE ea3 t4 dX11_text_74 ?_
    cases hf
    exact k_iret b hlk hr hE (le_c hk) (le_c hs) dX11_text_77
  · have hf := oI_f c1 hf
    refine lv_aload_n b.1 b.2.1 dX11_text_52 rfl (lv_at hl 0 rfl) ?_
    obtain ⟨t5, hf⟩ := oC_s hf
    have t5 := of_decide_eq_true t5
    refine gX11_112 (x := (some x0)) b hE rfl t5 dX11_text_53 ?_
    refine lv_iload_n b.1 b.2.1 dX11_text_56 rfl (lv_at hl 1 rfl) ?_
    refine lv_aload_n b.1 b.2.1 dX11_text_57 rfl (lv_at hl 0 rfl) ?_
    refine gX11_16 (x := (some x0)) b hE rfl t5 dX11_text_58 ?_
    obtain ⟨a6, ea6, hf⟩ := oN_s hf
    obtain ⟨t7, hf⟩ := oC_s hf
    have t7 := of_decide_eq_true t7
    obtain ⟨h9, i10, j11, hc8, hf⟩ := oB3_s hf
    obtain ⟨i12, j13, ei12, ej13, hf⟩ := oK4_s hf
    refine k_stk [va_rf (Option.map ad (hR h 1409 x0)), .int x1] ea6 ?_
    refine k_callV (C := RX5) b zs zk hE (CX5_writeSum l D aC ad zk hStr hc8) mc_X5_writeSum (in5 144 rfl rfl) mi_X5_writeSum ms_X5_writeSum ini_RX5 ok_X5_writeSum (x_recv b hE (ci := 5) rfl (by decide) t7) ⟨Nat.le_of_ble_eq_true rfl, Nat.le_of_ble_eq_true rfl⟩ rfl hl.1 rfl (k_room _ (by exact Nat.le_of_ble_eq_true rfl)) ⟨le_room hk ei12, le_room hs ej13⟩ dX11_text_61 (fun H locs hE => ?_)
    have hk := le_step hk ei12
    have hs := le_step hs ej13
    obtain ⟨y14, ey14, hf⟩ := oL_s hf
    refine lv_iinc (v := y14) (lv' := [(1, .int y14), (0, .ref (ad x0))]) b.1 b.2.1 dX11_text_64 hl (k := 1) rfl (by rw [ey14]; rfl) (by decide) rfl (fun ls hl => ?_)
    refine lv_goto (tgt := 46) b.1 b.2.1 dX11_text_67 (by decide) ?_
    exact H46 h9 x0 y14 _ _ _ _ _ _ _ hf hk hs hE (lv_sub hl [1, 0] rfl)
def fX11_text_46  : Nat → PH → Nat → Int32 → Option (PH × Int32 × Nat × Nat)
  | 0 => fun _ _ _ => none
  | n + 1 => fX11_text_46F  (fX11_text_46  n)
set_option maxHeartbeats 4000000 in
theorem wfX11_text_46 {mc ms : Nat} {args : Array Value} (b : Bd p s m c cX11_text 2 RX11 D aC) (hlk : meth.locks = false) (hr : meth.sig.returnType = some .int) {Z : State → Prop} (zs : Z s) (zk : ZOK Z (Rg ad)) {adK adV : Nat → Nat} (hStr : ∀ U : State, Z U → ZS adK adV (Rg ad) U) {hz : PH} {rz : Int32} : ∀ n : Nat, ∀ (h : PH) (x0 : Nat) (x1 : Int32), ∀ (cells slots kz mz : Nat) (H : Heap) (locs : List Loc) (ls : Array Slot), fX11_text_46  n h x0 x1 = some (hz, rz, kz, mz) → cells + kz ≤ mc → slots + mz ≤ ms → CE (EX D aC ad h) (Rg ad) s H locs → lv_has ls 2 [(0, .ref (ad x0)), (1, .int x1)] → W p l e (RM 6 155 mc ms) s m args below meth c H locs cells slots (MQ below (PQ (EX D aC ad hz) (Rg ad) (some (.int rz))) args s mc ms (Rg ad)) (F0 m 46 ls []) := by
  intro n
  induction n with
  | zero =>
    intro h x0 x1 cells slots kz mz H locs ls hf
    have hf : (none : Option (PH × Int32 × Nat × Nat)) = some _ := hf
    cases hf
  | succ n ih =>
    intro h x0 x1 cells slots kz mz H locs ls hf hk hs hE hl
    exact wfX11_text_46F b hlk hr zs zk hStr  ih hf hk hs hE hl
def fX11_text_19F (k19 : PH → Nat → Int32 → Option (PH × Int32 × Nat × Nat)) (h : PH) (x0 : Nat) (x1 : Int32) : Option (PH × Int32 × Nat × Nat) :=
  if 600 ≤ x1 then (fX11_text_46  FU h x0 0) else (oC (decide (hT h x0 = 12)) (oN (hR h 1416 x0) (fun a17 => oC (decide (hT h a17 = 6)) (oB3 (fX5_writeLiteral h a17 x1 (hR h 1409 x0)) (fun h20 i21 j22 => oK4 i21 j22 (oL (x1 + 1) (fun y25 => k19 h20 x0 y25)))))))
set_option maxHeartbeats 4000000 in
theorem wfX11_text_19F {mc ms cells slots : Nat} {args : Array Value} (b : Bd p s m c cX11_text 2 RX11 D aC) (hlk : meth.locks = false) (hr : meth.sig.returnType = some .int) {Z : State → Prop} (zs : Z s) (zk : ZOK Z (Rg ad)) {adK adV : Nat → Nat} (hStr : ∀ U : State, Z U → ZS adK adV (Rg ad) U) {hz : PH} {rz : Int32} {k19 : PH → Nat → Int32 → Option (PH × Int32 × Nat × Nat)} (H19 : ∀ (h : PH) (x0 : Nat) (x1 : Int32), ∀ (cells slots kz mz : Nat) (H : Heap) (locs : List Loc) (ls : Array Slot), k19 h x0 x1 = some (hz, rz, kz, mz) → cells + kz ≤ mc → slots + mz ≤ ms → CE (EX D aC ad h) (Rg ad) s H locs → lv_has ls 2 [(0, .ref (ad x0)), (1, .int x1)] → W p l e (RM 6 155 mc ms) s m args below meth c H locs cells slots (MQ below (PQ (EX D aC ad hz) (Rg ad) (some (.int rz))) args s mc ms (Rg ad)) (F0 m 19 ls [])) {h : PH} {x0 : Nat} {x1 : Int32} {kz : Nat} {mz : Nat}  {H : Heap} {locs : List Loc} {ls : Array Slot} (hf : fX11_text_19F k19 h x0 x1 = some (hz, rz, kz, mz)) (hk : cells + kz ≤ mc) (hs : slots + mz ≤ ms) (hE : CE (EX D aC ad h) (Rg ad) s H locs) (hl : lv_has ls 2 [(0, .ref (ad x0)), (1, .int x1)]) : W p l e (RM 6 155 mc ms) s m args below meth c H locs cells slots (MQ below (PQ (EX D aC ad hz) (Rg ad) (some (.int rz))) args s mc ms (Rg ad)) (F0 m 19 ls []) := by
  unfold fX11_text_19F at hf
  refine lv_iload_n b.1 b.2.1 dX11_text_19 rfl (lv_at hl 1 rfl) ?_
  refine lv_sipush (v := 600) b.1 b.2.1 dX11_text_20 (by decide) ?_
  refine lv_icmp_ge (tgt := 44) b.1 b.2.1 dX11_text_23 (by decide) (fun c15 => ?_) (fun c15 => ?_)
  · have hf := oI_t c15 hf
    refine lv_iconst (v := 0) b.1 b.2.1 dX11_text_44 (by decide) ?_
    refine lv_istore_n (lv' := [(1, .int 0), (0, .ref (ad x0))]) b.1 b.2.1 dX11_text_45 rfl hl (by decide) rfl (fun ls hl => ?_)
    exact wfX11_text_46 b hlk hr zs zk hStr  FU h x0 0 _ _ _ _ _ _ _ hf hk hs hE (lv_sub hl [1, 0] rfl)
  · have hf := oI_f c15 hf
    refine lv_aload_n b.1 b.2.1 dX11_text_26 rfl (lv_at hl 0 rfl) ?_
    obtain ⟨t16, hf⟩ := oC_s hf
    have t16 := of_decide_eq_true t16
    refine gX11_112 (x := (some x0)) b hE rfl t16 dX11_text_27 ?_
    refine lv_iload_n b.1 b.2.1 dX11_text_30 rfl (lv_at hl 1 rfl) ?_
    refine lv_aload_n b.1 b.2.1 dX11_text_31 rfl (lv_at hl 0 rfl) ?_
    refine gX11_16 (x := (some x0)) b hE rfl t16 dX11_text_32 ?_
    obtain ⟨a17, ea17, hf⟩ := oN_s hf
    obtain ⟨t18, hf⟩ := oC_s hf
    have t18 := of_decide_eq_true t18
    obtain ⟨h20, i21, j22, hc19, hf⟩ := oB3_s hf
    obtain ⟨i23, j24, ei23, ej24, hf⟩ := oK4_s hf
    refine k_stk [va_rf (Option.map ad (hR h 1409 x0)), .int x1] ea17 ?_
    refine k_callV (C := RX5) b zs zk hE (CX5_writeLiteral l D aC ad zk hStr hc19) mc_X5_writeLiteral (in5 122 rfl rfl) mi_X5_writeLiteral ms_X5_writeLiteral ini_RX5 ok_X5_writeLiteral (x_recv b hE (ci := 5) rfl (by decide) t18) ⟨Nat.le_of_ble_eq_true rfl, Nat.le_of_ble_eq_true rfl⟩ rfl hl.1 rfl (k_room _ (by exact Nat.le_of_ble_eq_true rfl)) ⟨le_room hk ei23, le_room hs ej24⟩ dX11_text_35 (fun H locs hE => ?_)
    have hk := le_step hk ei23
    have hs := le_step hs ej24
    obtain ⟨y25, ey25, hf⟩ := oL_s hf
    refine lv_iinc (v := y25) (lv' := [(1, .int y25), (0, .ref (ad x0))]) b.1 b.2.1 dX11_text_38 hl (k := 1) rfl (by rw [ey25]; rfl) (by decide) rfl (fun ls hl => ?_)
    refine lv_goto (tgt := 19) b.1 b.2.1 dX11_text_41 (by decide) ?_
    exact H19 h20 x0 y25 _ _ _ _ _ _ _ hf hk hs hE (lv_sub hl [1, 0] rfl)
def fX11_text_19  : Nat → PH → Nat → Int32 → Option (PH × Int32 × Nat × Nat)
  | 0 => fun _ _ _ => none
  | n + 1 => fX11_text_19F  (fX11_text_19  n)
set_option maxHeartbeats 4000000 in
theorem wfX11_text_19 {mc ms : Nat} {args : Array Value} (b : Bd p s m c cX11_text 2 RX11 D aC) (hlk : meth.locks = false) (hr : meth.sig.returnType = some .int) {Z : State → Prop} (zs : Z s) (zk : ZOK Z (Rg ad)) {adK adV : Nat → Nat} (hStr : ∀ U : State, Z U → ZS adK adV (Rg ad) U) {hz : PH} {rz : Int32} : ∀ n : Nat, ∀ (h : PH) (x0 : Nat) (x1 : Int32), ∀ (cells slots kz mz : Nat) (H : Heap) (locs : List Loc) (ls : Array Slot), fX11_text_19  n h x0 x1 = some (hz, rz, kz, mz) → cells + kz ≤ mc → slots + mz ≤ ms → CE (EX D aC ad h) (Rg ad) s H locs → lv_has ls 2 [(0, .ref (ad x0)), (1, .int x1)] → W p l e (RM 6 155 mc ms) s m args below meth c H locs cells slots (MQ below (PQ (EX D aC ad hz) (Rg ad) (some (.int rz))) args s mc ms (Rg ad)) (F0 m 19 ls []) := by
  intro n
  induction n with
  | zero =>
    intro h x0 x1 cells slots kz mz H locs ls hf
    have hf : (none : Option (PH × Int32 × Nat × Nat)) = some _ := hf
    cases hf
  | succ n ih =>
    intro h x0 x1 cells slots kz mz H locs ls hf hk hs hE hl
    exact wfX11_text_19F b hlk hr zs zk hStr  ih hf hk hs hE hl
def fX11_text_0  (h : PH) (x0 : Nat) : Option (PH × Int32 × Nat × Nat) :=
  oC (decide (hT h x0 = 12)) (if (hR h 1416 x0) = none then (some (h, (-1), 0, 0)) else (oN (hR h 1409 x0) (fun a28 => oC (decide (hT h a28 = 1)) (oL (sI h 1 a28 0) (fun h30 => fX11_text_19  FU h30 x0 0)))))
set_option maxHeartbeats 4000000 in
theorem wfX11_text_0 {mc ms cells slots : Nat} {args : Array Value} (b : Bd p s m c cX11_text 2 RX11 D aC) (hlk : meth.locks = false) (hr : meth.sig.returnType = some .int) {Z : State → Prop} (zs : Z s) (zk : ZOK Z (Rg ad)) {adK adV : Nat → Nat} (hStr : ∀ U : State, Z U → ZS adK adV (Rg ad) U) {hz : PH} {rz : Int32} {h : PH} {x0 : Nat} {kz : Nat} {mz : Nat}  {H : Heap} {locs : List Loc} {ls : Array Slot} (hf : fX11_text_0 h x0 = some (hz, rz, kz, mz)) (hk : cells + kz ≤ mc) (hs : slots + mz ≤ ms) (hE : CE (EX D aC ad h) (Rg ad) s H locs) (hl : lv_has ls 2 [(0, .ref (ad x0))]) : W p l e (RM 6 155 mc ms) s m args below meth c H locs cells slots (MQ below (PQ (EX D aC ad hz) (Rg ad) (some (.int rz))) args s mc ms (Rg ad)) (F0 m 0 ls []) := by
  unfold fX11_text_0 at hf
  refine lv_aload_n b.1 b.2.1 dX11_text_0 rfl (lv_at hl 0 rfl) ?_
  obtain ⟨t26, hf⟩ := oC_s hf
  have t26 := of_decide_eq_true t26
  refine gX11_112 (x := (some x0)) b hE rfl t26 dX11_text_1 ?_
  refine k_ifnonnull (x := Option.map ad (hR h 1416 x0)) b dX11_text_4 (tgt := 9) (by decide) (fun c27 => ?_) (fun c27 => ?_)
  · have hf := oI_f (fun z => c27 (Option.map_eq_none_iff.mpr z)) hf
    refine lv_aload_n b.1 b.2.1 dX11_text_9 rfl (lv_at hl 0 rfl) ?_
    refine gX11_16 (x := (some x0)) b hE rfl t26 dX11_text_10 ?_
    refine lv_iconst (v := 0) b.1 b.2.1 dX11_text_13 (by decide) ?_
    obtain ⟨a28, ea28, hf⟩ := oN_s hf
    obtain ⟨t29, hf⟩ := oC_s hf
    have t29 := of_decide_eq_true t29
    obtain ⟨h30, eh30, hf⟩ := oL_s hf
    refine pX11_45 (x := (hR h 1409 x0)) b hE ea28 t29 eh30 dX11_text_14 (fun H locs hE => ?_)
    refine lv_iconst (v := 0) b.1 b.2.1 dX11_text_17 (by decide) ?_
    refine lv_istore_n (lv' := [(1, .int 0), (0, .ref (ad x0))]) b.1 b.2.1 dX11_text_18 rfl hl (by decide) rfl (fun ls hl => ?_)
    exact wfX11_text_19 b hlk hr zs zk hStr  FU h30 x0 0 _ _ _ _ _ _ _ hf hk hs hE (lv_sub hl [1, 0] rfl)
  · have hf := oI_t (Option.map_eq_none_iff.mp c27) hf
    refine lv_iconst (v := (-1)) b.1 b.2.1 dX11_text_7 (by decide) ?_
    cases hf
    exact k_iret b hlk hr hE (le_c hk) (le_c hs) dX11_text_8
def fX11_text (h : PH) (x0 : Nat) : Option (PH × Int32 × Nat × Nat) := fX11_text_0 h x0
set_option maxHeartbeats 4000000 in
theorem CX11_text (l : Launch) (D : va_G) (aC : Nat → ClassId) (ad : Nat → Nat) {Z : State → Prop} (zk : ZOK Z (Rg ad)) {adK adV : Nat → Nat} (hStr : ∀ U : State, Z U → ZS adK adV (Rg ad) U) {h : PH} {x0 : Nat} {hz : PH} {rz : Int32} {kz : Nat} {mz : Nat} (hf : fX11_text h x0 = some (hz, rz, kz, mz)) : CM l D aC Z yX11_text cX11_text 2 (some .int) 6 155 kz mz (EX D aC ad h) [.ref (ad x0)] (EX D aC ad hz) (some (.int rz)) (Rg ad) := by
  refine CM.of rfl ?_
  intro p e s m below meth c b hr hlk hin2 zs hE
  refine k_ent (Nat.le_of_ble_eq_true rfl) (fun ls hl => ?_)
  exact wfX11_text_0 b hlk hr zs zk hStr hf (by omega) (by omega) hE (lv_sub hl [0] rfl)
theorem dX11_out_0 : decode cX11_out 0 = .ok (.aload_n 0, 1) := by decide +kernel
theorem dX11_out_1 : decode cX11_out 1 = .ok (.getfield 16, 3) := by decide +kernel
theorem dX11_out_4 : decode cX11_out 4 = .ok (.iload_n 1, 1) := by decide +kernel
theorem dX11_out_5 : decode cX11_out 5 = .ok (.invokevirtual 175, 3) := by decide +kernel
theorem dX11_out_8 : decode cX11_out 8 = .ok (.ireturn, 1) := by decide +kernel
def fX11_out_0  (h : PH) (x0 : Nat) (x1 : Int32) : Option (Int32) :=
  oC (decide (hT h x0 = 12)) (oN (hR h 1409 x0) (fun a2 => oC (decide (hT h a2 = 1)) (oB (fX0_byteAt h a2 x1) (fun r5 => some (r5)))))
set_option maxHeartbeats 4000000 in
theorem wfX11_out_0 {args : Array Value} (b : Bd p s m c cX11_out 2 RX11 D aC) (hlk : meth.locks = false) (hr : meth.sig.returnType = some .int) {Z : State → Prop} (zs : Z s) (zk : ZOK Z (Rg ad)) {rz : Int32} {h : PH} {x0 : Nat} {x1 : Int32}  {H : Heap} {locs : List Loc} {ls : Array Slot} (hf : fX11_out_0 h x0 x1 = some rz) (hE : CE (EX D aC ad h) (Rg ad) s H locs) (hl : lv_has ls 2 [(0, .ref (ad x0)), (1, .int x1)]) : W p l e (RM 1 21 0 0) s m args below meth c H locs 0 0 (MQ below (PQ (EX D aC ad h) (Rg ad) (some (.int rz))) args s 0 0 (Rg ad)) (F0 m 0 ls []) := by
  unfold fX11_out_0 at hf
  refine lv_aload_n b.1 b.2.1 dX11_out_0 rfl (lv_at hl 0 rfl) ?_
  obtain ⟨t1, hf⟩ := oC_s hf
  have t1 := of_decide_eq_true t1
  refine gX11_16 (x := (some x0)) b hE rfl t1 dX11_out_1 ?_
  refine lv_iload_n b.1 b.2.1 dX11_out_4 rfl (lv_at hl 1 rfl) ?_
  obtain ⟨a2, ea2, hf⟩ := oN_s hf
  obtain ⟨t3, hf⟩ := oC_s hf
  have t3 := of_decide_eq_true t3
  obtain ⟨r5, hc4, hf⟩ := oB_s hf
  refine k_stk [.int x1] ea2 ?_
  refine k_callV0 (C := RX0) b zs zk hE (CX0_byteAt l D aC ad zk hc4) mc_X0_byteAt (in5 163 rfl rfl) mi_X0_byteAt ms_X0_byteAt ini_RX0 ok_X0_byteAt (x_recv b hE (ci := 0) rfl (by decide) t3) ⟨Nat.le_of_ble_eq_true rfl, Nat.le_of_ble_eq_true rfl⟩ rfl hl.1 rfl (k_room _ (by exact Nat.le_of_ble_eq_true rfl)) ⟨Nat.le_refl _, Nat.le_refl _⟩ dX11_out_5 (fun H locs hE => ?_)
  cases hf
  exact k_iret b hlk hr hE (Nat.le_refl _) (Nat.le_refl _) dX11_out_8
def fX11_out (h : PH) (x0 : Nat) (x1 : Int32) : Option (Int32) := fX11_out_0 h x0 x1
set_option maxHeartbeats 4000000 in
theorem CX11_out (l : Launch) (D : va_G) (aC : Nat → ClassId) (ad : Nat → Nat) {Z : State → Prop} (zk : ZOK Z (Rg ad)) {h : PH} {x0 : Nat} {x1 : Int32} {rz : Int32} (hf : fX11_out h x0 x1 = some rz) : CM l D aC Z yX11_out cX11_out 2 (some .int) 1 21 0 0 (EX D aC ad h) [.ref (ad x0), .int x1] (EX D aC ad h) (some (.int rz)) (Rg ad) := by
  refine CM.of rfl ?_
  intro p e s m below meth c b hr hlk hin2 zs hE
  refine k_ent (Nat.le_of_ble_eq_true rfl) (fun ls hl => ?_)
  exact wfX11_out_0 b hlk hr zs zk hf hE (lv_sub hl [0, 1] rfl)
theorem dX11_rule_0 : decode cX11_rule 0 = .ok (.aload_n 0, 1) := by decide +kernel
theorem dX11_rule_1 : decode cX11_rule 1 = .ok (.getfield 22, 3) := by decide +kernel
theorem dX11_rule_4 : decode cX11_rule 4 = .ok (.iload_n 1, 1) := by decide +kernel
theorem dX11_rule_5 : decode cX11_rule 5 = .ok (.invokevirtual 179, 3) := by decide +kernel
theorem dX11_rule_8 : decode cX11_rule 8 = .ok (.astore_n 3, 1) := by decide +kernel
theorem dX11_rule_9 : decode cX11_rule 9 = .ok (.aload_n 3, 1) := by decide +kernel
theorem dX11_rule_10 : decode cX11_rule 10 = .ok (.ifnonnull 5, 3) := by decide +kernel
theorem dX11_rule_13 : decode cX11_rule 13 = .ok (.iconst (-1), 1) := by decide +kernel
theorem dX11_rule_14 : decode cX11_rule 14 = .ok (.ireturn, 1) := by decide +kernel
theorem dX11_rule_15 : decode cX11_rule 15 = .ok (.iload_n 2, 1) := by decide +kernel
theorem dX11_rule_16 : decode cX11_rule 16 = .ok (.tableswitch 84 0 5 #[40, 45, 50, 55, 60, 68], 40) := by decide +kernel
theorem dX11_rule_56 : decode cX11_rule 56 = .ok (.aload_n 3, 1) := by decide +kernel
theorem dX11_rule_57 : decode cX11_rule 57 = .ok (.getfield 183, 3) := by decide +kernel
theorem dX11_rule_60 : decode cX11_rule 60 = .ok (.ireturn, 1) := by decide +kernel
theorem dX11_rule_61 : decode cX11_rule 61 = .ok (.aload_n 3, 1) := by decide +kernel
theorem dX11_rule_62 : decode cX11_rule 62 = .ok (.getfield 188, 3) := by decide +kernel
theorem dX11_rule_65 : decode cX11_rule 65 = .ok (.ireturn, 1) := by decide +kernel
theorem dX11_rule_66 : decode cX11_rule 66 = .ok (.aload_n 3, 1) := by decide +kernel
theorem dX11_rule_67 : decode cX11_rule 67 = .ok (.getfield 191, 3) := by decide +kernel
theorem dX11_rule_70 : decode cX11_rule 70 = .ok (.ireturn, 1) := by decide +kernel
theorem dX11_rule_71 : decode cX11_rule 71 = .ok (.aload_n 3, 1) := by decide +kernel
theorem dX11_rule_72 : decode cX11_rule 72 = .ok (.getfield 192, 3) := by decide +kernel
theorem dX11_rule_75 : decode cX11_rule 75 = .ok (.ireturn, 1) := by decide +kernel
theorem dX11_rule_76 : decode cX11_rule 76 = .ok (.aload_n 3, 1) := by decide +kernel
theorem dX11_rule_77 : decode cX11_rule 77 = .ok (.getfield 195, 3) := by decide +kernel
theorem dX11_rule_80 : decode cX11_rule 80 = .ok (.getfield 199, 3) := by decide +kernel
theorem dX11_rule_83 : decode cX11_rule 83 = .ok (.ireturn, 1) := by decide +kernel
theorem dX11_rule_84 : decode cX11_rule 84 = .ok (.aload_n 3, 1) := by decide +kernel
theorem dX11_rule_85 : decode cX11_rule 85 = .ok (.getfield 195, 3) := by decide +kernel
theorem dX11_rule_88 : decode cX11_rule 88 = .ok (.getfield 204, 3) := by decide +kernel
theorem dX11_rule_91 : decode cX11_rule 91 = .ok (.ifCond .eq 7, 3) := by decide +kernel
theorem dX11_rule_94 : decode cX11_rule 94 = .ok (.iconst 1, 1) := by decide +kernel
theorem dX11_rule_95 : decode cX11_rule 95 = .ok (.goto 4, 3) := by decide +kernel
theorem dX11_rule_98 : decode cX11_rule 98 = .ok (.iconst 0, 1) := by decide +kernel
theorem dX11_rule_99 : decode cX11_rule 99 = .ok (.ireturn, 1) := by decide +kernel
theorem dX11_rule_100 : decode cX11_rule 100 = .ok (.iconst (-1), 1) := by decide +kernel
theorem dX11_rule_101 : decode cX11_rule 101 = .ok (.ireturn, 1) := by decide +kernel
def fX11_rule_0  (h : PH) (x0 : Nat) (x1 : Int32) (x2 : Int32) : Option (Int32) :=
  oC (decide (hT h x0 = 12)) (oN (hR h 1410 x0) (fun a2 => oC (decide (hT h a2 = 2)) (oB (fX1_ruleAt h a2 x1) (fun r5 => if r5 = none then (some ((-1))) else (if x2 = 0 then (oN r5 (fun a8 => oC (decide (hT h a8 = 9)) (some ((hI h 1024 a8))))) else (if x2 = 1 then (oN r5 (fun a11 => oC (decide (hT h a11 = 9)) (some ((hI h 1025 a11))))) else (if x2 = 2 then (oN r5 (fun a14 => oC (decide (hT h a14 = 9)) (some ((hI h 1027 a14))))) else (if x2 = 3 then (oN r5 (fun a17 => oC (decide (hT h a17 = 9)) (some ((hI h 1026 a17))))) else (if x2 = 4 then (oN r5 (fun a20 => oC (decide (hT h a20 = 9)) (oN (hR h 1029 a20) (fun a22 => oC (decide (hT h a22 = 3)) (some ((hI h 257 a22))))))) else (if x2 = 5 then (oN r5 (fun a25 => oC (decide (hT h a25 = 9)) (oN (hR h 1029 a25) (fun a27 => oC (decide (hT h a27 = 3)) (if (hI h 258 a27) = 0 then (some (0)) else (some (1))))))) else (some ((-1)))))))))))))
set_option maxHeartbeats 4000000 in
theorem wfX11_rule_0 {args : Array Value} (b : Bd p s m c cX11_rule 4 RX11 D aC) (hlk : meth.locks = false) (hr : meth.sig.returnType = some .int) {Z : State → Prop} (zs : Z s) (zk : ZOK Z (Rg ad)) {rz : Int32} {h : PH} {x0 : Nat} {x1 : Int32} {x2 : Int32}  {H : Heap} {locs : List Loc} {ls : Array Slot} (hf : fX11_rule_0 h x0 x1 x2 = some rz) (hE : CE (EX D aC ad h) (Rg ad) s H locs) (hl : lv_has ls 4 [(0, .ref (ad x0)), (1, .int x1), (2, .int x2)]) : W p l e (RM 1 21 0 0) s m args below meth c H locs 0 0 (MQ below (PQ (EX D aC ad h) (Rg ad) (some (.int rz))) args s 0 0 (Rg ad)) (F0 m 0 ls []) := by
  unfold fX11_rule_0 at hf
  refine lv_aload_n b.1 b.2.1 dX11_rule_0 rfl (lv_at hl 0 rfl) ?_
  obtain ⟨t1, hf⟩ := oC_s hf
  have t1 := of_decide_eq_true t1
  refine gX11_22 (x := (some x0)) b hE rfl t1 dX11_rule_1 ?_
  refine lv_iload_n b.1 b.2.1 dX11_rule_4 rfl (lv_at hl 1 rfl) ?_
  obtain ⟨a2, ea2, hf⟩ := oN_s hf
  obtain ⟨t3, hf⟩ := oC_s hf
  have t3 := of_decide_eq_true t3
  obtain ⟨r5, hc4, hf⟩ := oB_s hf
  refine k_stk [.int x1] ea2 ?_
  refine k_callV0 (C := RX1) b zs zk hE (CX1_ruleAt l D aC ad zk hc4) mc_X1_ruleAt (in5 168 rfl rfl) mi_X1_ruleAt ms_X1_ruleAt ini_RX1 ok_X1_ruleAt (x_recv b hE (ci := 1) rfl (by decide) t3) ⟨Nat.le_of_ble_eq_true rfl, Nat.le_of_ble_eq_true rfl⟩ rfl hl.1 rfl (k_room _ (by exact Nat.le_of_ble_eq_true rfl)) ⟨Nat.le_refl _, Nat.le_refl _⟩ dX11_rule_5 (fun H locs hE => ?_)
  refine k_astore_n (x := Option.map ad r5) (lv' := [(3, va_rf (Option.map ad r5)), (0, .ref (ad x0)), (1, .int x1), (2, .int x2)]) b dX11_rule_8 rfl hl (by decide) rfl (fun ls hl => ?_)
  have hl := lv_sub (l' := [(3, va_rf (Option.map ad r5)), (2, .int x2)]) hl [0, 3] rfl
  refine k_aload_n (x := Option.map ad r5) b dX11_rule_9 rfl (lv_at hl 0 rfl) ?_
  refine k_ifnonnull (x := Option.map ad r5) b dX11_rule_10 (tgt := 15) (by decide) (fun c6 => ?_) (fun c6 => ?_)
  · have hf := oI_f (fun z => c6 (Option.map_eq_none_iff.mpr z)) hf
    refine lv_iload_n b.1 b.2.1 dX11_rule_15 rfl (lv_at hl 1 rfl) ?_
    rcases Decidable.em (x2 = 0) with c7 | c7
    · have hf := oI_t c7 hf
      refine lv_tableIn (tgt := 56) b.1 b.2.1 dX11_rule_16 (off := 40) (by rw [c7]; decide) (by rw [c7]; decide) (by rw [c7] <;> rfl) (by decide) ?_
      refine k_aload_n (x := Option.map ad r5) b dX11_rule_56 rfl (lv_at hl 0 rfl) ?_
      obtain ⟨a8, ea8, hf⟩ := oN_s hf
      obtain ⟨t9, hf⟩ := oC_s hf
      have t9 := of_decide_eq_true t9
      refine gX11_183 (x := r5) b hE ea8 t9 dX11_rule_57 ?_
      cases hf
      exact k_iret b hlk hr hE (Nat.le_refl _) (Nat.le_refl _) dX11_rule_60
    have hf := oI_f c7 hf
    rcases Decidable.em (x2 = 1) with c10 | c10
    · have hf := oI_t c10 hf
      refine lv_tableIn (tgt := 61) b.1 b.2.1 dX11_rule_16 (off := 45) (by rw [c10]; decide) (by rw [c10]; decide) (by rw [c10] <;> rfl) (by decide) ?_
      refine k_aload_n (x := Option.map ad r5) b dX11_rule_61 rfl (lv_at hl 0 rfl) ?_
      obtain ⟨a11, ea11, hf⟩ := oN_s hf
      obtain ⟨t12, hf⟩ := oC_s hf
      have t12 := of_decide_eq_true t12
      refine gX11_188 (x := r5) b hE ea11 t12 dX11_rule_62 ?_
      cases hf
      exact k_iret b hlk hr hE (Nat.le_refl _) (Nat.le_refl _) dX11_rule_65
    have hf := oI_f c10 hf
    rcases Decidable.em (x2 = 2) with c13 | c13
    · have hf := oI_t c13 hf
      refine lv_tableIn (tgt := 66) b.1 b.2.1 dX11_rule_16 (off := 50) (by rw [c13]; decide) (by rw [c13]; decide) (by rw [c13] <;> rfl) (by decide) ?_
      refine k_aload_n (x := Option.map ad r5) b dX11_rule_66 rfl (lv_at hl 0 rfl) ?_
      obtain ⟨a14, ea14, hf⟩ := oN_s hf
      obtain ⟨t15, hf⟩ := oC_s hf
      have t15 := of_decide_eq_true t15
      refine gX11_191 (x := r5) b hE ea14 t15 dX11_rule_67 ?_
      cases hf
      exact k_iret b hlk hr hE (Nat.le_refl _) (Nat.le_refl _) dX11_rule_70
    have hf := oI_f c13 hf
    rcases Decidable.em (x2 = 3) with c16 | c16
    · have hf := oI_t c16 hf
      refine lv_tableIn (tgt := 71) b.1 b.2.1 dX11_rule_16 (off := 55) (by rw [c16]; decide) (by rw [c16]; decide) (by rw [c16] <;> rfl) (by decide) ?_
      refine k_aload_n (x := Option.map ad r5) b dX11_rule_71 rfl (lv_at hl 0 rfl) ?_
      obtain ⟨a17, ea17, hf⟩ := oN_s hf
      obtain ⟨t18, hf⟩ := oC_s hf
      have t18 := of_decide_eq_true t18
      refine gX11_192 (x := r5) b hE ea17 t18 dX11_rule_72 ?_
      cases hf
      exact k_iret b hlk hr hE (Nat.le_refl _) (Nat.le_refl _) dX11_rule_75
    have hf := oI_f c16 hf
    rcases Decidable.em (x2 = 4) with c19 | c19
    · have hf := oI_t c19 hf
      refine lv_tableIn (tgt := 76) b.1 b.2.1 dX11_rule_16 (off := 60) (by rw [c19]; decide) (by rw [c19]; decide) (by rw [c19] <;> rfl) (by decide) ?_
      refine k_aload_n (x := Option.map ad r5) b dX11_rule_76 rfl (lv_at hl 0 rfl) ?_
      obtain ⟨a20, ea20, hf⟩ := oN_s hf
      obtain ⟨t21, hf⟩ := oC_s hf
      have t21 := of_decide_eq_true t21
      refine gX11_195 (x := r5) b hE ea20 t21 dX11_rule_77 ?_
      obtain ⟨a22, ea22, hf⟩ := oN_s hf
      obtain ⟨t23, hf⟩ := oC_s hf
      have t23 := of_decide_eq_true t23
      refine gX11_199 (x := (hR h 1029 a20)) b hE ea22 t23 dX11_rule_80 ?_
      cases hf
      exact k_iret b hlk hr hE (Nat.le_refl _) (Nat.le_refl _) dX11_rule_83
    have hf := oI_f c19 hf
    rcases Decidable.em (x2 = 5) with c24 | c24
    · have hf := oI_t c24 hf
      refine lv_tableIn (tgt := 84) b.1 b.2.1 dX11_rule_16 (off := 68) (by rw [c24]; decide) (by rw [c24]; decide) (by rw [c24] <;> rfl) (by decide) ?_
      refine k_aload_n (x := Option.map ad r5) b dX11_rule_84 rfl (lv_at hl 0 rfl) ?_
      obtain ⟨a25, ea25, hf⟩ := oN_s hf
      obtain ⟨t26, hf⟩ := oC_s hf
      have t26 := of_decide_eq_true t26
      refine gX11_195 (x := r5) b hE ea25 t26 dX11_rule_85 ?_
      obtain ⟨a27, ea27, hf⟩ := oN_s hf
      obtain ⟨t28, hf⟩ := oC_s hf
      have t28 := of_decide_eq_true t28
      refine gX11_204 (x := (hR h 1029 a25)) b hE ea27 t28 dX11_rule_88 ?_
      refine lv_if_eq (tgt := 98) b.1 b.2.1 dX11_rule_91 (by decide) (fun c29 => ?_) (fun c29 => ?_)
      · have hf := oI_t c29 hf
        refine lv_iconst (v := 0) b.1 b.2.1 dX11_rule_98 (by decide) ?_
        cases hf
        exact k_iret b hlk hr hE (Nat.le_refl _) (Nat.le_refl _) dX11_rule_99
      · have hf := oI_f c29 hf
        refine lv_iconst (v := 1) b.1 b.2.1 dX11_rule_94 (by decide) ?_
        refine lv_goto (tgt := 99) b.1 b.2.1 dX11_rule_95 (by decide) ?_
        cases hf
        exact k_iret b hlk hr hE (Nat.le_refl _) (Nat.le_refl _) dX11_rule_99
    have hf := oI_f c24 hf
    have c7 := lv_neT (a := 0) c7 (by decide)
    have c10 := lv_neT (a := 1) c10 (by decide)
    have c13 := lv_neT (a := 2) c13 (by decide)
    have c16 := lv_neT (a := 3) c16 (by decide)
    have c19 := lv_neT (a := 4) c19 (by decide)
    have c24 := lv_neT (a := 5) c24 (by decide)
    refine lv_tableOut (tgt := 100) b.1 b.2.1 dX11_rule_16 (by omega) (by decide) ?_
    refine lv_iconst (v := (-1)) b.1 b.2.1 dX11_rule_100 (by decide) ?_
    cases hf
    exact k_iret b hlk hr hE (Nat.le_refl _) (Nat.le_refl _) dX11_rule_101
  · have hf := oI_t (Option.map_eq_none_iff.mp c6) hf
    refine lv_iconst (v := (-1)) b.1 b.2.1 dX11_rule_13 (by decide) ?_
    cases hf
    exact k_iret b hlk hr hE (Nat.le_refl _) (Nat.le_refl _) dX11_rule_14
def fX11_rule (h : PH) (x0 : Nat) (x1 : Int32) (x2 : Int32) : Option (Int32) := fX11_rule_0 h x0 x1 x2
set_option maxHeartbeats 4000000 in
theorem CX11_rule (l : Launch) (D : va_G) (aC : Nat → ClassId) (ad : Nat → Nat) {Z : State → Prop} (zk : ZOK Z (Rg ad)) {h : PH} {x0 : Nat} {x1 : Int32} {x2 : Int32} {rz : Int32} (hf : fX11_rule h x0 x1 x2 = some rz) : CM l D aC Z yX11_rule cX11_rule 4 (some .int) 1 21 0 0 (EX D aC ad h) [.ref (ad x0), .int x1, .int x2] (EX D aC ad h) (some (.int rz)) (Rg ad) := by
  refine CM.of rfl ?_
  intro p e s m below meth c b hr hlk hin2 zs hE
  refine k_ent (Nat.le_of_ble_eq_true rfl) (fun ls hl => ?_)
  exact wfX11_rule_0 b hlk hr zs zk hf hE (lv_sub hl [0, 1, 2] rfl)
theorem dX11_law_0 : decode cX11_law 0 = .ok (.aload_n 0, 1) := by decide +kernel
theorem dX11_law_1 : decode cX11_law 1 = .ok (.getfield 22, 3) := by decide +kernel
theorem dX11_law_4 : decode cX11_law 4 = .ok (.iload_n 1, 1) := by decide +kernel
theorem dX11_law_5 : decode cX11_law 5 = .ok (.iload_n 2, 1) := by decide +kernel
theorem dX11_law_6 : decode cX11_law 6 = .ok (.invokevirtual 208, 3) := by decide +kernel
theorem dX11_law_9 : decode cX11_law 9 = .ok (.ireturn, 1) := by decide +kernel
def fX11_law_0  (h : PH) (x0 : Nat) (x1 : Int32) (x2 : Int32) : Option (Int32) :=
  oC (decide (hT h x0 = 12)) (oN (hR h 1410 x0) (fun a2 => oC (decide (hT h a2 = 2)) (oB (fX1_lawColumn h a2 x1 x2) (fun r5 => some (r5)))))
set_option maxHeartbeats 4000000 in
theorem wfX11_law_0 {args : Array Value} (b : Bd p s m c cX11_law 3 RX11 D aC) (hlk : meth.locks = false) (hr : meth.sig.returnType = some .int) {Z : State → Prop} (zs : Z s) (zk : ZOK Z (Rg ad)) {rz : Int32} {h : PH} {x0 : Nat} {x1 : Int32} {x2 : Int32}  {H : Heap} {locs : List Loc} {ls : Array Slot} (hf : fX11_law_0 h x0 x1 x2 = some rz) (hE : CE (EX D aC ad h) (Rg ad) s H locs) (hl : lv_has ls 3 [(0, .ref (ad x0)), (1, .int x1), (2, .int x2)]) : W p l e (RM 1 23 0 0) s m args below meth c H locs 0 0 (MQ below (PQ (EX D aC ad h) (Rg ad) (some (.int rz))) args s 0 0 (Rg ad)) (F0 m 0 ls []) := by
  unfold fX11_law_0 at hf
  refine lv_aload_n b.1 b.2.1 dX11_law_0 rfl (lv_at hl 0 rfl) ?_
  obtain ⟨t1, hf⟩ := oC_s hf
  have t1 := of_decide_eq_true t1
  refine gX11_22 (x := (some x0)) b hE rfl t1 dX11_law_1 ?_
  refine lv_iload_n b.1 b.2.1 dX11_law_4 rfl (lv_at hl 1 rfl) ?_
  refine lv_iload_n b.1 b.2.1 dX11_law_5 rfl (lv_at hl 2 rfl) ?_
  obtain ⟨a2, ea2, hf⟩ := oN_s hf
  obtain ⟨t3, hf⟩ := oC_s hf
  have t3 := of_decide_eq_true t3
  obtain ⟨r5, hc4, hf⟩ := oB_s hf
  refine k_stk [.int x2, .int x1] ea2 ?_
  refine k_callV0 (C := RX1) b zs zk hE (CX1_lawColumn l D aC ad zk hc4) mc_X1_lawColumn (in5 173 rfl rfl) mi_X1_lawColumn ms_X1_lawColumn ini_RX1 ok_X1_lawColumn (x_recv b hE (ci := 1) rfl (by decide) t3) ⟨Nat.le_of_ble_eq_true rfl, Nat.le_of_ble_eq_true rfl⟩ rfl hl.1 rfl (k_room _ (by exact Nat.le_of_ble_eq_true rfl)) ⟨Nat.le_refl _, Nat.le_refl _⟩ dX11_law_6 (fun H locs hE => ?_)
  cases hf
  exact k_iret b hlk hr hE (Nat.le_refl _) (Nat.le_refl _) dX11_law_9
def fX11_law (h : PH) (x0 : Nat) (x1 : Int32) (x2 : Int32) : Option (Int32) := fX11_law_0 h x0 x1 x2
set_option maxHeartbeats 4000000 in
theorem CX11_law (l : Launch) (D : va_G) (aC : Nat → ClassId) (ad : Nat → Nat) {Z : State → Prop} (zk : ZOK Z (Rg ad)) {h : PH} {x0 : Nat} {x1 : Int32} {x2 : Int32} {rz : Int32} (hf : fX11_law h x0 x1 x2 = some rz) : CM l D aC Z yX11_law cX11_law 3 (some .int) 1 23 0 0 (EX D aC ad h) [.ref (ad x0), .int x1, .int x2] (EX D aC ad h) (some (.int rz)) (Rg ad) := by
  refine CM.of rfl ?_
  intro p e s m below meth c b hr hlk hin2 zs hE
  refine k_ent (Nat.le_of_ble_eq_true rfl) (fun ls hl => ?_)
  exact wfX11_law_0 b hlk hr zs zk hf hE (lv_sub hl [0, 1, 2] rfl)
end
