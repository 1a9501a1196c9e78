section
variable {p : Program} {l : Launch} {e : Env} {s : State} {m : MethodId} {below : List Frame} {meth : Method} {c : Code} {D : va_G} {aC : Nat → ClassId} {ad : Nat → Nat}
theorem dX10_scan_0 : decode cX10_scan 0 = .ok (.aload_n 0, 1) := by decide +kernel
theorem dX10_scan_1 : decode cX10_scan 1 = .ok (.aload_n 1, 1) := by decide +kernel
theorem dX10_scan_2 : decode cX10_scan 2 = .ok (.putfield 37, 3) := by decide +kernel
theorem dX10_scan_5 : decode cX10_scan 5 = .ok (.aload_n 0, 1) := by decide +kernel
theorem dX10_scan_6 : decode cX10_scan 6 = .ok (.iconst 0, 1) := by decide +kernel
theorem dX10_scan_7 : decode cX10_scan 7 = .ok (.putfield 41, 3) := by decide +kernel
theorem dX10_scan_10 : decode cX10_scan 10 = .ok (.aload_n 0, 1) := by decide +kernel
theorem dX10_scan_11 : decode cX10_scan 11 = .ok (.iconst 0, 1) := by decide +kernel
theorem dX10_scan_12 : decode cX10_scan 12 = .ok (.putfield 45, 3) := by decide +kernel
theorem dX10_scan_15 : decode cX10_scan 15 = .ok (.aload_n 0, 1) := by decide +kernel
theorem dX10_scan_16 : decode cX10_scan 16 = .ok (.aload_n 1, 1) := by decide +kernel
theorem dX10_scan_17 : decode cX10_scan 17 = .ok (.getfield 48, 3) := by decide +kernel
theorem dX10_scan_20 : decode cX10_scan 20 = .ok (.sipush 1200, 3) := by decide +kernel
theorem dX10_scan_23 : decode cX10_scan 23 = .ok (.invokestatic 52, 3) := by decide +kernel
theorem dX10_scan_26 : decode cX10_scan 26 = .ok (.iconst 1, 1) := by decide +kernel
theorem dX10_scan_27 : decode cX10_scan 27 = .ok (.iadd, 1) := by decide +kernel
theorem dX10_scan_28 : decode cX10_scan 28 = .ok (.invokevirtual 58, 3) := by decide +kernel
theorem dX10_scan_31 : decode cX10_scan 31 = .ok (.iconst 1, 1) := by decide +kernel
theorem dX10_scan_32 : decode cX10_scan 32 = .ok (.istore_n 2, 1) := by decide +kernel
theorem dX10_scan_33 : decode cX10_scan 33 = .ok (.iconst 0, 1) := by decide +kernel
theorem dX10_scan_34 : decode cX10_scan 34 = .ok (.istore_n 3, 1) := by decide +kernel
theorem dX10_scan_35 : decode cX10_scan 35 = .ok (.iload_n 3, 1) := by decide +kernel
theorem dX10_scan_36 : decode cX10_scan 36 = .ok (.aload_n 0, 1) := by decide +kernel
theorem dX10_scan_37 : decode cX10_scan 37 = .ok (.getfield 15, 3) := by decide +kernel
theorem dX10_scan_40 : decode cX10_scan 40 = .ok (.arraylength, 1) := by decide +kernel
theorem dX10_scan_41 : decode cX10_scan 41 = .ok (.if_icmp .ge 89, 3) := by decide +kernel
theorem dX10_scan_44 : decode cX10_scan 44 = .ok (.iload_n 3, 1) := by decide +kernel
theorem dX10_scan_45 : decode cX10_scan 45 = .ok (.sipush 1200, 3) := by decide +kernel
theorem dX10_scan_48 : decode cX10_scan 48 = .ok (.if_icmp .gt 82, 3) := by decide +kernel
theorem dX10_scan_51 : decode cX10_scan 51 = .ok (.iload_n 2, 1) := by decide +kernel
theorem dX10_scan_52 : decode cX10_scan 52 = .ok (.ifCond .eq 78, 3) := by decide +kernel
theorem dX10_scan_55 : decode cX10_scan 55 = .ok (.aload_n 0, 1) := by decide +kernel
theorem dX10_scan_56 : decode cX10_scan 56 = .ok (.invokevirtual 62, 3) := by decide +kernel
theorem dX10_scan_59 : decode cX10_scan 59 = .ok (.aload_n 0, 1) := by decide +kernel
theorem dX10_scan_60 : decode cX10_scan 60 = .ok (.getfield 19, 3) := by decide +kernel
theorem dX10_scan_63 : decode cX10_scan 63 = .ok (.iload_n 3, 1) := by decide +kernel
theorem dX10_scan_64 : decode cX10_scan 64 = .ok (.aload_n 0, 1) := by decide +kernel
theorem dX10_scan_65 : decode cX10_scan 65 = .ok (.getfield 41, 3) := by decide +kernel
theorem dX10_scan_68 : decode cX10_scan 68 = .ok (.iastore, 1) := by decide +kernel
theorem dX10_scan_69 : decode cX10_scan 69 = .ok (.aload_n 0, 1) := by decide +kernel
theorem dX10_scan_70 : decode cX10_scan 70 = .ok (.getfield 22, 3) := by decide +kernel
theorem dX10_scan_73 : decode cX10_scan 73 = .ok (.iload_n 3, 1) := by decide +kernel
theorem dX10_scan_74 : decode cX10_scan 74 = .ok (.lconst 0, 1) := by decide +kernel
theorem dX10_scan_75 : decode cX10_scan 75 = .ok (.lastore, 1) := by decide +kernel
theorem dX10_scan_76 : decode cX10_scan 76 = .ok (.aload_n 0, 1) := by decide +kernel
theorem dX10_scan_77 : decode cX10_scan 77 = .ok (.getfield 15, 3) := by decide +kernel
theorem dX10_scan_80 : decode cX10_scan 80 = .ok (.iload_n 3, 1) := by decide +kernel
theorem dX10_scan_81 : decode cX10_scan 81 = .ok (.aload_n 0, 1) := by decide +kernel
theorem dX10_scan_82 : decode cX10_scan 82 = .ok (.iload_n 3, 1) := by decide +kernel
theorem dX10_scan_83 : decode cX10_scan 83 = .ok (.invokevirtual 65, 3) := by decide +kernel
theorem dX10_scan_86 : decode cX10_scan 86 = .ok (.iastore, 1) := by decide +kernel
theorem dX10_scan_87 : decode cX10_scan 87 = .ok (.aload_n 0, 1) := by decide +kernel
theorem dX10_scan_88 : decode cX10_scan 88 = .ok (.iload_n 3, 1) := by decide +kernel
theorem dX10_scan_89 : decode cX10_scan 89 = .ok (.iconst 1, 1) := by decide +kernel
theorem dX10_scan_90 : decode cX10_scan 90 = .ok (.iadd, 1) := by decide +kernel
theorem dX10_scan_91 : decode cX10_scan 91 = .ok (.putfield 45, 3) := by decide +kernel
theorem dX10_scan_94 : decode cX10_scan 94 = .ok (.aload_n 0, 1) := by decide +kernel
theorem dX10_scan_95 : decode cX10_scan 95 = .ok (.getfield 15, 3) := by decide +kernel
theorem dX10_scan_98 : decode cX10_scan 98 = .ok (.iload_n 3, 1) := by decide +kernel
theorem dX10_scan_99 : decode cX10_scan 99 = .ok (.iaload, 1) := by decide +kernel
theorem dX10_scan_100 : decode cX10_scan 100 = .ok (.sipush 263, 3) := by decide +kernel
theorem dX10_scan_103 : decode cX10_scan 103 = .ok (.if_icmp .eq 19, 3) := by decide +kernel
theorem dX10_scan_106 : decode cX10_scan 106 = .ok (.aload_n 0, 1) := by decide +kernel
theorem dX10_scan_107 : decode cX10_scan 107 = .ok (.getfield 15, 3) := by decide +kernel
theorem dX10_scan_110 : decode cX10_scan 110 = .ok (.iload_n 3, 1) := by decide +kernel
theorem dX10_scan_111 : decode cX10_scan 111 = .ok (.iaload, 1) := by decide +kernel
theorem dX10_scan_112 : decode cX10_scan 112 = .ok (.sipush 264, 3) := by decide +kernel
theorem dX10_scan_115 : decode cX10_scan 115 = .ok (.if_icmp .eq 7, 3) := by decide +kernel
theorem dX10_scan_118 : decode cX10_scan 118 = .ok (.iconst 1, 1) := by decide +kernel
theorem dX10_scan_119 : decode cX10_scan 119 = .ok (.goto 4, 3) := by decide +kernel
theorem dX10_scan_122 : decode cX10_scan 122 = .ok (.iconst 0, 1) := by decide +kernel
theorem dX10_scan_123 : decode cX10_scan 123 = .ok (.istore_n 2, 1) := by decide +kernel
theorem dX10_scan_124 : decode cX10_scan 124 = .ok (.iinc 3 1, 3) := by decide +kernel
theorem dX10_scan_127 : decode cX10_scan 127 = .ok (.goto (-92), 3) := by decide +kernel
theorem dX10_scan_130 : decode cX10_scan 130 = .ok (.return_, 1) := by decide +kernel
def fX10_scan_123 (k35 : PH → Nat → Int32 → Int32 → Option (PH × Nat × Nat)) (h : PH) (x0 : Nat) (x3 : Int32) (s0 : Int32) : Option (PH × Nat × Nat) :=
  oL (x3 + 1) (fun y1 => k35 h x0 s0 y1)
set_option maxHeartbeats 4000000 in
theorem wfX10_scan_123 {mc ms cells slots : Nat} {args : Array Value} (b : Bd p s m c cX10_scan 4 RX10 D aC) (hlk : meth.locks = false) (hr : meth.sig.returnType = none) {Z : State → Prop} (zs : Z s) (zk : ZOK Z (Rg ad)) {hz : PH} {k35 : PH → Nat → Int32 → Int32 → Option (PH × Nat × Nat)} (H35 : ∀ (h : PH) (x0 : Nat) (x2 : Int32) (x3 : Int32), ∀ (cells slots kz mz : Nat) (H : Heap) (locs : List Loc) (ls : Array Slot), k35 h x0 x2 x3 = some (hz, kz, mz) → cells + kz ≤ mc → slots + mz ≤ ms → CE (EX D aC ad h) (Rg ad) s H locs → lv_has ls 4 [(0, .ref (ad x0)), (2, .int x2), (3, .int x3)] → W p l e (RM 3 68 mc ms) s m args below meth c H locs cells slots (MQ below (PQ (EX D aC ad hz) (Rg ad) none) args s mc ms (Rg ad)) (F0 m 35 ls [])) {h : PH} {x0 : Nat} {x3 : Int32} {s0 : Int32} {kz : Nat} {mz : Nat}  {H : Heap} {locs : List Loc} {ls : Array Slot} (hf : fX10_scan_123 k35 h x0 x3 s0 = some (hz, kz, mz)) (hk : cells + kz ≤ mc) (hs : slots + mz ≤ ms) (hE : CE (EX D aC ad h) (Rg ad) s H locs) (hl : lv_has ls 4 [(0, .ref (ad x0)), (3, .int x3)]) : W p l e (RM 3 68 mc ms) s m args below meth c H locs cells slots (MQ below (PQ (EX D aC ad hz) (Rg ad) none) args s mc ms (Rg ad)) (F0 m 123 ls [.int s0]) := by
  unfold fX10_scan_123 at hf
  refine lv_istore_n (lv' := [(2, .int s0), (0, .ref (ad x0)), (3, .int x3)]) b.1 b.2.1 dX10_scan_123 rfl hl (by decide) rfl (fun ls hl => ?_)
  obtain ⟨y1, ey1, hf⟩ := oL_s hf
  refine lv_iinc (v := y1) (lv' := [(3, .int y1), (2, .int s0), (0, .ref (ad x0))]) b.1 b.2.1 dX10_scan_124 hl (k := 2) rfl (by rw [ey1]; rfl) (by decide) rfl (fun ls hl => ?_)
  refine lv_goto (tgt := 35) b.1 b.2.1 dX10_scan_127 (by decide) ?_
  exact H35 h x0 s0 y1 _ _ _ _ _ _ _ hf hk hs hE (lv_sub hl [2, 1, 0] rfl)
def fX10_scan_35F (k35 : PH → Nat → Int32 → Int32 → Option (PH × Nat × Nat)) (h : PH) (x0 : Nat) (x2 : Int32) (x3 : Int32) : Option (PH × Nat × Nat) :=
  oC (decide (hT h x0 = 11)) (oN (hR h 1281 x0) (fun a3 => oC (decide (hT h a3 = 101)) (if (nI (hN h a3)) ≤ x3 then (some (h, 0, 0)) else (if 1200 < x3 then (some (h, 0, 0)) else (if x2 = 0 then (some (h, 0, 0)) else (oB (fX10_skipBlanks h x0) (fun h9 => oC (decide (hT h9 x0 = 11)) (oN (hR h9 1282 x0) (fun a11 => oC (decide (hT h9 a11 = 101)) (oC (ix x3 (hN h9 a11)) (oL (sA h9 a11 (Int32.toNatClampNeg x3) (hI h9 1286 x0)) (fun h14 => oN (hR h14 1283 x0) (fun a16 => oC (decide (hT h14 a16 = 102)) (oC (ix x3 (hN h14 a16)) (oL (sB h14 a16 (Int32.toNatClampNeg x3) 0) (fun h19 => oB2 (fX10_next h19 x0 x3) (fun h23 r22 => oN (hR h19 1281 x0) (fun a24 => oC (decide (hT h23 a24 = 101)) (oC (ix x3 (hN h23 a24)) (oL (sA h23 a24 (Int32.toNatClampNeg x3) r22) (fun h27 => oC (decide (hT h27 x0 = 11)) (oL (sI h27 1284 x0 (x3 + 1)) (fun h29 => oN (hR h29 1281 x0) (fun a31 => oC (decide (hT h29 a31 = 101)) (oC (ix x3 (hN h29 a31)) (if (hA h29 a31 (Int32.toNatClampNeg x3)) = 263 then (fX10_scan_123 k35 h29 x0 x3 0) else (oC (ix x3 (hN h29 a31)) (if (hA h29 a31 (Int32.toNatClampNeg x3)) = 264 then (fX10_scan_123 k35 h29 x0 x3 0) else (fX10_scan_123 k35 h29 x0 x3 1)))))))))))))))))))))))))))))
set_option maxHeartbeats 4000000 in
theorem wfX10_scan_35F {mc ms cells slots : Nat} {args : Array Value} (b : Bd p s m c cX10_scan 4 RX10 D aC) (hlk : meth.locks = false) (hr : meth.sig.returnType = none) {Z : State → Prop} (zs : Z s) (zk : ZOK Z (Rg ad)) {hz : PH} {k35 : PH → Nat → Int32 → Int32 → Option (PH × Nat × Nat)} (H35 : ∀ (h : PH) (x0 : Nat) (x2 : Int32) (x3 : Int32), ∀ (cells slots kz mz : Nat) (H : Heap) (locs : List Loc) (ls : Array Slot), k35 h x0 x2 x3 = some (hz, kz, mz) → cells + kz ≤ mc → slots + mz ≤ ms → CE (EX D aC ad h) (Rg ad) s H locs → lv_has ls 4 [(0, .ref (ad x0)), (2, .int x2), (3, .int x3)] → W p l e (RM 3 68 mc ms) s m args below meth c H locs cells slots (MQ below (PQ (EX D aC ad hz) (Rg ad) none) args s mc ms (Rg ad)) (F0 m 35 ls [])) {h : PH} {x0 : Nat} {x2 : Int32} {x3 : Int32} {kz : Nat} {mz : Nat}  {H : Heap} {locs : List Loc} {ls : Array Slot} (hf : fX10_scan_35F k35 h x0 x2 x3 = some (hz, kz, mz)) (hk : cells + kz ≤ mc) (hs : slots + mz ≤ ms) (hE : CE (EX D aC ad h) (Rg ad) s H locs) (hl : lv_has ls 4 [(0, .ref (ad x0)), (2, .int x2), (3, .int x3)]) : W p l e (RM 3 68 mc ms) s m args below meth c H locs cells slots (MQ below (PQ (EX D aC ad hz) (Rg ad) none) args s mc ms (Rg ad)) (F0 m 35 ls []) := by
  unfold fX10_scan_35F at hf
  refine lv_iload_n b.1 b.2.1 dX10_scan_35 rfl (lv_at hl 2 rfl) ?_
  refine lv_aload_n b.1 b.2.1 dX10_scan_36 rfl (lv_at hl 0 rfl) ?_
  obtain ⟨t2, hf⟩ := oC_s hf
  have t2 := of_decide_eq_true t2
  refine gX10_15 (x := (some x0)) b hE rfl t2 dX10_scan_37 ?_
  obtain ⟨a3, ea3, hf⟩ := oN_s hf
  obtain ⟨t4, hf⟩ := oC_s hf
  have t4 := of_decide_eq_true t4
  refine q_alen (x := (hR h 1281 x0)) (k := 1) b hE ea3 (by decide) t4 dX10_scan_40 ?_
  refine lv_icmp_ge (tgt := 130) b.1 b.2.1 dX10_scan_41 (by decide) (fun c5 => ?_) (fun c5 => ?_)
  · have hf := oI_t c5 hf
    cases hf
    exact k_vret b hlk hr hE (le_c hk) (le_c hs) dX10_scan_130
  · have hf := oI_f c5 hf
    refine lv_iload_n b.1 b.2.1 dX10_scan_44 rfl (lv_at hl 2 rfl) ?_
    refine lv_sipush (v := 1200) b.1 b.2.1 dX10_scan_45 (by decide) ?_
    refine lv_icmp_gt (tgt := 130) b.1 b.2.1 dX10_scan_48 (by decide) (fun c6 => ?_) (fun c6 => ?_)
    · have hf := oI_t c6 hf
      cases hf
      exact k_vret b hlk hr hE (le_c hk) (le_c hs) dX10_scan_130
    · have hf := oI_f c6 hf
      refine lv_iload_n b.1 b.2.1 dX10_scan_51 rfl (lv_at hl 1 rfl) ?_
      refine lv_if_eq (tgt := 130) b.1 b.2.1 dX10_scan_52 (by decide) (fun c7 => ?_) (fun c7 => ?_)
      · have hf := oI_t c7 hf
        cases hf
        exact k_vret b hlk hr hE (le_c hk) (le_c hs) dX10_scan_130
      · have hf := oI_f c7 hf
        refine lv_aload_n b.1 b.2.1 dX10_scan_55 rfl (lv_at hl 0 rfl) ?_
        obtain ⟨h9, hc8, hf⟩ := oB_s hf
        refine k_callV0 (C := RX10) b zs zk hE (CX10_skipBlanks l D aC ad zk hc8) mc_X10_skipBlanks (in2 125 rfl rfl) mi_X10_skipBlanks ms_X10_skipBlanks ini_RX10 ok_X10_skipBlanks (x_recv b hE (ci := 10) rfl (by decide) t2) ⟨Nat.le_of_ble_eq_true rfl, Nat.le_of_ble_eq_true rfl⟩ rfl hl.1 rfl (k_room _ (by exact Nat.le_of_ble_eq_true rfl)) ⟨le_0 hk, le_0 hs⟩ dX10_scan_56 (fun H locs hE => ?_)
        refine lv_aload_n b.1 b.2.1 dX10_scan_59 rfl (lv_at hl 0 rfl) ?_
        obtain ⟨t10, hf⟩ := oC_s hf
        have t10 := of_decide_eq_true t10
        refine gX10_19 (x := (some x0)) b hE rfl t10 dX10_scan_60 ?_
        refine lv_iload_n b.1 b.2.1 dX10_scan_63 rfl (lv_at hl 2 rfl) ?_
        refine lv_aload_n b.1 b.2.1 dX10_scan_64 rfl (lv_at hl 0 rfl) ?_
        refine gX10_41 (x := (some x0)) b hE rfl t10 dX10_scan_65 ?_
        obtain ⟨a11, ea11, hf⟩ := oN_s hf
        obtain ⟨t12, hf⟩ := oC_s hf
        have t12 := of_decide_eq_true t12
        obtain ⟨g13, hf⟩ := oC_s hf
        obtain ⟨h14, eh14, hf⟩ := oL_s hf
        refine q_iast (x := (hR h9 1282 x0)) b hE ea11 t12 g13 eh14 dX10_scan_68 (fun H locs hE => ?_)
        refine lv_aload_n b.1 b.2.1 dX10_scan_69 rfl (lv_at hl 0 rfl) ?_
        have t15 := tg_sA eh14 t10
        refine gX10_22 (x := (some x0)) b hE rfl t15 dX10_scan_70 ?_
        refine lv_iload_n b.1 b.2.1 dX10_scan_73 rfl (lv_at hl 2 rfl) ?_
        refine lv_lconst (v := 0) b.1 b.2.1 dX10_scan_74 rfl ?_
        obtain ⟨a16, ea16, hf⟩ := oN_s hf
        obtain ⟨t17, hf⟩ := oC_s hf
        have t17 := of_decide_eq_true t17
        obtain ⟨g18, hf⟩ := oC_s hf
        obtain ⟨h19, eh19, hf⟩ := oL_s hf
        refine q_last (x := (hR h14 1283 x0)) b hE ea16 t17 g18 eh19 dX10_scan_75 (fun H locs hE => ?_)
        refine lv_aload_n b.1 b.2.1 dX10_scan_76 rfl (lv_at hl 0 rfl) ?_
        have t20 := tg_sB eh19 t15
        refine gX10_15 (x := (some x0)) b hE rfl t20 dX10_scan_77 ?_
        refine lv_iload_n b.1 b.2.1 dX10_scan_80 rfl (lv_at hl 2 rfl) ?_
        refine lv_aload_n b.1 b.2.1 dX10_scan_81 rfl (lv_at hl 0 rfl) ?_
        refine lv_iload_n b.1 b.2.1 dX10_scan_82 rfl (lv_at hl 2 rfl) ?_
        obtain ⟨h23, r22, hc21, hf⟩ := oB2_s hf
        refine k_callV0 (C := RX10) b zs zk hE (CX10_next l D aC ad zk hc21) mc_X10_next (in2 136 rfl rfl) mi_X10_next ms_X10_next ini_RX10 ok_X10_next (x_recv b hE (ci := 10) rfl (by decide) t20) ⟨Nat.le_of_ble_eq_true rfl, Nat.le_of_ble_eq_true rfl⟩ rfl hl.1 rfl (k_room _ (by exact Nat.le_of_ble_eq_true rfl)) ⟨le_0 hk, le_0 hs⟩ dX10_scan_83 (fun H locs hE => ?_)
        obtain ⟨a24, ea24, hf⟩ := oN_s hf
        obtain ⟨t25, hf⟩ := oC_s hf
        have t25 := of_decide_eq_true t25
        obtain ⟨g26, hf⟩ := oC_s hf
        obtain ⟨h27, eh27, hf⟩ := oL_s hf
        refine q_iast (x := (hR h19 1281 x0)) b hE ea24 t25 g26 eh27 dX10_scan_86 (fun H locs hE => ?_)
        refine lv_aload_n b.1 b.2.1 dX10_scan_87 rfl (lv_at hl 0 rfl) ?_
        refine lv_iload_n b.1 b.2.1 dX10_scan_88 rfl (lv_at hl 2 rfl) ?_
        refine lv_iconst (v := 1) b.1 b.2.1 dX10_scan_89 (by decide) ?_
        refine lv_iadd b.1 b.2.1 dX10_scan_90 ?_
        obtain ⟨t28, hf⟩ := oC_s hf
        have t28 := of_decide_eq_true t28
        obtain ⟨h29, eh29, hf⟩ := oL_s hf
        refine pX10_45 (x := (some x0)) b hE rfl t28 eh29 dX10_scan_91 (fun H locs hE => ?_)
        refine lv_aload_n b.1 b.2.1 dX10_scan_94 rfl (lv_at hl 0 rfl) ?_
        have t30 := tg_sI eh29 t28
        refine gX10_15 (x := (some x0)) b hE rfl t30 dX10_scan_95 ?_
        refine lv_iload_n b.1 b.2.1 dX10_scan_98 rfl (lv_at hl 2 rfl) ?_
        obtain ⟨a31, ea31, hf⟩ := oN_s hf
        obtain ⟨t32, hf⟩ := oC_s hf
        have t32 := of_decide_eq_true t32
        obtain ⟨g33, hf⟩ := oC_s hf
        refine q_iald (x := (hR h29 1281 x0)) b hE ea31 t32 g33 dX10_scan_99 ?_
        refine lv_sipush (v := 263) b.1 b.2.1 dX10_scan_100 (by decide) ?_
        refine lv_icmp_eq (tgt := 122) b.1 b.2.1 dX10_scan_103 (by decide) (fun c34 => ?_) (fun c34 => ?_)
        · have hf := oI_t c34 hf
          refine lv_iconst (v := 0) b.1 b.2.1 dX10_scan_122 (by decide) ?_
          exact wfX10_scan_123 b hlk hr zs zk H35 hf hk hs hE (lv_sub hl [0, 2] rfl)
        · have hf := oI_f c34 hf
          refine lv_aload_n b.1 b.2.1 dX10_scan_106 rfl (lv_at hl 0 rfl) ?_
          refine gX10_15 (x := (some x0)) b hE rfl t30 dX10_scan_107 ?_
          refine lv_iload_n b.1 b.2.1 dX10_scan_110 rfl (lv_at hl 2 rfl) ?_
          obtain ⟨g35, hf⟩ := oC_s hf
          refine q_iald (x := (hR h29 1281 x0)) b hE ea31 t32 g35 dX10_scan_111 ?_
          refine lv_sipush (v := 264) b.1 b.2.1 dX10_scan_112 (by decide) ?_
          refine lv_icmp_eq (tgt := 122) b.1 b.2.1 dX10_scan_115 (by decide) (fun c36 => ?_) (fun c36 => ?_)
          · have hf := oI_t c36 hf
            refine lv_iconst (v := 0) b.1 b.2.1 dX10_scan_122 (by decide) ?_
            exact wfX10_scan_123 b hlk hr zs zk H35 hf hk hs hE (lv_sub hl [0, 2] rfl)
          · have hf := oI_f c36 hf
            refine lv_iconst (v := 1) b.1 b.2.1 dX10_scan_118 (by decide) ?_
            refine lv_goto (tgt := 123) b.1 b.2.1 dX10_scan_119 (by decide) ?_
            exact wfX10_scan_123 b hlk hr zs zk H35 hf hk hs hE (lv_sub hl [0, 2] rfl)
def fX10_scan_35  : Nat → PH → Nat → Int32 → Int32 → Option (PH × Nat × Nat)
  | 0 => fun _ _ _ _ => none
  | n + 1 => fX10_scan_35F  (fX10_scan_35  n)
set_option maxHeartbeats 4000000 in
theorem wfX10_scan_35 {mc ms : Nat} {args : Array Value} (b : Bd p s m c cX10_scan 4 RX10 D aC) (hlk : meth.locks = false) (hr : meth.sig.returnType = none) {Z : State → Prop} (zs : Z s) (zk : ZOK Z (Rg ad)) {hz : PH} : ∀ n : Nat, ∀ (h : PH) (x0 : Nat) (x2 : Int32) (x3 : Int32), ∀ (cells slots kz mz : Nat) (H : Heap) (locs : List Loc) (ls : Array Slot), fX10_scan_35  n h x0 x2 x3 = some (hz, kz, mz) → cells + kz ≤ mc → slots + mz ≤ ms → CE (EX D aC ad h) (Rg ad) s H locs → lv_has ls 4 [(0, .ref (ad x0)), (2, .int x2), (3, .int x3)] → W p l e (RM 3 68 mc ms) s m args below meth c H locs cells slots (MQ below (PQ (EX D aC ad hz) (Rg ad) none) args s mc ms (Rg ad)) (F0 m 35 ls []) := by
  intro n
  induction n with
  | zero =>
    intro h x0 x2 x3 cells slots kz mz H locs ls hf
    have hf : (none : Option (PH × Nat × Nat)) = some _ := hf
    cases hf
  | succ n ih =>
    intro h x0 x2 x3 cells slots kz mz H locs ls hf hk hs hE hl
    exact wfX10_scan_35F b hlk hr zs zk  ih hf hk hs hE hl
def fX10_scan_0  (h : PH) (x0 : Nat) (x1 : Option Nat) : Option (PH × Nat × Nat) :=
  oC (decide (hT h x0 = 11)) (oL (sR h 1285 x0 x1) (fun h38 => oL (sI h38 1286 x0 0) (fun h40 => oL (sI h40 1284 x0 0) (fun h42 => oN x1 (fun a43 => oC (decide (hT h42 a43 = 1)) (oB3 (fX10_makeRoom h42 x0 ((if 1200 < (hI h42 1 a43) then 1200 else (hI h42 1 a43)) + 1)) (fun h47 i48 j49 => oK3 i48 j49 (fX10_scan_35  FU h47 x0 1 0))))))))
set_option maxHeartbeats 4000000 in
theorem wfX10_scan_0 {mc ms cells slots : Nat} {args : Array Value} (b : Bd p s m c cX10_scan 4 RX10 D aC) (hlk : meth.locks = false) (hr : meth.sig.returnType = none) {Z : State → Prop} (zs : Z s) (zk : ZOK Z (Rg ad)) {hz : PH} {h : PH} {x0 : Nat} {x1 : Option Nat} {kz : Nat} {mz : Nat}  {H : Heap} {locs : List Loc} {ls : Array Slot} (hf : fX10_scan_0 h x0 x1 = some (hz, kz, mz)) (hk : cells + kz ≤ mc) (hs : slots + mz ≤ ms) (hE : CE (EX D aC ad h) (Rg ad) s H locs) (hl : lv_has ls 4 [(0, .ref (ad x0)), (1, va_rf (Option.map ad x1))]) : W p l e (RM 3 68 mc ms) s m args below meth c H locs cells slots (MQ below (PQ (EX D aC ad hz) (Rg ad) none) args s mc ms (Rg ad)) (F0 m 0 ls []) := by
  unfold fX10_scan_0 at hf
  refine lv_aload_n b.1 b.2.1 dX10_scan_0 rfl (lv_at hl 0 rfl) ?_
  refine k_aload_n (x := Option.map ad x1) b dX10_scan_1 rfl (lv_at hl 1 rfl) ?_
  obtain ⟨t37, hf⟩ := oC_s hf
  have t37 := of_decide_eq_true t37
  obtain ⟨h38, eh38, hf⟩ := oL_s hf
  refine pX10_37 (x := (some x0)) (v := x1) b hE rfl t37 eh38 dX10_scan_2 (fun H locs hE => ?_)
  refine lv_aload_n b.1 b.2.1 dX10_scan_5 rfl (lv_at hl 0 rfl) ?_
  refine lv_iconst (v := 0) b.1 b.2.1 dX10_scan_6 (by decide) ?_
  have t39 := tg_sR eh38 t37
  obtain ⟨h40, eh40, hf⟩ := oL_s hf
  refine pX10_41 (x := (some x0)) b hE rfl t39 eh40 dX10_scan_7 (fun H locs hE => ?_)
  refine lv_aload_n b.1 b.2.1 dX10_scan_10 rfl (lv_at hl 0 rfl) ?_
  refine lv_iconst (v := 0) b.1 b.2.1 dX10_scan_11 (by decide) ?_
  have t41 := tg_sI eh40 t39
  obtain ⟨h42, eh42, hf⟩ := oL_s hf
  refine pX10_45 (x := (some x0)) b hE rfl t41 eh42 dX10_scan_12 (fun H locs hE => ?_)
  refine lv_aload_n b.1 b.2.1 dX10_scan_15 rfl (lv_at hl 0 rfl) ?_
  refine k_aload_n (x := Option.map ad x1) b dX10_scan_16 rfl (lv_at hl 1 rfl) ?_
  obtain ⟨a43, ea43, hf⟩ := oN_s hf
  obtain ⟨t44, hf⟩ := oC_s hf
  have t44 := of_decide_eq_true t44
  refine gX10_48 (x := x1) b hE ea43 t44 dX10_scan_17 ?_
  refine lv_sipush (v := 1200) b.1 b.2.1 dX10_scan_20 (by decide) ?_
  refine k_min b (in2 120 rfl rfl) mthmin_s mth_i mthmin_c hl.1 ⟨Nat.le_of_ble_eq_true rfl, Nat.le_of_ble_eq_true rfl⟩ (Nat.le_of_ble_eq_true rfl) ⟨le_c hk, le_c hs⟩ dX10_scan_23 ?_
  refine lv_iconst (v := 1) b.1 b.2.1 dX10_scan_26 (by decide) ?_
  refine lv_iadd b.1 b.2.1 dX10_scan_27 ?_
  have t45 := tg_sI eh42 t41
  obtain ⟨h47, i48, j49, hc46, hf⟩ := oB3_s hf
  obtain ⟨i50, j51, ei50, ej51, hf⟩ := oK3_s hf
  refine k_callV (C := RX10) b zs zk hE (CX10_makeRoom l D aC ad zk hc46) mc_X10_makeRoom (in2 121 rfl rfl) mi_X10_makeRoom ms_X10_makeRoom ini_RX10 ok_X10_makeRoom (x_recv b hE (ci := 10) rfl (by decide) t45) ⟨Nat.le_of_ble_eq_true rfl, Nat.le_of_ble_eq_true rfl⟩ rfl hl.1 rfl (k_room _ (by exact Nat.le_of_ble_eq_true rfl)) ⟨le_room hk ei50, le_room hs ej51⟩ dX10_scan_28 (fun H locs hE => ?_)
  have hk := le_step hk ei50
  have hs := le_step hs ej51
  refine lv_iconst (v := 1) b.1 b.2.1 dX10_scan_31 (by decide) ?_
  refine lv_istore_n (lv' := [(2, .int 1), (0, .ref (ad x0)), (1, va_rf (Option.map ad x1))]) b.1 b.2.1 dX10_scan_32 rfl hl (by decide) (by cases x1 <;> rfl) (fun ls hl => ?_)
  have hl := lv_sub (l' := [(2, .int 1), (0, .ref (ad x0))]) hl [0, 1] rfl
  refine lv_iconst (v := 0) b.1 b.2.1 dX10_scan_33 (by decide) ?_
  refine lv_istore_n (lv' := [(3, .int 0), (2, .int 1), (0, .ref (ad x0))]) b.1 b.2.1 dX10_scan_34 rfl hl (by decide) rfl (fun ls hl => ?_)
  exact wfX10_scan_35 b hlk hr zs zk  FU h47 x0 1 0 _ _ _ _ _ _ _ hf hk hs hE (lv_sub hl [2, 1, 0] rfl)
def fX10_scan (h : PH) (x0 : Nat) (x1 : Option Nat) : Option (PH × Nat × Nat) := fX10_scan_0 h x0 x1
set_option maxHeartbeats 4000000 in
theorem CX10_scan (l : Launch) (D : va_G) (aC : Nat → ClassId) (ad : Nat → Nat) {Z : State → Prop} (zk : ZOK Z (Rg ad)) {h : PH} {x0 : Nat} {x1 : Option Nat} {hz : PH} {kz : Nat} {mz : Nat} (hf : fX10_scan h x0 x1 = some (hz, kz, mz)) : CM l D aC Z yX10_scan cX10_scan 4 (none) 3 68 kz mz (EX D aC ad h) [.ref (ad x0), va_rf (Option.map ad x1)] (EX D aC ad hz) none (Rg ad) := by
  refine CM.of rfl ?_
  intro p e s m below meth c b hr hlk hin2 zs hE
  cases x1 <;> (
    refine k_ent (Nat.le_of_ble_eq_true rfl) (fun ls hl => ?_)
    exact wfX10_scan_0 b hlk hr zs zk hf (by omega) (by omega) hE (lv_sub hl [0, 1] rfl))
theorem dX4_lookAt_0 : decode cX4_lookAt 0 = .ok (.iload_n 1, 1) := by decide +kernel
theorem dX4_lookAt_1 : decode cX4_lookAt 1 = .ok (.ifCond .lt 18, 3) := by decide +kernel
theorem dX4_lookAt_4 : decode cX4_lookAt 4 = .ok (.iload_n 1, 1) := by decide +kernel
theorem dX4_lookAt_5 : decode cX4_lookAt 5 = .ok (.aload_n 0, 1) := by decide +kernel
theorem dX4_lookAt_6 : decode cX4_lookAt 6 = .ok (.getfield 12, 3) := by decide +kernel
theorem dX4_lookAt_9 : decode cX4_lookAt 9 = .ok (.getfield 143, 3) := by decide +kernel
theorem dX4_lookAt_12 : decode cX4_lookAt 12 = .ok (.if_icmp .ge 7, 3) := by decide +kernel
theorem dX4_lookAt_15 : decode cX4_lookAt 15 = .ok (.iconst 1, 1) := by decide +kernel
theorem dX4_lookAt_16 : decode cX4_lookAt 16 = .ok (.goto 4, 3) := by decide +kernel
theorem dX4_lookAt_19 : decode cX4_lookAt 19 = .ok (.iconst 0, 1) := by decide +kernel
theorem dX4_lookAt_20 : decode cX4_lookAt 20 = .ok (.istore_n 2, 1) := by decide +kernel
theorem dX4_lookAt_21 : decode cX4_lookAt 21 = .ok (.aload_n 0, 1) := by decide +kernel
theorem dX4_lookAt_22 : decode cX4_lookAt 22 = .ok (.iload_n 1, 1) := by decide +kernel
theorem dX4_lookAt_23 : decode cX4_lookAt 23 = .ok (.putfield 146, 3) := by decide +kernel
theorem dX4_lookAt_26 : decode cX4_lookAt 26 = .ok (.aload_n 0, 1) := by decide +kernel
theorem dX4_lookAt_27 : decode cX4_lookAt 27 = .ok (.iload_n 2, 1) := by decide +kernel
theorem dX4_lookAt_28 : decode cX4_lookAt 28 = .ok (.ifCond .eq 15, 3) := by decide +kernel
theorem dX4_lookAt_31 : decode cX4_lookAt 31 = .ok (.aload_n 0, 1) := by decide +kernel
theorem dX4_lookAt_32 : decode cX4_lookAt 32 = .ok (.getfield 12, 3) := by decide +kernel
theorem dX4_lookAt_35 : decode cX4_lookAt 35 = .ok (.getfield 149, 3) := by decide +kernel
theorem dX4_lookAt_38 : decode cX4_lookAt 38 = .ok (.iload_n 1, 1) := by decide +kernel
theorem dX4_lookAt_39 : decode cX4_lookAt 39 = .ok (.iaload, 1) := by decide +kernel
theorem dX4_lookAt_40 : decode cX4_lookAt 40 = .ok (.goto 6, 3) := by decide +kernel
theorem dX4_lookAt_43 : decode cX4_lookAt 43 = .ok (.sipush 264, 3) := by decide +kernel
theorem dX4_lookAt_46 : decode cX4_lookAt 46 = .ok (.putfield 60, 3) := by decide +kernel
theorem dX4_lookAt_49 : decode cX4_lookAt 49 = .ok (.aload_n 0, 1) := by decide +kernel
theorem dX4_lookAt_50 : decode cX4_lookAt 50 = .ok (.iload_n 2, 1) := by decide +kernel
theorem dX4_lookAt_51 : decode cX4_lookAt 51 = .ok (.ifCond .eq 15, 3) := by decide +kernel
theorem dX4_lookAt_54 : decode cX4_lookAt 54 = .ok (.aload_n 0, 1) := by decide +kernel
theorem dX4_lookAt_55 : decode cX4_lookAt 55 = .ok (.getfield 12, 3) := by decide +kernel
theorem dX4_lookAt_58 : decode cX4_lookAt 58 = .ok (.getfield 152, 3) := by decide +kernel
theorem dX4_lookAt_61 : decode cX4_lookAt 61 = .ok (.iload_n 1, 1) := by decide +kernel
theorem dX4_lookAt_62 : decode cX4_lookAt 62 = .ok (.iaload, 1) := by decide +kernel
theorem dX4_lookAt_63 : decode cX4_lookAt 63 = .ok (.goto 4, 3) := by decide +kernel
theorem dX4_lookAt_66 : decode cX4_lookAt 66 = .ok (.iconst (-1), 1) := by decide +kernel
theorem dX4_lookAt_67 : decode cX4_lookAt 67 = .ok (.putfield 155, 3) := by decide +kernel
theorem dX4_lookAt_70 : decode cX4_lookAt 70 = .ok (.aload_n 0, 1) := by decide +kernel
theorem dX4_lookAt_71 : decode cX4_lookAt 71 = .ok (.iload_n 2, 1) := by decide +kernel
theorem dX4_lookAt_72 : decode cX4_lookAt 72 = .ok (.ifCond .eq 15, 3) := by decide +kernel
theorem dX4_lookAt_75 : decode cX4_lookAt 75 = .ok (.aload_n 0, 1) := by decide +kernel
theorem dX4_lookAt_76 : decode cX4_lookAt 76 = .ok (.getfield 12, 3) := by decide +kernel
theorem dX4_lookAt_79 : decode cX4_lookAt 79 = .ok (.getfield 158, 3) := by decide +kernel
theorem dX4_lookAt_82 : decode cX4_lookAt 82 = .ok (.iload_n 1, 1) := by decide +kernel
theorem dX4_lookAt_83 : decode cX4_lookAt 83 = .ok (.laload, 1) := by decide +kernel
theorem dX4_lookAt_84 : decode cX4_lookAt 84 = .ok (.goto 4, 3) := by decide +kernel
theorem dX4_lookAt_87 : decode cX4_lookAt 87 = .ok (.lconst 0, 1) := by decide +kernel
theorem dX4_lookAt_88 : decode cX4_lookAt 88 = .ok (.putfield 162, 3) := by decide +kernel
theorem dX4_lookAt_91 : decode cX4_lookAt 91 = .ok (.return_, 1) := by decide +kernel
def fX4_lookAt_88  (h : PH) (s0 : Int64) (s1 : Nat) : Option (PH) :=
  oC (decide (hT h s1 = 5)) (oL (sL h 523 s1 s0) (fun h2 => some (h2)))
set_option maxHeartbeats 4000000 in
theorem wfX4_lookAt_88 {args : Array Value} (b : Bd p s m c cX4_lookAt 3 RX4 D aC) (hlk : meth.locks = false) (hr : meth.sig.returnType = none) {Z : State → Prop} (zs : Z s) (zk : ZOK Z (Rg ad)) {hz : PH} {h : PH} {s0 : Int64} {s1 : Nat}  {H : Heap} {locs : List Loc} {ls : Array Slot} (hf : fX4_lookAt_88 h s0 s1 = some hz) (hE : CE (EX D aC ad h) (Rg ad) s H locs) (hl : lv_has ls 3 []) : W p l e (RM 0 0 0 0) s m args below meth c H locs 0 0 (MQ below (PQ (EX D aC ad hz) (Rg ad) none) args s 0 0 (Rg ad)) (F0 m 88 ls [.long s0, .ref (ad s1)]) := by
  unfold fX4_lookAt_88 at hf
  obtain ⟨t1, hf⟩ := oC_s hf
  have t1 := of_decide_eq_true t1
  obtain ⟨h2, eh2, hf⟩ := oL_s hf
  refine pX4_162 (x := (some s1)) b hE rfl t1 eh2 dX4_lookAt_88 (fun H locs hE => ?_)
  cases hf
  exact k_vret b hlk hr hE (Nat.le_refl _) (Nat.le_refl _) dX4_lookAt_91
def fX4_lookAt_67  (h : PH) (x0 : Nat) (x1 : Int32) (x2 : Int32) (s0 : Int32) (s1 : Nat) : Option (PH) :=
  oC (decide (hT h s1 = 5)) (oL (sI h 522 s1 s0) (fun h4 => if x2 = 0 then (fX4_lookAt_88  h4 0 x0) else (oC (decide (hT h4 x0 = 5)) (oN (hR h4 513 x0) (fun a7 => oC (decide (hT h4 a7 = 11)) (oN (hR h4 1283 a7) (fun a9 => oC (decide (hT h4 a9 = 102)) (oC (ix x1 (hN h4 a9)) (fX4_lookAt_88  h4 (hB h4 a9 (Int32.toNatClampNeg x1)) x0)))))))))
set_option maxHeartbeats 4000000 in
theorem wfX4_lookAt_67 {args : Array Value} (b : Bd p s m c cX4_lookAt 3 RX4 D aC) (hlk : meth.locks = false) (hr : meth.sig.returnType = none) {Z : State → Prop} (zs : Z s) (zk : ZOK Z (Rg ad)) {hz : PH} {h : PH} {x0 : Nat} {x1 : Int32} {x2 : Int32} {s0 : Int32} {s1 : Nat}  {H : Heap} {locs : List Loc} {ls : Array Slot} (hf : fX4_lookAt_67 h x0 x1 x2 s0 s1 = some hz) (hE : CE (EX D aC ad h) (Rg ad) s H locs) (hl : lv_has ls 3 [(0, .ref (ad x0)), (1, .int x1), (2, .int x2)]) : W p l e (RM 0 0 0 0) s m args below meth c H locs 0 0 (MQ below (PQ (EX D aC ad hz) (Rg ad) none) args s 0 0 (Rg ad)) (F0 m 67 ls [.int s0, .ref (ad s1)]) := by
  unfold fX4_lookAt_67 at hf
  obtain ⟨t3, hf⟩ := oC_s hf
  have t3 := of_decide_eq_true t3
  obtain ⟨h4, eh4, hf⟩ := oL_s hf
  refine pX4_155 (x := (some s1)) b hE rfl t3 eh4 dX4_lookAt_67 (fun H locs hE => ?_)
  refine lv_aload_n b.1 b.2.1 dX4_lookAt_70 rfl (lv_at hl 0 rfl) ?_
  refine lv_iload_n b.1 b.2.1 dX4_lookAt_71 rfl (lv_at hl 2 rfl) ?_
  refine lv_if_eq (tgt := 87) b.1 b.2.1 dX4_lookAt_72 (by decide) (fun c5 => ?_) (fun c5 => ?_)
  · have hf := oI_t c5 hf
    refine lv_lconst (v := 0) b.1 b.2.1 dX4_lookAt_87 rfl ?_
    exact wfX4_lookAt_88 b hlk hr zs zk  hf hE (lv_sub hl [] rfl)
  · have hf := oI_f c5 hf
    refine lv_aload_n b.1 b.2.1 dX4_lookAt_75 rfl (lv_at hl 0 rfl) ?_
    obtain ⟨t6, hf⟩ := oC_s hf
    have t6 := of_decide_eq_true t6
    refine gX4_12 (x := (some x0)) b hE rfl t6 dX4_lookAt_76 ?_
    obtain ⟨a7, ea7, hf⟩ := oN_s hf
    obtain ⟨t8, hf⟩ := oC_s hf
    have t8 := of_decide_eq_true t8
    refine gX4_158 (x := (hR h4 513 x0)) b hE ea7 t8 dX4_lookAt_79 ?_
    refine lv_iload_n b.1 b.2.1 dX4_lookAt_82 rfl (lv_at hl 1 rfl) ?_
    obtain ⟨a9, ea9, hf⟩ := oN_s hf
    obtain ⟨t10, hf⟩ := oC_s hf
    have t10 := of_decide_eq_true t10
    obtain ⟨g11, hf⟩ := oC_s hf
    refine q_lald (x := (hR h4 1283 a7)) b hE ea9 t10 g11 dX4_lookAt_83 ?_
    refine lv_goto (tgt := 88) b.1 b.2.1 dX4_lookAt_84 (by decide) ?_
    exact wfX4_lookAt_88 b hlk hr zs zk  hf hE (lv_sub hl [] rfl)
def fX4_lookAt_46  (h : PH) (x0 : Nat) (x1 : Int32) (x2 : Int32) (s0 : Int32) (s1 : Nat) : Option (PH) :=
  oC (decide (hT h s1 = 5)) (oL (sI h 521 s1 s0) (fun h13 => if x2 = 0 then (fX4_lookAt_67  h13 x0 x1 x2 (-1) x0) else (oC (decide (hT h13 x0 = 5)) (oN (hR h13 513 x0) (fun a16 => oC (decide (hT h13 a16 = 11)) (oN (hR h13 1282 a16) (fun a18 => oC (decide (hT h13 a18 = 101)) (oC (ix x1 (hN h13 a18)) (fX4_lookAt_67  h13 x0 x1 x2 (hA h13 a18 (Int32.toNatClampNeg x1)) x0)))))))))
set_option maxHeartbeats 4000000 in
theorem wfX4_lookAt_46 {args : Array Value} (b : Bd p s m c cX4_lookAt 3 RX4 D aC) (hlk : meth.locks = false) (hr : meth.sig.returnType = none) {Z : State → Prop} (zs : Z s) (zk : ZOK Z (Rg ad)) {hz : PH} {h : PH} {x0 : Nat} {x1 : Int32} {x2 : Int32} {s0 : Int32} {s1 : Nat}  {H : Heap} {locs : List Loc} {ls : Array Slot} (hf : fX4_lookAt_46 h x0 x1 x2 s0 s1 = some hz) (hE : CE (EX D aC ad h) (Rg ad) s H locs) (hl : lv_has ls 3 [(0, .ref (ad x0)), (1, .int x1), (2, .int x2)]) : W p l e (RM 0 0 0 0) s m args below meth c H locs 0 0 (MQ below (PQ (EX D aC ad hz) (Rg ad) none) args s 0 0 (Rg ad)) (F0 m 46 ls [.int s0, .ref (ad s1)]) := by
  unfold fX4_lookAt_46 at hf
  obtain ⟨t12, hf⟩ := oC_s hf
  have t12 := of_decide_eq_true t12
  obtain ⟨h13, eh13, hf⟩ := oL_s hf
  refine pX4_60 (x := (some s1)) b hE rfl t12 eh13 dX4_lookAt_46 (fun H locs hE => ?_)
  refine lv_aload_n b.1 b.2.1 dX4_lookAt_49 rfl (lv_at hl 0 rfl) ?_
  refine lv_iload_n b.1 b.2.1 dX4_lookAt_50 rfl (lv_at hl 2 rfl) ?_
  refine lv_if_eq (tgt := 66) b.1 b.2.1 dX4_lookAt_51 (by decide) (fun c14 => ?_) (fun c14 => ?_)
  · have hf := oI_t c14 hf
    refine lv_iconst (v := (-1)) b.1 b.2.1 dX4_lookAt_66 (by decide) ?_
    exact wfX4_lookAt_67 b hlk hr zs zk  hf hE (lv_sub hl [0, 1, 2] rfl)
  · have hf := oI_f c14 hf
    refine lv_aload_n b.1 b.2.1 dX4_lookAt_54 rfl (lv_at hl 0 rfl) ?_
    obtain ⟨t15, hf⟩ := oC_s hf
    have t15 := of_decide_eq_true t15
    refine gX4_12 (x := (some x0)) b hE rfl t15 dX4_lookAt_55 ?_
    obtain ⟨a16, ea16, hf⟩ := oN_s hf
    obtain ⟨t17, hf⟩ := oC_s hf
    have t17 := of_decide_eq_true t17
    refine gX4_152 (x := (hR h13 513 x0)) b hE ea16 t17 dX4_lookAt_58 ?_
    refine lv_iload_n b.1 b.2.1 dX4_lookAt_61 rfl (lv_at hl 1 rfl) ?_
    obtain ⟨a18, ea18, hf⟩ := oN_s hf
    obtain ⟨t19, hf⟩ := oC_s hf
    have t19 := of_decide_eq_true t19
    obtain ⟨g20, hf⟩ := oC_s hf
    refine q_iald (x := (hR h13 1282 a16)) b hE ea18 t19 g20 dX4_lookAt_62 ?_
    refine lv_goto (tgt := 67) b.1 b.2.1 dX4_lookAt_63 (by decide) ?_
    exact wfX4_lookAt_67 b hlk hr zs zk  hf hE (lv_sub hl [0, 1, 2] rfl)
def fX4_lookAt_20  (h : PH) (x0 : Nat) (x1 : Int32) (s0 : Int32) : Option (PH) :=
  oC (decide (hT h x0 = 5)) (oL (sI h 520 x0 x1) (fun h22 => if s0 = 0 then (fX4_lookAt_46  h22 x0 x1 s0 264 x0) else (oN (hR h22 513 x0) (fun a25 => oC (decide (hT h22 a25 = 11)) (oN (hR h22 1281 a25) (fun a27 => oC (decide (hT h22 a27 = 101)) (oC (ix x1 (hN h22 a27)) (fX4_lookAt_46  h22 x0 x1 s0 (hA h22 a27 (Int32.toNatClampNeg x1)) x0))))))))
set_option maxHeartbeats 4000000 in
theorem wfX4_lookAt_20 {args : Array Value} (b : Bd p s m c cX4_lookAt 3 RX4 D aC) (hlk : meth.locks = false) (hr : meth.sig.returnType = none) {Z : State → Prop} (zs : Z s) (zk : ZOK Z (Rg ad)) {hz : PH} {h : PH} {x0 : Nat} {x1 : Int32} {s0 : Int32}  {H : Heap} {locs : List Loc} {ls : Array Slot} (hf : fX4_lookAt_20 h x0 x1 s0 = some hz) (hE : CE (EX D aC ad h) (Rg ad) s H locs) (hl : lv_has ls 3 [(0, .ref (ad x0)), (1, .int x1)]) : W p l e (RM 0 0 0 0) s m args below meth c H locs 0 0 (MQ below (PQ (EX D aC ad hz) (Rg ad) none) args s 0 0 (Rg ad)) (F0 m 20 ls [.int s0]) := by
  unfold fX4_lookAt_20 at hf
  refine lv_istore_n (lv' := [(2, .int s0), (0, .ref (ad x0)), (1, .int x1)]) b.1 b.2.1 dX4_lookAt_20 rfl hl (by decide) rfl (fun ls hl => ?_)
  refine lv_aload_n b.1 b.2.1 dX4_lookAt_21 rfl (lv_at hl 1 rfl) ?_
  refine lv_iload_n b.1 b.2.1 dX4_lookAt_22 rfl (lv_at hl 2 rfl) ?_
  obtain ⟨t21, hf⟩ := oC_s hf
  have t21 := of_decide_eq_true t21
  obtain ⟨h22, eh22, hf⟩ := oL_s hf
  refine pX4_146 (x := (some x0)) b hE rfl t21 eh22 dX4_lookAt_23 (fun H locs hE => ?_)
  refine lv_aload_n b.1 b.2.1 dX4_lookAt_26 rfl (lv_at hl 1 rfl) ?_
  refine lv_iload_n b.1 b.2.1 dX4_lookAt_27 rfl (lv_at hl 0 rfl) ?_
  refine lv_if_eq (tgt := 43) b.1 b.2.1 dX4_lookAt_28 (by decide) (fun c23 => ?_) (fun c23 => ?_)
  · have hf := oI_t c23 hf
    refine lv_sipush (v := 264) b.1 b.2.1 dX4_lookAt_43 (by decide) ?_
    exact wfX4_lookAt_46 b hlk hr zs zk  hf hE (lv_sub hl [1, 2, 0] rfl)
  · have hf := oI_f c23 hf
    refine lv_aload_n b.1 b.2.1 dX4_lookAt_31 rfl (lv_at hl 1 rfl) ?_
    have t24 := tg_sI eh22 t21
    refine gX4_12 (x := (some x0)) b hE rfl t24 dX4_lookAt_32 ?_
    obtain ⟨a25, ea25, hf⟩ := oN_s hf
    obtain ⟨t26, hf⟩ := oC_s hf
    have t26 := of_decide_eq_true t26
    refine gX4_149 (x := (hR h22 513 x0)) b hE ea25 t26 dX4_lookAt_35 ?_
    refine lv_iload_n b.1 b.2.1 dX4_lookAt_38 rfl (lv_at hl 2 rfl) ?_
    obtain ⟨a27, ea27, hf⟩ := oN_s hf
    obtain ⟨t28, hf⟩ := oC_s hf
    have t28 := of_decide_eq_true t28
    obtain ⟨g29, hf⟩ := oC_s hf
    refine q_iald (x := (hR h22 1281 a25)) b hE ea27 t28 g29 dX4_lookAt_39 ?_
    refine lv_goto (tgt := 46) b.1 b.2.1 dX4_lookAt_40 (by decide) ?_
    exact wfX4_lookAt_46 b hlk hr zs zk  hf hE (lv_sub hl [1, 2, 0] rfl)
def fX4_lookAt_0  (h : PH) (x0 : Nat) (x1 : Int32) : Option (PH) :=
  if x1 < 0 then (fX4_lookAt_20  h x0 x1 0) else (oC (decide (hT h x0 = 5)) (oN (hR h 513 x0) (fun a32 => oC (decide (hT h a32 = 11)) (if (hI h 1284 a32) ≤ x1 then (fX4_lookAt_20  h x0 x1 0) else (fX4_lookAt_20  h x0 x1 1)))))
set_option maxHeartbeats 4000000 in
theorem wfX4_lookAt_0 {args : Array Value} (b : Bd p s m c cX4_lookAt 3 RX4 D aC) (hlk : meth.locks = false) (hr : meth.sig.returnType = none) {Z : State → Prop} (zs : Z s) (zk : ZOK Z (Rg ad)) {hz : PH} {h : PH} {x0 : Nat} {x1 : Int32}  {H : Heap} {locs : List Loc} {ls : Array Slot} (hf : fX4_lookAt_0 h x0 x1 = some hz) (hE : CE (EX D aC ad h) (Rg ad) s H locs) (hl : lv_has ls 3 [(0, .ref (ad x0)), (1, .int x1)]) : W p l e (RM 0 0 0 0) s m args below meth c H locs 0 0 (MQ below (PQ (EX D aC ad hz) (Rg ad) none) args s 0 0 (Rg ad)) (F0 m 0 ls []) := by
  unfold fX4_lookAt_0 at hf
  refine lv_iload_n b.1 b.2.1 dX4_lookAt_0 rfl (lv_at hl 1 rfl) ?_
  refine lv_if_lt (tgt := 19) b.1 b.2.1 dX4_lookAt_1 (by decide) (fun c30 => ?_) (fun c30 => ?_)
  · have hf := oI_t c30 hf
    refine lv_iconst (v := 0) b.1 b.2.1 dX4_lookAt_19 (by decide) ?_
    exact wfX4_lookAt_20 b hlk hr zs zk  hf hE (lv_sub hl [0, 1] rfl)
  · have hf := oI_f c30 hf
    refine lv_iload_n b.1 b.2.1 dX4_lookAt_4 rfl (lv_at hl 1 rfl) ?_
    refine lv_aload_n b.1 b.2.1 dX4_lookAt_5 rfl (lv_at hl 0 rfl) ?_
    obtain ⟨t31, hf⟩ := oC_s hf
    have t31 := of_decide_eq_true t31
    refine gX4_12 (x := (some x0)) b hE rfl t31 dX4_lookAt_6 ?_
    obtain ⟨a32, ea32, hf⟩ := oN_s hf
    obtain ⟨t33, hf⟩ := oC_s hf
    have t33 := of_decide_eq_true t33
    refine gX4_143 (x := (hR h 513 x0)) b hE ea32 t33 dX4_lookAt_9 ?_
    refine lv_icmp_ge (tgt := 19) b.1 b.2.1 dX4_lookAt_12 (by decide) (fun c34 => ?_) (fun c34 => ?_)
    · have hf := oI_t c34 hf
      refine lv_iconst (v := 0) b.1 b.2.1 dX4_lookAt_19 (by decide) ?_
      exact wfX4_lookAt_20 b hlk hr zs zk  hf hE (lv_sub hl [0, 1] rfl)
    · have hf := oI_f c34 hf
      refine lv_iconst (v := 1) b.1 b.2.1 dX4_lookAt_15 (by decide) ?_
      refine lv_goto (tgt := 20) b.1 b.2.1 dX4_lookAt_16 (by decide) ?_
      exact wfX4_lookAt_20 b hlk hr zs zk  hf hE (lv_sub hl [0, 1] rfl)
def fX4_lookAt (h : PH) (x0 : Nat) (x1 : Int32) : Option (PH) := fX4_lookAt_0 h x0 x1
set_option maxHeartbeats 4000000 in
theorem CX4_lookAt (l : Launch) (D : va_G) (aC : Nat → ClassId) (ad : Nat → Nat) {Z : State → Prop} (zk : ZOK Z (Rg ad)) {h : PH} {x0 : Nat} {x1 : Int32} {hz : PH} (hf : fX4_lookAt h x0 x1 = some hz) : CM l D aC Z yX4_lookAt cX4_lookAt 3 (none) 0 0 0 0 (EX D aC ad h) [.ref (ad x0), .int x1] (EX D aC ad hz) none (Rg ad) := by
  refine CM.of rfl ?_
  intro p e s m below meth c b hr hlk hin2 zs hE
  refine k_ent (Nat.le_of_ble_eq_true rfl) (fun ls hl => ?_)
  exact wfX4_lookAt_0 b hlk hr zs zk hf hE (lv_sub hl [0, 1] rfl)
theorem dX4_begin_0 : decode cX4_begin 0 = .ok (.aload_n 0, 1) := by decide +kernel
theorem dX4_begin_1 : decode cX4_begin 1 = .ok (.getfield 12, 3) := by decide +kernel
theorem dX4_begin_4 : decode cX4_begin 4 = .ok (.aload_n 1, 1) := by decide +kernel
theorem dX4_begin_5 : decode cX4_begin 5 = .ok (.invokevirtual 29, 3) := by decide +kernel
theorem dX4_begin_8 : decode cX4_begin 8 = .ok (.aload_n 0, 1) := by decide +kernel
theorem dX4_begin_9 : decode cX4_begin 9 = .ok (.iload_n 2, 1) := by decide +kernel
theorem dX4_begin_10 : decode cX4_begin 10 = .ok (.putfield 33, 3) := by decide +kernel
theorem dX4_begin_13 : decode cX4_begin 13 = .ok (.aload_n 0, 1) := by decide +kernel
theorem dX4_begin_14 : decode cX4_begin 14 = .ok (.iconst 0, 1) := by decide +kernel
theorem dX4_begin_15 : decode cX4_begin 15 = .ok (.putfield 37, 3) := by decide +kernel
theorem dX4_begin_18 : decode cX4_begin 18 = .ok (.aload_n 0, 1) := by decide +kernel
theorem dX4_begin_19 : decode cX4_begin 19 = .ok (.iconst 0, 1) := by decide +kernel
theorem dX4_begin_20 : decode cX4_begin 20 = .ok (.putfield 40, 3) := by decide +kernel
theorem dX4_begin_23 : decode cX4_begin 23 = .ok (.aload_n 0, 1) := by decide +kernel
theorem dX4_begin_24 : decode cX4_begin 24 = .ok (.iconst 0, 1) := by decide +kernel
theorem dX4_begin_25 : decode cX4_begin 25 = .ok (.putfield 44, 3) := by decide +kernel
theorem dX4_begin_28 : decode cX4_begin 28 = .ok (.aload_n 0, 1) := by decide +kernel
theorem dX4_begin_29 : decode cX4_begin 29 = .ok (.iconst (-1), 1) := by decide +kernel
theorem dX4_begin_30 : decode cX4_begin 30 = .ok (.putfield 47, 3) := by decide +kernel
theorem dX4_begin_33 : decode cX4_begin 33 = .ok (.aload_n 0, 1) := by decide +kernel
theorem dX4_begin_34 : decode cX4_begin 34 = .ok (.iconst 0, 1) := by decide +kernel
theorem dX4_begin_35 : decode cX4_begin 35 = .ok (.putfield 50, 3) := by decide +kernel
theorem dX4_begin_38 : decode cX4_begin 38 = .ok (.aload_n 0, 1) := by decide +kernel
theorem dX4_begin_39 : decode cX4_begin 39 = .ok (.iconst (-1), 1) := by decide +kernel
theorem dX4_begin_40 : decode cX4_begin 40 = .ok (.putfield 53, 3) := by decide +kernel
theorem dX4_begin_43 : decode cX4_begin 43 = .ok (.aload_n 0, 1) := by decide +kernel
theorem dX4_begin_44 : decode cX4_begin 44 = .ok (.iconst 0, 1) := by decide +kernel
theorem dX4_begin_45 : decode cX4_begin 45 = .ok (.invokevirtual 56, 3) := by decide +kernel
theorem dX4_begin_48 : decode cX4_begin 48 = .ok (.return_, 1) := by decide +kernel
def fX4_begin_0  (h : PH) (x0 : Nat) (x1 : Option Nat) (x2 : Int32) : Option (PH × Nat × Nat) :=
  oC (decide (hT h x0 = 5)) (oN (hR h 513 x0) (fun a2 => oC (decide (hT h a2 = 11)) (oB3 (fX10_scan h a2 x1) (fun h5 i6 j7 => oK3 i6 j7 (oC (decide (hT h5 x0 = 5)) (oL (sI h5 518 x0 x2) (fun h11 => oL (sI h11 517 x0 0) (fun h13 => oL (sI h13 519 x0 0) (fun h15 => oL (sI h15 524 x0 0) (fun h17 => oL (sI h17 525 x0 (-1)) (fun h19 => oL (sI h19 526 x0 0) (fun h21 => oL (sI h21 527 x0 (-1)) (fun h23 => oB (fX4_lookAt h23 x0 0) (fun h26 => some (h26, 0, 0)))))))))))))))
set_option maxHeartbeats 4000000 in
theorem wfX4_begin_0 {mc ms cells slots : Nat} {args : Array Value} (b : Bd p s m c cX4_begin 3 RX4 D aC) (hlk : meth.locks = false) (hr : meth.sig.returnType = none) {Z : State → Prop} (zs : Z s) (zk : ZOK Z (Rg ad)) {hz : PH} {h : PH} {x0 : Nat} {x1 : Option Nat} {x2 : Int32} {kz : Nat} {mz : Nat}  {H : Heap} {locs : List Loc} {ls : Array Slot} (hf : fX4_begin_0 h x0 x1 x2 = some (hz, kz, mz)) (hk : cells + kz ≤ mc) (hs : slots + mz ≤ ms) (hE : CE (EX D aC ad h) (Rg ad) s H locs) (hl : lv_has ls 3 [(0, .ref (ad x0)), (1, va_rf (Option.map ad x1)), (2, .int x2)]) : W p l e (RM 4 91 mc ms) s m args below meth c H locs cells slots (MQ below (PQ (EX D aC ad hz) (Rg ad) none) args s mc ms (Rg ad)) (F0 m 0 ls []) := by
  unfold fX4_begin_0 at hf
  refine lv_aload_n b.1 b.2.1 dX4_begin_0 rfl (lv_at hl 0 rfl) ?_
  obtain ⟨t1, hf⟩ := oC_s hf
  have t1 := of_decide_eq_true t1
  refine gX4_12 (x := (some x0)) b hE rfl t1 dX4_begin_1 ?_
  refine k_aload_n (x := Option.map ad x1) b dX4_begin_4 rfl (lv_at hl 1 rfl) ?_
  obtain ⟨a2, ea2, hf⟩ := oN_s hf
  obtain ⟨t3, hf⟩ := oC_s hf
  have t3 := of_decide_eq_true t3
  obtain ⟨h5, i6, j7, hc4, hf⟩ := oB3_s hf
  obtain ⟨i8, j9, ei8, ej9, hf⟩ := oK3_s hf
  refine k_stk [va_rf (Option.map ad x1)] ea2 ?_
  refine k_callV (C := RX10) b zs zk hE (CX10_scan l D aC ad zk hc4) mc_X10_scan (in2 116 rfl rfl) mi_X10_scan ms_X10_scan ini_RX10 ok_X10_scan (x_recv b hE (ci := 10) rfl (by decide) t3) ⟨Nat.le_of_ble_eq_true rfl, Nat.le_of_ble_eq_true rfl⟩ rfl hl.1 rfl (k_room _ (by exact Nat.le_of_ble_eq_true rfl)) ⟨le_room hk ei8, le_room hs ej9⟩ dX4_begin_5 (fun H locs hE => ?_)
  have hk := le_step hk ei8
  have hs := le_step hs ej9
  refine lv_aload_n b.1 b.2.1 dX4_begin_8 rfl (lv_at hl 0 rfl) ?_
  refine lv_iload_n b.1 b.2.1 dX4_begin_9 rfl (lv_at hl 2 rfl) ?_
  obtain ⟨t10, hf⟩ := oC_s hf
  have t10 := of_decide_eq_true t10
  obtain ⟨h11, eh11, hf⟩ := oL_s hf
  refine pX4_33 (x := (some x0)) b hE rfl t10 eh11 dX4_begin_10 (fun H locs hE => ?_)
  refine lv_aload_n b.1 b.2.1 dX4_begin_13 rfl (lv_at hl 0 rfl) ?_
  refine lv_iconst (v := 0) b.1 b.2.1 dX4_begin_14 (by decide) ?_
  have t12 := tg_sI eh11 t10
  obtain ⟨h13, eh13, hf⟩ := oL_s hf
  refine pX4_37 (x := (some x0)) b hE rfl t12 eh13 dX4_begin_15 (fun H locs hE => ?_)
  refine lv_aload_n b.1 b.2.1 dX4_begin_18 rfl (lv_at hl 0 rfl) ?_
  refine lv_iconst (v := 0) b.1 b.2.1 dX4_begin_19 (by decide) ?_
  have t14 := tg_sI eh13 t12
  obtain ⟨h15, eh15, hf⟩ := oL_s hf
  refine pX4_40 (x := (some x0)) b hE rfl t14 (by decide) eh15 dX4_begin_20 (fun H locs hE => ?_)
  refine lv_aload_n b.1 b.2.1 dX4_begin_23 rfl (lv_at hl 0 rfl) ?_
  refine lv_iconst (v := 0) b.1 b.2.1 dX4_begin_24 (by decide) ?_
  have t16 := tg_sI eh15 t14
  obtain ⟨h17, eh17, hf⟩ := oL_s hf
  refine pX4_44 (x := (some x0)) b hE rfl t16 eh17 dX4_begin_25 (fun H locs hE => ?_)
  refine lv_aload_n b.1 b.2.1 dX4_begin_28 rfl (lv_at hl 0 rfl) ?_
  refine lv_iconst (v := (-1)) b.1 b.2.1 dX4_begin_29 (by decide) ?_
  have t18 := tg_sI eh17 t16
  obtain ⟨h19, eh19, hf⟩ := oL_s hf
  refine pX4_47 (x := (some x0)) b hE rfl t18 eh19 dX4_begin_30 (fun H locs hE => ?_)
  refine lv_aload_n b.1 b.2.1 dX4_begin_33 rfl (lv_at hl 0 rfl) ?_
  refine lv_iconst (v := 0) b.1 b.2.1 dX4_begin_34 (by decide) ?_
  have t20 := tg_sI eh19 t18
  obtain ⟨h21, eh21, hf⟩ := oL_s hf
  refine pX4_50 (x := (some x0)) b hE rfl t20 eh21 dX4_begin_35 (fun H locs hE => ?_)
  refine lv_aload_n b.1 b.2.1 dX4_begin_38 rfl (lv_at hl 0 rfl) ?_
  refine lv_iconst (v := (-1)) b.1 b.2.1 dX4_begin_39 (by decide) ?_
  have t22 := tg_sI eh21 t20
  obtain ⟨h23, eh23, hf⟩ := oL_s hf
  refine pX4_53 (x := (some x0)) b hE rfl t22 eh23 dX4_begin_40 (fun H locs hE => ?_)
  refine lv_aload_n b.1 b.2.1 dX4_begin_43 rfl (lv_at hl 0 rfl) ?_
  refine lv_iconst (v := 0) b.1 b.2.1 dX4_begin_44 (by decide) ?_
  have t24 := tg_sI eh23 t22
  obtain ⟨h26, hc25, hf⟩ := oB_s hf
  refine k_callV0 (C := RX4) b zs zk hE (CX4_lookAt l D aC ad zk hc25) mc_X4_lookAt (in2 163 rfl rfl) mi_X4_lookAt ms_X4_lookAt ini_RX4 ok_X4_lookAt (x_recv b hE (ci := 4) rfl (by decide) t24) ⟨Nat.le_of_ble_eq_true rfl, Nat.le_of_ble_eq_true rfl⟩ rfl hl.1 rfl (k_room _ (by exact Nat.le_of_ble_eq_true rfl)) ⟨le_0 hk, le_0 hs⟩ dX4_begin_45 (fun H locs hE => ?_)
  cases hf
  exact k_vret b hlk hr hE (le_c hk) (le_c hs) dX4_begin_48
def fX4_begin (h : PH) (x0 : Nat) (x1 : Option Nat) (x2 : Int32) : Option (PH × Nat × Nat) := fX4_begin_0 h x0 x1 x2
set_option maxHeartbeats 4000000 in
theorem CX4_begin (l : Launch) (D : va_G) (aC : Nat → ClassId) (ad : Nat → Nat) {Z : State → Prop} (zk : ZOK Z (Rg ad)) {h : PH} {x0 : Nat} {x1 : Option Nat} {x2 : Int32} {hz : PH} {kz : Nat} {mz : Nat} (hf : fX4_begin h x0 x1 x2 = some (hz, kz, mz)) : CM l D aC Z yX4_begin cX4_begin 3 (none) 4 91 kz mz (EX D aC ad h) [.ref (ad x0), va_rf (Option.map ad x1), .int x2] (EX D aC ad hz) none (Rg ad) := by
  refine CM.of rfl ?_
  intro p e s m below meth c b hr hlk hin2 zs hE
  cases x1 <;> (
    refine k_ent (Nat.le_of_ble_eq_true rfl) (fun ls hl => ?_)
    exact wfX4_begin_0 b hlk hr zs zk hf (by omega) (by omega) hE (lv_sub hl [0, 1, 2] rfl))
theorem dX4_goesOn_0 : decode cX4_goesOn 0 = .ok (.aload_n 0, 1) := by decide +kernel
theorem dX4_goesOn_1 : decode cX4_goesOn 1 = .ok (.getfield 44, 3) := by decide +kernel
theorem dX4_goesOn_4 : decode cX4_goesOn 4 = .ok (.ifCond .ne 24, 3) := by decide +kernel
theorem dX4_goesOn_7 : decode cX4_goesOn 7 = .ok (.aload_n 0, 1) := by decide +kernel
theorem dX4_goesOn_8 : decode cX4_goesOn 8 = .ok (.getfield 40, 3) := by decide +kernel
theorem dX4_goesOn_11 : decode cX4_goesOn 11 = .ok (.ifCond .ne 13, 3) := by decide +kernel
theorem dX4_goesOn_14 : decode cX4_goesOn 14 = .ok (.aload_n 0, 1) := by decide +kernel
theorem dX4_goesOn_15 : decode cX4_goesOn 15 = .ok (.getfield 60, 3) := by decide +kernel
theorem dX4_goesOn_18 : decode cX4_goesOn 18 = .ok (.sipush 263, 3) := by decide +kernel
theorem dX4_goesOn_21 : decode cX4_goesOn 21 = .ok (.if_icmp .eq 7, 3) := by decide +kernel
theorem dX4_goesOn_24 : decode cX4_goesOn 24 = .ok (.iconst 1, 1) := by decide +kernel
theorem dX4_goesOn_25 : decode cX4_goesOn 25 = .ok (.goto 4, 3) := by decide +kernel
theorem dX4_goesOn_28 : decode cX4_goesOn 28 = .ok (.iconst 0, 1) := by decide +kernel
theorem dX4_goesOn_29 : decode cX4_goesOn 29 = .ok (.ireturn, 1) := by decide +kernel
def fX4_goesOn_0  (h : PH) (x0 : Nat) : Option (Int32) :=
  oC (decide (hT h x0 = 5)) (if (hI h 524 x0) = 0 then (if (hI h 519 x0) = 0 then (if (hI h 521 x0) = 263 then (some (0)) else (some (1))) else (some (1))) else (some (0)))
set_option maxHeartbeats 4000000 in
theorem wfX4_goesOn_0 {args : Array Value} (b : Bd p s m c cX4_goesOn 1 RX4 D aC) (hlk : meth.locks = false) (hr : meth.sig.returnType = some .boolean) {Z : State → Prop} (zs : Z s) (zk : ZOK Z (Rg ad)) {rz : Int32} {h : PH} {x0 : Nat}  {H : Heap} {locs : List Loc} {ls : Array Slot} (hf : fX4_goesOn_0 h x0 = some rz) (hE : CE (EX D aC ad h) (Rg ad) s H locs) (hl : lv_has ls 1 [(0, .ref (ad x0))]) : W p l e (RM 0 0 0 0) s m args below meth c H locs 0 0 (MQ below (PQ (EX D aC ad h) (Rg ad) (some (.int rz))) args s 0 0 (Rg ad)) (F0 m 0 ls []) := by
  unfold fX4_goesOn_0 at hf
  refine lv_aload_n b.1 b.2.1 dX4_goesOn_0 rfl (lv_at hl 0 rfl) ?_
  obtain ⟨t1, hf⟩ := oC_s hf
  have t1 := of_decide_eq_true t1
  refine gX4_44 (x := (some x0)) b hE rfl t1 dX4_goesOn_1 ?_
  refine lv_if_ne (tgt := 28) b.1 b.2.1 dX4_goesOn_4 (by decide) (fun c2 => ?_) (fun c2 => ?_)
  · have hf := oI_f c2 hf
    refine lv_iconst (v := 0) b.1 b.2.1 dX4_goesOn_28 (by decide) ?_
    cases hf
    exact k_zret b hlk hr (by decide) hE (Nat.le_refl _) (Nat.le_refl _) dX4_goesOn_29
  · have hf := oI_t c2 hf
    refine lv_aload_n b.1 b.2.1 dX4_goesOn_7 rfl (lv_at hl 0 rfl) ?_
    refine gX4_40 (x := (some x0)) b hE rfl t1 dX4_goesOn_8 ?_
    refine lv_if_ne (tgt := 24) b.1 b.2.1 dX4_goesOn_11 (by decide) (fun c3 => ?_) (fun c3 => ?_)
    · have hf := oI_f c3 hf
      refine lv_iconst (v := 1) b.1 b.2.1 dX4_goesOn_24 (by decide) ?_
      refine lv_goto (tgt := 29) b.1 b.2.1 dX4_goesOn_25 (by decide) ?_
      cases hf
      exact k_zret b hlk hr (by decide) hE (Nat.le_refl _) (Nat.le_refl _) dX4_goesOn_29
    · have hf := oI_t c3 hf
      refine lv_aload_n b.1 b.2.1 dX4_goesOn_14 rfl (lv_at hl 0 rfl) ?_
      refine gX4_60 (x := (some x0)) b hE rfl t1 dX4_goesOn_15 ?_
      refine lv_sipush (v := 263) b.1 b.2.1 dX4_goesOn_18 (by decide) ?_
      refine lv_icmp_eq (tgt := 28) b.1 b.2.1 dX4_goesOn_21 (by decide) (fun c4 => ?_) (fun c4 => ?_)
      · have hf := oI_t c4 hf
        refine lv_iconst (v := 0) b.1 b.2.1 dX4_goesOn_28 (by decide) ?_
        cases hf
        exact k_zret b hlk hr (by decide) hE (Nat.le_refl _) (Nat.le_refl _) dX4_goesOn_29
      · have hf := oI_f c4 hf
        refine lv_iconst (v := 1) b.1 b.2.1 dX4_goesOn_24 (by decide) ?_
        refine lv_goto (tgt := 29) b.1 b.2.1 dX4_goesOn_25 (by decide) ?_
        cases hf
        exact k_zret b hlk hr (by decide) hE (Nat.le_refl _) (Nat.le_refl _) dX4_goesOn_29
def fX4_goesOn (h : PH) (x0 : Nat) : Option (Int32) := fX4_goesOn_0 h x0
set_option maxHeartbeats 4000000 in
theorem CX4_goesOn (l : Launch) (D : va_G) (aC : Nat → ClassId) (ad : Nat → Nat) {Z : State → Prop} (zk : ZOK Z (Rg ad)) {h : PH} {x0 : Nat} {rz : Int32} (hf : fX4_goesOn h x0 = some rz) : CM l D aC Z yX4_goesOn cX4_goesOn 1 (some .boolean) 0 0 0 0 (EX D aC ad h) [.ref (ad x0)] (EX D aC ad h) (some (.int rz)) (Rg ad) := by
  refine CM.of rfl ?_
  intro p e s m below meth c b hr hlk hin2 zs hE
  refine k_ent (Nat.le_of_ble_eq_true rfl) (fun ls hl => ?_)
  exact wfX4_goesOn_0 b hlk hr zs zk hf hE (lv_sub hl [0] rfl)
theorem dX4_isAtRule_0 : decode cX4_isAtRule 0 = .ok (.aload_n 0, 1) := by decide +kernel
theorem dX4_isAtRule_1 : decode cX4_isAtRule 1 = .ok (.getfield 40, 3) := by decide +kernel
theorem dX4_isAtRule_4 : decode cX4_isAtRule 4 = .ok (.ifCond .eq 37, 3) := by decide +kernel
theorem dX4_isAtRule_7 : decode cX4_isAtRule 7 = .ok (.aload_n 0, 1) := by decide +kernel
theorem dX4_isAtRule_8 : decode cX4_isAtRule 8 = .ok (.getfield 60, 3) := by decide +kernel
theorem dX4_isAtRule_11 : decode cX4_isAtRule 11 = .ok (.sipush 309, 3) := by decide +kernel
theorem dX4_isAtRule_14 : decode cX4_isAtRule 14 = .ok (.if_icmp .eq 23, 3) := by decide +kernel
theorem dX4_isAtRule_17 : decode cX4_isAtRule 17 = .ok (.aload_n 0, 1) := by decide +kernel
theorem dX4_isAtRule_18 : decode cX4_isAtRule 18 = .ok (.getfield 60, 3) := by decide +kernel
theorem dX4_isAtRule_21 : decode cX4_isAtRule 21 = .ok (.sipush 310, 3) := by decide +kernel
theorem dX4_isAtRule_24 : decode cX4_isAtRule 24 = .ok (.if_icmp .eq 13, 3) := by decide +kernel
theorem dX4_isAtRule_27 : decode cX4_isAtRule 27 = .ok (.aload_n 0, 1) := by decide +kernel
theorem dX4_isAtRule_28 : decode cX4_isAtRule 28 = .ok (.getfield 60, 3) := by decide +kernel
theorem dX4_isAtRule_31 : decode cX4_isAtRule 31 = .ok (.sipush 311, 3) := by decide +kernel
theorem dX4_isAtRule_34 : decode cX4_isAtRule 34 = .ok (.if_icmp .ne 7, 3) := by decide +kernel
theorem dX4_isAtRule_37 : decode cX4_isAtRule 37 = .ok (.iconst 1, 1) := by decide +kernel
theorem dX4_isAtRule_38 : decode cX4_isAtRule 38 = .ok (.goto 4, 3) := by decide +kernel
theorem dX4_isAtRule_41 : decode cX4_isAtRule 41 = .ok (.iconst 0, 1) := by decide +kernel
theorem dX4_isAtRule_42 : decode cX4_isAtRule 42 = .ok (.ireturn, 1) := by decide +kernel
def fX4_isAtRule_0  (h : PH) (x0 : Nat) : Option (Int32) :=
  oC (decide (hT h x0 = 5)) (if (hI h 519 x0) = 0 then (some (0)) else (if (hI h 521 x0) = 309 then (some (1)) else (if (hI h 521 x0) = 310 then (some (1)) else (if (hI h 521 x0) = 311 then (some (1)) else (some (0))))))
set_option maxHeartbeats 4000000 in
theorem wfX4_isAtRule_0 {args : Array Value} (b : Bd p s m c cX4_isAtRule 1 RX4 D aC) (hlk : meth.locks = false) (hr : meth.sig.returnType = some .boolean) {Z : State → Prop} (zs : Z s) (zk : ZOK Z (Rg ad)) {rz : Int32} {h : PH} {x0 : Nat}  {H : Heap} {locs : List Loc} {ls : Array Slot} (hf : fX4_isAtRule_0 h x0 = some rz) (hE : CE (EX D aC ad h) (Rg ad) s H locs) (hl : lv_has ls 1 [(0, .ref (ad x0))]) : W p l e (RM 0 0 0 0) s m args below meth c H locs 0 0 (MQ below (PQ (EX D aC ad h) (Rg ad) (some (.int rz))) args s 0 0 (Rg ad)) (F0 m 0 ls []) := by
  unfold fX4_isAtRule_0 at hf
  refine lv_aload_n b.1 b.2.1 dX4_isAtRule_0 rfl (lv_at hl 0 rfl) ?_
  obtain ⟨t1, hf⟩ := oC_s hf
  have t1 := of_decide_eq_true t1
  refine gX4_40 (x := (some x0)) b hE rfl t1 dX4_isAtRule_1 ?_
  refine lv_if_eq (tgt := 41) b.1 b.2.1 dX4_isAtRule_4 (by decide) (fun c2 => ?_) (fun c2 => ?_)
  · have hf := oI_t c2 hf
    refine lv_iconst (v := 0) b.1 b.2.1 dX4_isAtRule_41 (by decide) ?_
    cases hf
    exact k_zret b hlk hr (by decide) hE (Nat.le_refl _) (Nat.le_refl _) dX4_isAtRule_42
  · have hf := oI_f c2 hf
    refine lv_aload_n b.1 b.2.1 dX4_isAtRule_7 rfl (lv_at hl 0 rfl) ?_
    refine gX4_60 (x := (some x0)) b hE rfl t1 dX4_isAtRule_8 ?_
    refine lv_sipush (v := 309) b.1 b.2.1 dX4_isAtRule_11 (by decide) ?_
    refine lv_icmp_eq (tgt := 37) b.1 b.2.1 dX4_isAtRule_14 (by decide) (fun c3 => ?_) (fun c3 => ?_)
    · have hf := oI_t c3 hf
      refine lv_iconst (v := 1) b.1 b.2.1 dX4_isAtRule_37 (by decide) ?_
      refine lv_goto (tgt := 42) b.1 b.2.1 dX4_isAtRule_38 (by decide) ?_
      cases hf
      exact k_zret b hlk hr (by decide) hE (Nat.le_refl _) (Nat.le_refl _) dX4_isAtRule_42
    · have hf := oI_f c3 hf
      refine lv_aload_n b.1 b.2.1 dX4_isAtRule_17 rfl (lv_at hl 0 rfl) ?_
      refine gX4_60 (x := (some x0)) b hE rfl t1 dX4_isAtRule_18 ?_
      refine lv_sipush (v := 310) b.1 b.2.1 dX4_isAtRule_21 (by decide) ?_
      refine lv_icmp_eq (tgt := 37) b.1 b.2.1 dX4_isAtRule_24 (by decide) (fun c4 => ?_) (fun c4 => ?_)
      · have hf := oI_t c4 hf
        refine lv_iconst (v := 1) b.1 b.2.1 dX4_isAtRule_37 (by decide) ?_
        refine lv_goto (tgt := 42) b.1 b.2.1 dX4_isAtRule_38 (by decide) ?_
        cases hf
        exact k_zret b hlk hr (by decide) hE (Nat.le_refl _) (Nat.le_refl _) dX4_isAtRule_42
      · have hf := oI_f c4 hf
        refine lv_aload_n b.1 b.2.1 dX4_isAtRule_27 rfl (lv_at hl 0 rfl) ?_
        refine gX4_60 (x := (some x0)) b hE rfl t1 dX4_isAtRule_28 ?_
        refine lv_sipush (v := 311) b.1 b.2.1 dX4_isAtRule_31 (by decide) ?_
        refine lv_icmp_ne (tgt := 41) b.1 b.2.1 dX4_isAtRule_34 (by decide) (fun c5 => ?_) (fun c5 => ?_)
        · have hf := oI_f c5 hf
          refine lv_iconst (v := 0) b.1 b.2.1 dX4_isAtRule_41 (by decide) ?_
          cases hf
          exact k_zret b hlk hr (by decide) hE (Nat.le_refl _) (Nat.le_refl _) dX4_isAtRule_42
        · have hf := oI_t c5 hf
          refine lv_iconst (v := 1) b.1 b.2.1 dX4_isAtRule_37 (by decide) ?_
          refine lv_goto (tgt := 42) b.1 b.2.1 dX4_isAtRule_38 (by decide) ?_
          cases hf
          exact k_zret b hlk hr (by decide) hE (Nat.le_refl _) (Nat.le_refl _) dX4_isAtRule_42
def fX4_isAtRule (h : PH) (x0 : Nat) : Option (Int32) := fX4_isAtRule_0 h x0
set_option maxHeartbeats 4000000 in
theorem CX4_isAtRule (l : Launch) (D : va_G) (aC : Nat → ClassId) (ad : Nat → Nat) {Z : State → Prop} (zk : ZOK Z (Rg ad)) {h : PH} {x0 : Nat} {rz : Int32} (hf : fX4_isAtRule h x0 = some rz) : CM l D aC Z yX4_isAtRule cX4_isAtRule 1 (some .boolean) 0 0 0 0 (EX D aC ad h) [.ref (ad x0)] (EX D aC ad h) (some (.int rz)) (Rg ad) := by
  refine CM.of rfl ?_
  intro p e s m below meth c b hr hlk hin2 zs hE
  refine k_ent (Nat.le_of_ble_eq_true rfl) (fun ls hl => ?_)
  exact wfX4_isAtRule_0 b hlk hr zs zk hf hE (lv_sub hl [0] rfl)
theorem dX4_stopAt_0 : decode cX4_stopAt 0 = .ok (.aload_n 0, 1) := by decide +kernel
theorem dX4_stopAt_1 : decode cX4_stopAt 1 = .ok (.getfield 44, 3) := by decide +kernel
theorem dX4_stopAt_4 : decode cX4_stopAt 4 = .ok (.ifCond .ne 23, 3) := by decide +kernel
theorem dX4_stopAt_7 : decode cX4_stopAt 7 = .ok (.aload_n 0, 1) := by decide +kernel
theorem dX4_stopAt_8 : decode cX4_stopAt 8 = .ok (.iload_n 1, 1) := by decide +kernel
theorem dX4_stopAt_9 : decode cX4_stopAt 9 = .ok (.putfield 44, 3) := by decide +kernel
theorem dX4_stopAt_12 : decode cX4_stopAt 12 = .ok (.aload_n 0, 1) := by decide +kernel
theorem dX4_stopAt_13 : decode cX4_stopAt 13 = .ok (.aload_n 0, 1) := by decide +kernel
theorem dX4_stopAt_14 : decode cX4_stopAt 14 = .ok (.getfield 155, 3) := by decide +kernel
theorem dX4_stopAt_17 : decode cX4_stopAt 17 = .ok (.putfield 47, 3) := by decide +kernel
theorem dX4_stopAt_20 : decode cX4_stopAt 20 = .ok (.aload_n 0, 1) := by decide +kernel
theorem dX4_stopAt_21 : decode cX4_stopAt 21 = .ok (.sipush 264, 3) := by decide +kernel
theorem dX4_stopAt_24 : decode cX4_stopAt 24 = .ok (.putfield 60, 3) := by decide +kernel
theorem dX4_stopAt_27 : decode cX4_stopAt 27 = .ok (.return_, 1) := by decide +kernel
def fX4_stopAt_0  (h : PH) (x0 : Nat) (x1 : Int32) : Option (PH) :=
  oC (decide (hT h x0 = 5)) (if (hI h 524 x0) = 0 then (oL (sI h 524 x0 x1) (fun h3 => oL (sI h3 525 x0 (hI h3 522 x0)) (fun h5 => oL (sI h5 521 x0 264) (fun h7 => some (h7))))) else (some (h)))
set_option maxHeartbeats 4000000 in
theorem wfX4_stopAt_0 {args : Array Value} (b : Bd p s m c cX4_stopAt 2 RX4 D aC) (hlk : meth.locks = false) (hr : meth.sig.returnType = none) {Z : State → Prop} (zs : Z s) (zk : ZOK Z (Rg ad)) {hz : PH} {h : PH} {x0 : Nat} {x1 : Int32}  {H : Heap} {locs : List Loc} {ls : Array Slot} (hf : fX4_stopAt_0 h x0 x1 = some hz) (hE : CE (EX D aC ad h) (Rg ad) s H locs) (hl : lv_has ls 2 [(0, .ref (ad x0)), (1, .int x1)]) : W p l e (RM 0 0 0 0) s m args below meth c H locs 0 0 (MQ below (PQ (EX D aC ad hz) (Rg ad) none) args s 0 0 (Rg ad)) (F0 m 0 ls []) := by
  unfold fX4_stopAt_0 at hf
  refine lv_aload_n b.1 b.2.1 dX4_stopAt_0 rfl (lv_at hl 0 rfl) ?_
  obtain ⟨t1, hf⟩ := oC_s hf
  have t1 := of_decide_eq_true t1
  refine gX4_44 (x := (some x0)) b hE rfl t1 dX4_stopAt_1 ?_
  refine lv_if_ne (tgt := 27) b.1 b.2.1 dX4_stopAt_4 (by decide) (fun c2 => ?_) (fun c2 => ?_)
  · have hf := oI_f c2 hf
    cases hf
    exact k_vret b hlk hr hE (Nat.le_refl _) (Nat.le_refl _) dX4_stopAt_27
  · have hf := oI_t c2 hf
    refine lv_aload_n b.1 b.2.1 dX4_stopAt_7 rfl (lv_at hl 0 rfl) ?_
    refine lv_iload_n b.1 b.2.1 dX4_stopAt_8 rfl (lv_at hl 1 rfl) ?_
    obtain ⟨h3, eh3, hf⟩ := oL_s hf
    refine pX4_44 (x := (some x0)) b hE rfl t1 eh3 dX4_stopAt_9 (fun H locs hE => ?_)
    refine lv_aload_n b.1 b.2.1 dX4_stopAt_12 rfl (lv_at hl 0 rfl) ?_
    refine lv_aload_n b.1 b.2.1 dX4_stopAt_13 rfl (lv_at hl 0 rfl) ?_
    have t4 := tg_sI eh3 t1
    refine gX4_155 (x := (some x0)) b hE rfl t4 dX4_stopAt_14 ?_
    obtain ⟨h5, eh5, hf⟩ := oL_s hf
    refine pX4_47 (x := (some x0)) b hE rfl t4 eh5 dX4_stopAt_17 (fun H locs hE => ?_)
    refine lv_aload_n b.1 b.2.1 dX4_stopAt_20 rfl (lv_at hl 0 rfl) ?_
    refine lv_sipush (v := 264) b.1 b.2.1 dX4_stopAt_21 (by decide) ?_
    have t6 := tg_sI eh5 t4
    obtain ⟨h7, eh7, hf⟩ := oL_s hf
    refine pX4_60 (x := (some x0)) b hE rfl t6 eh7 dX4_stopAt_24 (fun H locs hE => ?_)
    cases hf
    exact k_vret b hlk hr hE (Nat.le_refl _) (Nat.le_refl _) dX4_stopAt_27
def fX4_stopAt (h : PH) (x0 : Nat) (x1 : Int32) : Option (PH) := fX4_stopAt_0 h x0 x1
set_option maxHeartbeats 4000000 in
theorem CX4_stopAt (l : Launch) (D : va_G) (aC : Nat → ClassId) (ad : Nat → Nat) {Z : State → Prop} (zk : ZOK Z (Rg ad)) {h : PH} {x0 : Nat} {x1 : Int32} {hz : PH} (hf : fX4_stopAt h x0 x1 = some hz) : CM l D aC Z yX4_stopAt cX4_stopAt 2 (none) 0 0 0 0 (EX D aC ad h) [.ref (ad x0), .int x1] (EX D aC ad hz) none (Rg ad) := by
  refine CM.of rfl ?_
  intro p e s m below meth c b hr hlk hin2 zs hE
  refine k_ent (Nat.le_of_ble_eq_true rfl) (fun ls hl => ?_)
  exact wfX4_stopAt_0 b hlk hr zs zk hf hE (lv_sub hl [0, 1] rfl)
theorem dX4_expect_0 : decode cX4_expect 0 = .ok (.aload_n 0, 1) := by decide +kernel
theorem dX4_expect_1 : decode cX4_expect 1 = .ok (.getfield 60, 3) := by decide +kernel
theorem dX4_expect_4 : decode cX4_expect 4 = .ok (.iload_n 1, 1) := by decide +kernel
theorem dX4_expect_5 : decode cX4_expect 5 = .ok (.if_icmp .eq 10, 3) := by decide +kernel
theorem dX4_expect_8 : decode cX4_expect 8 = .ok (.aload_n 0, 1) := by decide +kernel
theorem dX4_expect_9 : decode cX4_expect 9 = .ok (.iconst 1, 1) := by decide +kernel
theorem dX4_expect_10 : decode cX4_expect 10 = .ok (.invokevirtual 89, 3) := by decide +kernel
theorem dX4_expect_13 : decode cX4_expect 13 = .ok (.iconst 0, 1) := by decide +kernel
theorem dX4_expect_14 : decode cX4_expect 14 = .ok (.ireturn, 1) := by decide +kernel
theorem dX4_expect_15 : decode cX4_expect 15 = .ok (.aload_n 0, 1) := by decide +kernel
theorem dX4_expect_16 : decode cX4_expect 16 = .ok (.getfield 146, 3) := by decide +kernel
theorem dX4_expect_19 : decode cX4_expect 19 = .ok (.sipush 1200, 3) := by decide +kernel
theorem dX4_expect_22 : decode cX4_expect 22 = .ok (.if_icmp .lt 10, 3) := by decide +kernel
theorem dX4_expect_25 : decode cX4_expect 25 = .ok (.aload_n 0, 1) := by decide +kernel
theorem dX4_expect_26 : decode cX4_expect 26 = .ok (.iconst 2, 1) := by decide +kernel
theorem dX4_expect_27 : decode cX4_expect 27 = .ok (.invokevirtual 89, 3) := by decide +kernel
theorem dX4_expect_30 : decode cX4_expect 30 = .ok (.iconst 0, 1) := by decide +kernel
theorem dX4_expect_31 : decode cX4_expect 31 = .ok (.ireturn, 1) := by decide +kernel
theorem dX4_expect_32 : decode cX4_expect 32 = .ok (.aload_n 0, 1) := by decide +kernel
theorem dX4_expect_33 : decode cX4_expect 33 = .ok (.aload_n 0, 1) := by decide +kernel
theorem dX4_expect_34 : decode cX4_expect 34 = .ok (.getfield 146, 3) := by decide +kernel
theorem dX4_expect_37 : decode cX4_expect 37 = .ok (.iconst 1, 1) := by decide +kernel
theorem dX4_expect_38 : decode cX4_expect 38 = .ok (.iadd, 1) := by decide +kernel
theorem dX4_expect_39 : decode cX4_expect 39 = .ok (.invokevirtual 56, 3) := by decide +kernel
theorem dX4_expect_42 : decode cX4_expect 42 = .ok (.iconst 1, 1) := by decide +kernel
theorem dX4_expect_43 : decode cX4_expect 43 = .ok (.ireturn, 1) := by decide +kernel
def fX4_expect_0  (h : PH) (x0 : Nat) (x1 : Int32) : Option (PH × Int32) :=
  oC (decide (hT h x0 = 5)) (if (hI h 521 x0) = x1 then (if (hI h 520 x0) < 1200 then (oB (fX4_lookAt h x0 ((hI h 520 x0) + 1)) (fun h5 => some (h5, 1))) else (oB (fX4_stopAt h x0 2) (fun h7 => some (h7, 0)))) else (oB (fX4_stopAt h x0 1) (fun h9 => some (h9, 0))))
set_option maxHeartbeats 4000000 in
theorem wfX4_expect_0 {args : Array Value} (b : Bd p s m c cX4_expect 2 RX4 D aC) (hlk : meth.locks = false) (hr : meth.sig.returnType = some .boolean) {Z : State → Prop} (zs : Z s) (zk : ZOK Z (Rg ad)) {hz : PH} {rz : Int32} {h : PH} {x0 : Nat} {x1 : Int32}  {H : Heap} {locs : List Loc} {ls : Array Slot} (hf : fX4_expect_0 h x0 x1 = some (hz, rz)) (hE : CE (EX D aC ad h) (Rg ad) s H locs) (hl : lv_has ls 2 [(0, .ref (ad x0)), (1, .int x1)]) : W p l e (RM 1 22 0 0) s m args below meth c H locs 0 0 (MQ below (PQ (EX D aC ad hz) (Rg ad) (some (.int rz))) args s 0 0 (Rg ad)) (F0 m 0 ls []) := by
  unfold fX4_expect_0 at hf
  refine lv_aload_n b.1 b.2.1 dX4_expect_0 rfl (lv_at hl 0 rfl) ?_
  obtain ⟨t1, hf⟩ := oC_s hf
  have t1 := of_decide_eq_true t1
  refine gX4_60 (x := (some x0)) b hE rfl t1 dX4_expect_1 ?_
  refine lv_iload_n b.1 b.2.1 dX4_expect_4 rfl (lv_at hl 1 rfl) ?_
  refine lv_icmp_eq (tgt := 15) b.1 b.2.1 dX4_expect_5 (by decide) (fun c2 => ?_) (fun c2 => ?_)
  · have hf := oI_t c2 hf
    refine lv_aload_n b.1 b.2.1 dX4_expect_15 rfl (lv_at hl 0 rfl) ?_
    refine gX4_146 (x := (some x0)) b hE rfl t1 dX4_expect_16 ?_
    refine lv_sipush (v := 1200) b.1 b.2.1 dX4_expect_19 (by decide) ?_
    refine lv_icmp_lt (tgt := 32) b.1 b.2.1 dX4_expect_22 (by decide) (fun c3 => ?_) (fun c3 => ?_)
    · have hf := oI_t c3 hf
      refine lv_aload_n b.1 b.2.1 dX4_expect_32 rfl (lv_at hl 0 rfl) ?_
      refine lv_aload_n b.1 b.2.1 dX4_expect_33 rfl (lv_at hl 0 rfl) ?_
      refine gX4_146 (x := (some x0)) b hE rfl t1 dX4_expect_34 ?_
      refine lv_iconst (v := 1) b.1 b.2.1 dX4_expect_37 (by decide) ?_
      refine lv_iadd b.1 b.2.1 dX4_expect_38 ?_
      obtain ⟨h5, hc4, hf⟩ := oB_s hf
      refine k_callV0 (C := RX4) b zs zk hE (CX4_lookAt l D aC ad zk hc4) mc_X4_lookAt (in2 163 rfl rfl) mi_X4_lookAt ms_X4_lookAt ini_RX4 ok_X4_lookAt (x_recv b hE (ci := 4) rfl (by decide) t1) ⟨Nat.le_of_ble_eq_true rfl, Nat.le_of_ble_eq_true rfl⟩ rfl hl.1 rfl (k_room _ (by exact Nat.le_of_ble_eq_true rfl)) ⟨Nat.le_refl _, Nat.le_refl _⟩ dX4_expect_39 (fun H locs hE => ?_)
      refine lv_iconst (v := 1) b.1 b.2.1 dX4_expect_42 (by decide) ?_
      cases hf
      exact k_zret b hlk hr (by decide) hE (Nat.le_refl _) (Nat.le_refl _) dX4_expect_43
    · have hf := oI_f c3 hf
      refine lv_aload_n b.1 b.2.1 dX4_expect_25 rfl (lv_at hl 0 rfl) ?_
      refine lv_iconst (v := 2) b.1 b.2.1 dX4_expect_26 (by decide) ?_
      obtain ⟨h7, hc6, hf⟩ := oB_s hf
      refine k_callV0 (C := RX4) b zs zk hE (CX4_stopAt l D aC ad zk hc6) mc_X4_stopAt (in2 183 rfl rfl) mi_X4_stopAt ms_X4_stopAt ini_RX4 ok_X4_stopAt (x_recv b hE (ci := 4) rfl (by decide) t1) ⟨Nat.le_of_ble_eq_true rfl, Nat.le_of_ble_eq_true rfl⟩ rfl hl.1 rfl (k_room _ (by exact Nat.le_of_ble_eq_true rfl)) ⟨Nat.le_refl _, Nat.le_refl _⟩ dX4_expect_27 (fun H locs hE => ?_)
      refine lv_iconst (v := 0) b.1 b.2.1 dX4_expect_30 (by decide) ?_
      cases hf
      exact k_zret b hlk hr (by decide) hE (Nat.le_refl _) (Nat.le_refl _) dX4_expect_31
  · have hf := oI_f c2 hf
    refine lv_aload_n b.1 b.2.1 dX4_expect_8 rfl (lv_at hl 0 rfl) ?_
    refine lv_iconst (v := 1) b.1 b.2.1 dX4_expect_9 (by decide) ?_
    obtain ⟨h9, hc8, hf⟩ := oB_s hf
    refine k_callV0 (C := RX4) b zs zk hE (CX4_stopAt l D aC ad zk hc8) mc_X4_stopAt (in2 183 rfl rfl) mi_X4_stopAt ms_X4_stopAt ini_RX4 ok_X4_stopAt (x_recv b hE (ci := 4) rfl (by decide) t1) ⟨Nat.le_of_ble_eq_true rfl, Nat.le_of_ble_eq_true rfl⟩ rfl hl.1 rfl (k_room _ (by exact Nat.le_of_ble_eq_true rfl)) ⟨Nat.le_refl _, Nat.le_refl _⟩ dX4_expect_10 (fun H locs hE => ?_)
    refine lv_iconst (v := 0) b.1 b.2.1 dX4_expect_13 (by decide) ?_
    cases hf
    exact k_zret b hlk hr (by decide) hE (Nat.le_refl _) (Nat.le_refl _) dX4_expect_14
def fX4_expect (h : PH) (x0 : Nat) (x1 : Int32) : Option (PH × Int32) := fX4_expect_0 h x0 x1
set_option maxHeartbeats 4000000 in
theorem CX4_expect (l : Launch) (D : va_G) (aC : Nat → ClassId) (ad : Nat → Nat) {Z : State → Prop} (zk : ZOK Z (Rg ad)) {h : PH} {x0 : Nat} {x1 : Int32} {hz : PH} {rz : Int32} (hf : fX4_expect h x0 x1 = some (hz, rz)) : CM l D aC Z yX4_expect cX4_expect 2 (some .boolean) 1 22 0 0 (EX D aC ad h) [.ref (ad x0), .int x1] (EX D aC ad hz) (some (.int rz)) (Rg ad) := by
  refine CM.of rfl ?_
  intro p e s m below meth c b hr hlk hin2 zs hE
  refine k_ent (Nat.le_of_ble_eq_true rfl) (fun ls hl => ?_)
  exact wfX4_expect_0 b hlk hr zs zk hf hE (lv_sub hl [0, 1] rfl)
theorem dX7_isFull_0 : decode cX7_isFull 0 = .ok (.aload_n 0, 1) := by decide +kernel
theorem dX7_isFull_1 : decode cX7_isFull 1 = .ok (.getfield 21, 3) := by decide +kernel
theorem dX7_isFull_4 : decode cX7_isFull 4 = .ok (.aload_n 0, 1) := by decide +kernel
theorem dX7_isFull_5 : decode cX7_isFull 5 = .ok (.getfield 15, 3) := by decide +kernel
theorem dX7_isFull_8 : decode cX7_isFull 8 = .ok (.arraylength, 1) := by decide +kernel
theorem dX7_isFull_9 : decode cX7_isFull 9 = .ok (.if_icmp .lt 7, 3) := by decide +kernel
theorem dX7_isFull_12 : decode cX7_isFull 12 = .ok (.iconst 1, 1) := by decide +kernel
theorem dX7_isFull_13 : decode cX7_isFull 13 = .ok (.goto 4, 3) := by decide +kernel
theorem dX7_isFull_16 : decode cX7_isFull 16 = .ok (.iconst 0, 1) := by decide +kernel
theorem dX7_isFull_17 : decode cX7_isFull 17 = .ok (.ireturn, 1) := by decide +kernel
def fX7_isFull_0  (h : PH) (x0 : Nat) : Option (Int32) :=
  oC (decide (hT h x0 = 8)) (oN (hR h 896 x0) (fun a2 => oC (decide (hT h a2 = 102)) (if (hI h 897 x0) < (nI (hN h a2)) then (some (0)) else (some (1)))))
set_option maxHeartbeats 4000000 in
theorem wfX7_isFull_0 {args : Array Value} (b : Bd p s m c cX7_isFull 1 RX7 D aC) (hlk : meth.locks = false) (hr : meth.sig.returnType = some .boolean) {Z : State → Prop} (zs : Z s) (zk : ZOK Z (Rg ad)) {rz : Int32} {h : PH} {x0 : Nat}  {H : Heap} {locs : List Loc} {ls : Array Slot} (hf : fX7_isFull_0 h x0 = some rz) (hE : CE (EX D aC ad h) (Rg ad) s H locs) (hl : lv_has ls 1 [(0, .ref (ad x0))]) : W p l e (RM 0 0 0 0) s m args below meth c H locs 0 0 (MQ below (PQ (EX D aC ad h) (Rg ad) (some (.int rz))) args s 0 0 (Rg ad)) (F0 m 0 ls []) := by
  unfold fX7_isFull_0 at hf
  refine lv_aload_n b.1 b.2.1 dX7_isFull_0 rfl (lv_at hl 0 rfl) ?_
  obtain ⟨t1, hf⟩ := oC_s hf
  have t1 := of_decide_eq_true t1
  refine gX7_21 (x := (some x0)) b hE rfl t1 dX7_isFull_1 ?_
  refine lv_aload_n b.1 b.2.1 dX7_isFull_4 rfl (lv_at hl 0 rfl) ?_
  refine gX7_15 (x := (some x0)) b hE rfl t1 dX7_isFull_5 ?_
  obtain ⟨a2, ea2, hf⟩ := oN_s hf
  obtain ⟨t3, hf⟩ := oC_s hf
  have t3 := of_decide_eq_true t3
  refine q_alen (x := (hR h 896 x0)) (k := 2) b hE ea2 (by decide) t3 dX7_isFull_8 ?_
  refine lv_icmp_lt (tgt := 16) b.1 b.2.1 dX7_isFull_9 (by decide) (fun c4 => ?_) (fun c4 => ?_)
  · have hf := oI_t c4 hf
    refine lv_iconst (v := 0) b.1 b.2.1 dX7_isFull_16 (by decide) ?_
    cases hf
    exact k_zret b hlk hr (by decide) hE (Nat.le_refl _) (Nat.le_refl _) dX7_isFull_17
  · have hf := oI_f c4 hf
    refine lv_iconst (v := 1) b.1 b.2.1 dX7_isFull_12 (by decide) ?_
    refine lv_goto (tgt := 17) b.1 b.2.1 dX7_isFull_13 (by decide) ?_
    cases hf
    exact k_zret b hlk hr (by decide) hE (Nat.le_refl _) (Nat.le_refl _) dX7_isFull_17
def fX7_isFull (h : PH) (x0 : Nat) : Option (Int32) := fX7_isFull_0 h x0
set_option maxHeartbeats 4000000 in
theorem CX7_isFull (l : Launch) (D : va_G) (aC : Nat → ClassId) (ad : Nat → Nat) {Z : State → Prop} (zk : ZOK Z (Rg ad)) {h : PH} {x0 : Nat} {rz : Int32} (hf : fX7_isFull h x0 = some rz) : CM l D aC Z yX7_isFull cX7_isFull 1 (some .boolean) 0 0 0 0 (EX D aC ad h) [.ref (ad x0)] (EX D aC ad h) (some (.int rz)) (Rg ad) := by
  refine CM.of rfl ?_
  intro p e s m below meth c b hr hlk hin2 zs hE
  refine k_ent (Nat.le_of_ble_eq_true rfl) (fun ls hl => ?_)
  exact wfX7_isFull_0 b hlk hr zs zk hf hE (lv_sub hl [0] rfl)
theorem dX7_find_0 : decode cX7_find 0 = .ok (.iconst 0, 1) := by decide +kernel
theorem dX7_find_1 : decode cX7_find 1 = .ok (.istore_n 3, 1) := by decide +kernel
theorem dX7_find_2 : decode cX7_find 2 = .ok (.iload_n 3, 1) := by decide +kernel
theorem dX7_find_3 : decode cX7_find 3 = .ok (.aload_n 0, 1) := by decide +kernel
theorem dX7_find_4 : decode cX7_find 4 = .ok (.getfield 21, 3) := by decide +kernel
theorem dX7_find_7 : decode cX7_find 7 = .ok (.if_icmp .ge 22, 3) := by decide +kernel
theorem dX7_find_10 : decode cX7_find 10 = .ok (.aload_n 0, 1) := by decide +kernel
theorem dX7_find_11 : decode cX7_find 11 = .ok (.getfield 15, 3) := by decide +kernel
theorem dX7_find_14 : decode cX7_find 14 = .ok (.iload_n 3, 1) := by decide +kernel
theorem dX7_find_15 : decode cX7_find 15 = .ok (.laload, 1) := by decide +kernel
theorem dX7_find_16 : decode cX7_find 16 = .ok (.lload_n 1, 1) := by decide +kernel
theorem dX7_find_17 : decode cX7_find 17 = .ok (.lcmp, 1) := by decide +kernel
theorem dX7_find_18 : decode cX7_find 18 = .ok (.ifCond .ne 5, 3) := by decide +kernel
theorem dX7_find_21 : decode cX7_find 21 = .ok (.iload_n 3, 1) := by decide +kernel
theorem dX7_find_22 : decode cX7_find 22 = .ok (.ireturn, 1) := by decide +kernel
theorem dX7_find_23 : decode cX7_find 23 = .ok (.iinc 3 1, 3) := by decide +kernel
theorem dX7_find_26 : decode cX7_find 26 = .ok (.goto (-24), 3) := by decide +kernel
theorem dX7_find_29 : decode cX7_find 29 = .ok (.iconst (-1), 1) := by decide +kernel
theorem dX7_find_30 : decode cX7_find 30 = .ok (.ireturn, 1) := by decide +kernel
def fX7_find_2F (k2 : PH → Nat → Int64 → Int32 → Option (Int32)) (h : PH) (x0 : Nat) (x1 : Int64) (x3 : Int32) : Option (Int32) :=
  oC (decide (hT h x0 = 8)) (if (hI h 897 x0) ≤ x3 then (some ((-1))) else (oN (hR h 896 x0) (fun a3 => oC (decide (hT h a3 = 102)) (oC (ix x3 (hN h a3)) (if (lg_cmp (hB h a3 (Int32.toNatClampNeg x3)) x1) = 0 then (some (x3)) else (oL (x3 + 1) (fun y7 => k2 h x0 x1 y7)))))))
set_option maxHeartbeats 4000000 in
theorem wfX7_find_2F {args : Array Value} (b : Bd p s m c cX7_find 4 RX7 D aC) (hlk : meth.locks = false) (hr : meth.sig.returnType = some .int) {Z : State → Prop} (zs : Z s) (zk : ZOK Z (Rg ad)) {rz : Int32} {k2 : PH → Nat → Int64 → Int32 → Option (Int32)} (H2 : ∀ (h : PH) (x0 : Nat) (x1 : Int64) (x3 : Int32), ∀ (H : Heap) (locs : List Loc) (ls : Array Slot), k2 h x0 x1 x3 = some rz → CE (EX D aC ad h) (Rg ad) s H locs → lv_has ls 4 [(0, .ref (ad x0)), (1, .long x1), (3, .int x3)] → W p l e (RM 0 0 0 0) s m args below meth c H locs 0 0 (MQ below (PQ (EX D aC ad h) (Rg ad) (some (.int rz))) args s 0 0 (Rg ad)) (F0 m 2 ls [])) {h : PH} {x0 : Nat} {x1 : Int64} {x3 : Int32}  {H : Heap} {locs : List Loc} {ls : Array Slot} (hf : fX7_find_2F k2 h x0 x1 x3 = some rz) (hE : CE (EX D aC ad h) (Rg ad) s H locs) (hl : lv_has ls 4 [(0, .ref (ad x0)), (1, .long x1), (3, .int x3)]) : W p l e (RM 0 0 0 0) s m args below meth c H locs 0 0 (MQ below (PQ (EX D aC ad h) (Rg ad) (some (.int rz))) args s 0 0 (Rg ad)) (F0 m 2 ls []) := by
  unfold fX7_find_2F at hf
  refine lv_iload_n b.1 b.2.1 dX7_find_2 rfl (lv_at hl 2 rfl) ?_
  refine lv_aload_n b.1 b.2.1 dX7_find_3 rfl (lv_at hl 0 rfl) ?_
  obtain ⟨t1, hf⟩ := oC_s hf
  have t1 := of_decide_eq_true t1
  refine gX7_21 (x := (some x0)) b hE rfl t1 dX7_find_4 ?_
  refine lv_icmp_ge (tgt := 29) b.1 b.2.1 dX7_find_7 (by decide) (fun c2 => ?_) (fun c2 => ?_)
  · have hf := oI_t c2 hf
    refine lv_iconst (v := (-1)) b.1 b.2.1 dX7_find_29 (by decide) ?_
    cases hf
    exact k_iret b hlk hr hE (Nat.le_refl _) (Nat.le_refl _) dX7_find_30
  · have hf := oI_f c2 hf
    refine lv_aload_n b.1 b.2.1 dX7_find_10 rfl (lv_at hl 0 rfl) ?_
    refine gX7_15 (x := (some x0)) b hE rfl t1 dX7_find_11 ?_
    refine lv_iload_n b.1 b.2.1 dX7_find_14 rfl (lv_at hl 2 rfl) ?_
    obtain ⟨a3, ea3, hf⟩ := oN_s hf
    obtain ⟨t4, hf⟩ := oC_s hf
    have t4 := of_decide_eq_true t4
    obtain ⟨g5, hf⟩ := oC_s hf
    refine q_lald (x := (hR h 896 x0)) b hE ea3 t4 g5 dX7_find_15 ?_
    refine lv_lload_n b.1 b.2.1 dX7_find_16 rfl (lv_at hl 1 rfl) ?_
    refine W.lcmp b.1 b.2.1 dX7_find_17 ?_
    refine lv_if_ne (tgt := 23) b.1 b.2.1 dX7_find_18 (by decide) (fun c6 => ?_) (fun c6 => ?_)
    · have hf := oI_f c6 hf
      obtain ⟨y7, ey7, hf⟩ := oL_s hf
      refine lv_iinc (v := y7) (lv' := [(3, .int y7), (0, .ref (ad x0)), (1, .long x1)]) b.1 b.2.1 dX7_find_23 hl (k := 2) rfl (by rw [ey7]; rfl) (by decide) rfl (fun ls hl => ?_)
      refine lv_goto (tgt := 2) b.1 b.2.1 dX7_find_26 (by decide) ?_
      exact H2 h x0 x1 y7 _ _ _ hf hE (lv_sub hl [1, 2, 0] rfl)
    · have hf := oI_t c6 hf
      refine lv_iload_n b.1 b.2.1 dX7_find_21 rfl (lv_at hl 2 rfl) ?_
      cases hf
      exact k_iret b hlk hr hE (Nat.le_refl _) (Nat.le_refl _) dX7_find_22
def fX7_find_2  : Nat → PH → Nat → Int64 → Int32 → Option (Int32)
  | 0 => fun _ _ _ _ => none
  | n + 1 => fX7_find_2F  (fX7_find_2  n)
set_option maxHeartbeats 4000000 in
theorem wfX7_find_2 {args : Array Value} (b : Bd p s m c cX7_find 4 RX7 D aC) (hlk : meth.locks = false) (hr : meth.sig.returnType = some .int) {Z : State → Prop} (zs : Z s) (zk : ZOK Z (Rg ad)) {rz : Int32} : ∀ n : Nat, ∀ (h : PH) (x0 : Nat) (x1 : Int64) (x3 : Int32), ∀ (H : Heap) (locs : List Loc) (ls : Array Slot), fX7_find_2  n h x0 x1 x3 = some rz → CE (EX D aC ad h) (Rg ad) s H locs → lv_has ls 4 [(0, .ref (ad x0)), (1, .long x1), (3, .int x3)] → W p l e (RM 0 0 0 0) s m args below meth c H locs 0 0 (MQ below (PQ (EX D aC ad h) (Rg ad) (some (.int rz))) args s 0 0 (Rg ad)) (F0 m 2 ls []) := by
  intro n
  induction n with
  | zero =>
    intro h x0 x1 x3 H locs ls hf
    have hf : (none : Option (Int32)) = some _ := hf
    cases hf
  | succ n ih =>
    intro h x0 x1 x3 H locs ls hf hE hl
    exact wfX7_find_2F b hlk hr zs zk  ih hf hE hl
def fX7_find_0  (h : PH) (x0 : Nat) (x1 : Int64) : Option (Int32) :=
  fX7_find_2  FU h x0 x1 0
set_option maxHeartbeats 4000000 in
theorem wfX7_find_0 {args : Array Value} (b : Bd p s m c cX7_find 4 RX7 D aC) (hlk : meth.locks = false) (hr : meth.sig.returnType = some .int) {Z : State → Prop} (zs : Z s) (zk : ZOK Z (Rg ad)) {rz : Int32} {h : PH} {x0 : Nat} {x1 : Int64}  {H : Heap} {locs : List Loc} {ls : Array Slot} (hf : fX7_find_0 h x0 x1 = some rz) (hE : CE (EX D aC ad h) (Rg ad) s H locs) (hl : lv_has ls 4 [(0, .ref (ad x0)), (1, .long x1)]) : W p l e (RM 0 0 0 0) s m args below meth c H locs 0 0 (MQ below (PQ (EX D aC ad h) (Rg ad) (some (.int rz))) args s 0 0 (Rg ad)) (F0 m 0 ls []) := by
  unfold fX7_find_0 at hf
  refine lv_iconst (v := 0) b.1 b.2.1 dX7_find_0 (by decide) ?_
  refine lv_istore_n (lv' := [(3, .int 0), (0, .ref (ad x0)), (1, .long x1)]) b.1 b.2.1 dX7_find_1 rfl hl (by decide) rfl (fun ls hl => ?_)
  exact wfX7_find_2 b hlk hr zs zk  FU h x0 x1 0 _ _ _ hf hE (lv_sub hl [1, 2, 0] rfl)
def fX7_find (h : PH) (x0 : Nat) (x1 : Int64) : Option (Int32) := fX7_find_0 h x0 x1
set_option maxHeartbeats 4000000 in
theorem CX7_find (l : Launch) (D : va_G) (aC : Nat → ClassId) (ad : Nat → Nat) {Z : State → Prop} (zk : ZOK Z (Rg ad)) {h : PH} {x0 : Nat} {x1 : Int64} {rz : Int32} (hf : fX7_find h x0 x1 = some rz) : CM l D aC Z yX7_find cX7_find 4 (some .int) 0 0 0 0 (EX D aC ad h) [.ref (ad x0), .long x1] (EX D aC ad h) (some (.int rz)) (Rg ad) := by
  refine CM.of rfl ?_
  intro p e s m below meth c b hr hlk hin2 zs hE
  refine k_ent (Nat.le_of_ble_eq_true rfl) (fun ls hl => ?_)
  exact wfX7_find_0 b hlk hr zs zk hf hE (lv_sub hl [0, 1] rfl)
theorem dX4_note_0 : decode cX4_note 0 = .ok (.aload_n 0, 1) := by decide +kernel
theorem dX4_note_1 : decode cX4_note 1 = .ok (.getfield 50, 3) := by decide +kernel
theorem dX4_note_4 : decode cX4_note 4 = .ok (.ifCond .eq 27, 3) := by decide +kernel
theorem dX4_note_7 : decode cX4_note 7 = .ok (.iload_n 2, 1) := by decide +kernel
theorem dX4_note_8 : decode cX4_note 8 = .ok (.aload_n 0, 1) := by decide +kernel
theorem dX4_note_9 : decode cX4_note 9 = .ok (.getfield 53, 3) := by decide +kernel
theorem dX4_note_12 : decode cX4_note 12 = .ok (.if_icmp .lt 19, 3) := by decide +kernel
theorem dX4_note_15 : decode cX4_note 15 = .ok (.iload_n 2, 1) := by decide +kernel
theorem dX4_note_16 : decode cX4_note 16 = .ok (.aload_n 0, 1) := by decide +kernel
theorem dX4_note_17 : decode cX4_note 17 = .ok (.getfield 53, 3) := by decide +kernel
theorem dX4_note_20 : decode cX4_note 20 = .ok (.if_icmp .ne 21, 3) := by decide +kernel
theorem dX4_note_23 : decode cX4_note 23 = .ok (.iload_n 1, 1) := by decide +kernel
theorem dX4_note_24 : decode cX4_note 24 = .ok (.aload_n 0, 1) := by decide +kernel
theorem dX4_note_25 : decode cX4_note 25 = .ok (.getfield 50, 3) := by decide +kernel
theorem dX4_note_28 : decode cX4_note 28 = .ok (.if_icmp .ge 13, 3) := by decide +kernel
theorem dX4_note_31 : decode cX4_note 31 = .ok (.aload_n 0, 1) := by decide +kernel
theorem dX4_note_32 : decode cX4_note 32 = .ok (.iload_n 1, 1) := by decide +kernel
theorem dX4_note_33 : decode cX4_note 33 = .ok (.putfield 50, 3) := by decide +kernel
theorem dX4_note_36 : decode cX4_note 36 = .ok (.aload_n 0, 1) := by decide +kernel
theorem dX4_note_37 : decode cX4_note 37 = .ok (.iload_n 2, 1) := by decide +kernel
theorem dX4_note_38 : decode cX4_note 38 = .ok (.putfield 53, 3) := by decide +kernel
theorem dX4_note_41 : decode cX4_note 41 = .ok (.return_, 1) := by decide +kernel
def fX4_note_31  (h : PH) (x0 : Nat) (x1 : Int32) (x2 : Int32) : Option (PH) :=
  oC (decide (hT h x0 = 5)) (oL (sI h 526 x0 x1) (fun h2 => oL (sI h2 527 x0 x2) (fun h4 => some (h4))))
set_option maxHeartbeats 4000000 in
theorem wfX4_note_31 {args : Array Value} (b : Bd p s m c cX4_note 3 RX4 D aC) (hlk : meth.locks = false) (hr : meth.sig.returnType = none) {Z : State → Prop} (zs : Z s) (zk : ZOK Z (Rg ad)) {hz : PH} {h : PH} {x0 : Nat} {x1 : Int32} {x2 : Int32}  {H : Heap} {locs : List Loc} {ls : Array Slot} (hf : fX4_note_31 h x0 x1 x2 = some hz) (hE : CE (EX D aC ad h) (Rg ad) s H locs) (hl : lv_has ls 3 [(0, .ref (ad x0)), (1, .int x1), (2, .int x2)]) : W p l e (RM 0 0 0 0) s m args below meth c H locs 0 0 (MQ below (PQ (EX D aC ad hz) (Rg ad) none) args s 0 0 (Rg ad)) (F0 m 31 ls []) := by
  unfold fX4_note_31 at hf
  refine lv_aload_n b.1 b.2.1 dX4_note_31 rfl (lv_at hl 0 rfl) ?_
  refine lv_iload_n b.1 b.2.1 dX4_note_32 rfl (lv_at hl 1 rfl) ?_
  obtain ⟨t1, hf⟩ := oC_s hf
  have t1 := of_decide_eq_true t1
  obtain ⟨h2, eh2, hf⟩ := oL_s hf
  refine pX4_50 (x := (some x0)) b hE rfl t1 eh2 dX4_note_33 (fun H locs hE => ?_)
  refine lv_aload_n b.1 b.2.1 dX4_note_36 rfl (lv_at hl 0 rfl) ?_
  refine lv_iload_n b.1 b.2.1 dX4_note_37 rfl (lv_at hl 2 rfl) ?_
  have t3 := tg_sI eh2 t1
  obtain ⟨h4, eh4, hf⟩ := oL_s hf
  refine pX4_53 (x := (some x0)) b hE rfl t3 eh4 dX4_note_38 (fun H locs hE => ?_)
  cases hf
  exact k_vret b hlk hr hE (Nat.le_refl _) (Nat.le_refl _) dX4_note_41
def fX4_note_0  (h : PH) (x0 : Nat) (x1 : Int32) (x2 : Int32) : Option (PH) :=
  oC (decide (hT h x0 = 5)) (if (hI h 526 x0) = 0 then (fX4_note_31  h x0 x1 x2) else (if x2 < (hI h 527 x0) then (fX4_note_31  h x0 x1 x2) else (if x2 = (hI h 527 x0) then (if (hI h 526 x0) ≤ x1 then (some (h)) else (fX4_note_31  h x0 x1 x2)) else (some (h)))))
set_option maxHeartbeats 4000000 in
theorem wfX4_note_0 {args : Array Value} (b : Bd p s m c cX4_note 3 RX4 D aC) (hlk : meth.locks = false) (hr : meth.sig.returnType = none) {Z : State → Prop} (zs : Z s) (zk : ZOK Z (Rg ad)) {hz : PH} {h : PH} {x0 : Nat} {x1 : Int32} {x2 : Int32}  {H : Heap} {locs : List Loc} {ls : Array Slot} (hf : fX4_note_0 h x0 x1 x2 = some hz) (hE : CE (EX D aC ad h) (Rg ad) s H locs) (hl : lv_has ls 3 [(0, .ref (ad x0)), (1, .int x1), (2, .int x2)]) : W p l e (RM 0 0 0 0) s m args below meth c H locs 0 0 (MQ below (PQ (EX D aC ad hz) (Rg ad) none) args s 0 0 (Rg ad)) (F0 m 0 ls []) := by
  unfold fX4_note_0 at hf
  refine lv_aload_n b.1 b.2.1 dX4_note_0 rfl (lv_at hl 0 rfl) ?_
  obtain ⟨t5, hf⟩ := oC_s hf
  have t5 := of_decide_eq_true t5
  refine gX4_50 (x := (some x0)) b hE rfl t5 dX4_note_1 ?_
  refine lv_if_eq (tgt := 31) b.1 b.2.1 dX4_note_4 (by decide) (fun c6 => ?_) (fun c6 => ?_)
  · have hf := oI_t c6 hf
    exact wfX4_note_31 b hlk hr zs zk  hf hE (lv_sub hl [0, 1, 2] rfl)
  · have hf := oI_f c6 hf
    refine lv_iload_n b.1 b.2.1 dX4_note_7 rfl (lv_at hl 2 rfl) ?_
    refine lv_aload_n b.1 b.2.1 dX4_note_8 rfl (lv_at hl 0 rfl) ?_
    refine gX4_53 (x := (some x0)) b hE rfl t5 dX4_note_9 ?_
    refine lv_icmp_lt (tgt := 31) b.1 b.2.1 dX4_note_12 (by decide) (fun c7 => ?_) (fun c7 => ?_)
    · have hf := oI_t c7 hf
      exact wfX4_note_31 b hlk hr zs zk  hf hE (lv_sub hl [0, 1, 2] rfl)
    · have hf := oI_f c7 hf
      refine lv_iload_n b.1 b.2.1 dX4_note_15 rfl (lv_at hl 2 rfl) ?_
      refine lv_aload_n b.1 b.2.1 dX4_note_16 rfl (lv_at hl 0 rfl) ?_
      refine gX4_53 (x := (some x0)) b hE rfl t5 dX4_note_17 ?_
      refine lv_icmp_ne (tgt := 41) b.1 b.2.1 dX4_note_20 (by decide) (fun c8 => ?_) (fun c8 => ?_)
      · have hf := oI_f c8 hf
        cases hf
        exact k_vret b hlk hr hE (Nat.le_refl _) (Nat.le_refl _) dX4_note_41
      · have hf := oI_t c8 hf
        refine lv_iload_n b.1 b.2.1 dX4_note_23 rfl (lv_at hl 1 rfl) ?_
        refine lv_aload_n b.1 b.2.1 dX4_note_24 rfl (lv_at hl 0 rfl) ?_
        refine gX4_50 (x := (some x0)) b hE rfl t5 dX4_note_25 ?_
        refine lv_icmp_ge (tgt := 41) b.1 b.2.1 dX4_note_28 (by decide) (fun c9 => ?_) (fun c9 => ?_)
        · have hf := oI_t c9 hf
          cases hf
          exact k_vret b hlk hr hE (Nat.le_refl _) (Nat.le_refl _) dX4_note_41
        · have hf := oI_f c9 hf
          exact wfX4_note_31 b hlk hr zs zk  hf hE (lv_sub hl [0, 1, 2] rfl)
def fX4_note (h : PH) (x0 : Nat) (x1 : Int32) (x2 : Int32) : Option (PH) := fX4_note_0 h x0 x1 x2
set_option maxHeartbeats 4000000 in
theorem CX4_note (l : Launch) (D : va_G) (aC : Nat → ClassId) (ad : Nat → Nat) {Z : State → Prop} (zk : ZOK Z (Rg ad)) {h : PH} {x0 : Nat} {x1 : Int32} {x2 : Int32} {hz : PH} (hf : fX4_note h x0 x1 x2 = some hz) : CM l D aC Z yX4_note cX4_note 3 (none) 0 0 0 0 (EX D aC ad h) [.ref (ad x0), .int x1, .int x2] (EX D aC ad hz) none (Rg ad) := by
  refine CM.of rfl ?_
  intro p e s m below meth c b hr hlk hin2 zs hE
  refine k_ent (Nat.le_of_ble_eq_true rfl) (fun ls hl => ?_)
  exact wfX4_note_0 b hlk hr zs zk hf hE (lv_sub hl [0, 1, 2] rfl)
theorem dX7_add_0 : decode cX7_add 0 = .ok (.aload_n 0, 1) := by decide +kernel
theorem dX7_add_1 : decode cX7_add 1 = .ok (.invokevirtual 25, 3) := by decide +kernel
theorem dX7_add_4 : decode cX7_add 4 = .ok (.ifCond .eq 5, 3) := by decide +kernel
theorem dX7_add_7 : decode cX7_add 7 = .ok (.iconst (-1), 1) := by decide +kernel
theorem dX7_add_8 : decode cX7_add 8 = .ok (.ireturn, 1) := by decide +kernel
theorem dX7_add_9 : decode cX7_add 9 = .ok (.aload_n 0, 1) := by decide +kernel
theorem dX7_add_10 : decode cX7_add 10 = .ok (.getfield 15, 3) := by decide +kernel
theorem dX7_add_13 : decode cX7_add 13 = .ok (.aload_n 0, 1) := by decide +kernel
theorem dX7_add_14 : decode cX7_add 14 = .ok (.getfield 21, 3) := by decide +kernel
theorem dX7_add_17 : decode cX7_add 17 = .ok (.lload_n 1, 1) := by decide +kernel
theorem dX7_add_18 : decode cX7_add 18 = .ok (.lastore, 1) := by decide +kernel
theorem dX7_add_19 : decode cX7_add 19 = .ok (.aload_n 0, 1) := by decide +kernel
theorem dX7_add_20 : decode cX7_add 20 = .ok (.dup, 1) := by decide +kernel
theorem dX7_add_21 : decode cX7_add 21 = .ok (.getfield 21, 3) := by decide +kernel
theorem dX7_add_24 : decode cX7_add 24 = .ok (.iconst 1, 1) := by decide +kernel
theorem dX7_add_25 : decode cX7_add 25 = .ok (.iadd, 1) := by decide +kernel
theorem dX7_add_26 : decode cX7_add 26 = .ok (.putfield 21, 3) := by decide +kernel
theorem dX7_add_29 : decode cX7_add 29 = .ok (.aload_n 0, 1) := by decide +kernel
theorem dX7_add_30 : decode cX7_add 30 = .ok (.getfield 21, 3) := by decide +kernel
theorem dX7_add_33 : decode cX7_add 33 = .ok (.iconst 1, 1) := by decide +kernel
theorem dX7_add_34 : decode cX7_add 34 = .ok (.isub, 1) := by decide +kernel
theorem dX7_add_35 : decode cX7_add 35 = .ok (.ireturn, 1) := by decide +kernel
def fX7_add_0  (h : PH) (x0 : Nat) (x1 : Int64) : Option (PH × Int32) :=
  oC (decide (hT h x0 = 8)) (oB (fX7_isFull h x0) (fun r3 => if r3 = 0 then (oN (hR h 896 x0) (fun a5 => oC (decide (hT h a5 = 102)) (oC (ix (hI h 897 x0) (hN h a5)) (oL (sB h a5 (Int32.toNatClampNeg (hI h 897 x0)) x1) (fun h8 => oL (sI h8 897 x0 ((hI h8 897 x0) + 1)) (fun h10 => some (h10, ((hI h10 897 x0) - 1)))))))) else (some (h, (-1)))))
set_option maxHeartbeats 4000000 in
theorem wfX7_add_0 {args : Array Value} (b : Bd p s m c cX7_add 3 RX7 D aC) (hlk : meth.locks = false) (hr : meth.sig.returnType = some .int) {Z : State → Prop} (zs : Z s) (zk : ZOK Z (Rg ad)) {hz : PH} {rz : Int32} {h : PH} {x0 : Nat} {x1 : Int64}  {H : Heap} {locs : List Loc} {ls : Array Slot} (hf : fX7_add_0 h x0 x1 = some (hz, rz)) (hE : CE (EX D aC ad h) (Rg ad) s H locs) (hl : lv_has ls 3 [(0, .ref (ad x0)), (1, .long x1)]) : W p l e (RM 1 20 0 0) s m args below meth c H locs 0 0 (MQ below (PQ (EX D aC ad hz) (Rg ad) (some (.int rz))) args s 0 0 (Rg ad)) (F0 m 0 ls []) := by
  unfold fX7_add_0 at hf
  refine lv_aload_n b.1 b.2.1 dX7_add_0 rfl (lv_at hl 0 rfl) ?_
  obtain ⟨t1, hf⟩ := oC_s hf
  have t1 := of_decide_eq_true t1
  obtain ⟨r3, hc2, hf⟩ := oB_s hf
  refine k_callV0 (C := RX7) b zs zk hE (CX7_isFull l D aC ad zk hc2) mc_X7_isFull (in2 207 rfl rfl) mi_X7_isFull ms_X7_isFull ini_RX7 ok_X7_isFull (x_recv b hE (ci := 7) rfl (by decide) t1) ⟨Nat.le_of_ble_eq_true rfl, Nat.le_of_ble_eq_true rfl⟩ rfl hl.1 rfl (k_room _ (by exact Nat.le_of_ble_eq_true rfl)) ⟨Nat.le_refl _, Nat.le_refl _⟩ dX7_add_1 (fun H locs hE => ?_)
  refine lv_if_eq (tgt := 9) b.1 b.2.1 dX7_add_4 (by decide) (fun c4 => ?_) (fun c4 => ?_)
  · have hf := oI_t c4 hf
    refine lv_aload_n b.1 b.2.1 dX7_add_9 rfl (lv_at hl 0 rfl) ?_
    refine gX7_15 (x := (some x0)) b hE rfl t1 dX7_add_10 ?_
    refine lv_aload_n b.1 b.2.1 dX7_add_13 rfl (lv_at hl 0 rfl) ?_
    refine gX7_21 (x := (some x0)) b hE rfl t1 dX7_add_14 ?_
    refine lv_lload_n b.1 b.2.1 dX7_add_17 rfl (lv_at hl 1 rfl) ?_
    obtain ⟨a5, ea5, hf⟩ := oN_s hf
    obtain ⟨t6, hf⟩ := oC_s hf
    have t6 := of_decide_eq_true t6
    obtain ⟨g7, hf⟩ := oC_s hf
    obtain ⟨h8, eh8, hf⟩ := oL_s hf
    refine q_last (x := (hR h 896 x0)) b hE ea5 t6 g7 eh8 dX7_add_18 (fun H locs hE => ?_)
    refine lv_aload_n b.1 b.2.1 dX7_add_19 rfl (lv_at hl 0 rfl) ?_
    refine lv_dup b.1 b.2.1 dX7_add_20 rfl ?_
    have t9 := tg_sB eh8 t1
    refine gX7_21 (x := (some x0)) b hE rfl t9 dX7_add_21 ?_
    refine lv_iconst (v := 1) b.1 b.2.1 dX7_add_24 (by decide) ?_
    refine lv_iadd b.1 b.2.1 dX7_add_25 ?_
    obtain ⟨h10, eh10, hf⟩ := oL_s hf
    refine pX7_21 (x := (some x0)) b hE rfl t9 eh10 dX7_add_26 (fun H locs hE => ?_)
    refine lv_aload_n b.1 b.2.1 dX7_add_29 rfl (lv_at hl 0 rfl) ?_
    have t11 := tg_sI eh10 t9
    refine gX7_21 (x := (some x0)) b hE rfl t11 dX7_add_30 ?_
    refine lv_iconst (v := 1) b.1 b.2.1 dX7_add_33 (by decide) ?_
    refine lv_isub b.1 b.2.1 dX7_add_34 ?_
    cases hf
    exact k_iret b hlk hr hE (Nat.le_refl _) (Nat.le_refl _) dX7_add_35
  · have hf := oI_f c4 hf
    refine lv_iconst (v := (-1)) b.1 b.2.1 dX7_add_7 (by decide) ?_
    cases hf
    exact k_iret b hlk hr hE (Nat.le_refl _) (Nat.le_refl _) dX7_add_8
def fX7_add (h : PH) (x0 : Nat) (x1 : Int64) : Option (PH × Int32) := fX7_add_0 h x0 x1
set_option maxHeartbeats 4000000 in
theorem CX7_add (l : Launch) (D : va_G) (aC : Nat → ClassId) (ad : Nat → Nat) {Z : State → Prop} (zk : ZOK Z (Rg ad)) {h : PH} {x0 : Nat} {x1 : Int64} {hz : PH} {rz : Int32} (hf : fX7_add h x0 x1 = some (hz, rz)) : CM l D aC Z yX7_add cX7_add 3 (some .int) 1 20 0 0 (EX D aC ad h) [.ref (ad x0), .long x1] (EX D aC ad hz) (some (.int rz)) (Rg ad) := by
  refine CM.of rfl ?_
  intro p e s m below meth c b hr hlk hin2 zs hE
  refine k_ent (Nat.le_of_ble_eq_true rfl) (fun ls hl => ?_)
  exact wfX7_add_0 b hlk hr zs zk hf hE (lv_sub hl [0, 1] rfl)
end
