section
variable {p : Program} {l : Launch} {e : Env} {s : State} {m : MethodId} {below : List Frame} {meth : Method} {c : Code} {D : va_G} {aC : Nat → ClassId} {ad : Nat → Nat}
theorem dX4_unit_0 : decode cX4_unit 0 = .ok (.aload_n 0, 1) := by decide +kernel
theorem dX4_unit_1 : decode cX4_unit 1 = .ok (.getfield 60, 3) := by decide +kernel
theorem dX4_unit_4 : decode cX4_unit 4 = .ok (.sipush 262, 3) := by decide +kernel
theorem dX4_unit_7 : decode cX4_unit 7 = .ok (.if_icmp .ne 45, 3) := by decide +kernel
theorem dX4_unit_10 : decode cX4_unit 10 = .ok (.aload_n 0, 1) := by decide +kernel
theorem dX4_unit_11 : decode cX4_unit 11 = .ok (.getfield 25, 3) := by decide +kernel
theorem dX4_unit_14 : decode cX4_unit 14 = .ok (.iconst 0, 1) := by decide +kernel
theorem dX4_unit_15 : decode cX4_unit 15 = .ok (.aload_n 0, 1) := by decide +kernel
theorem dX4_unit_16 : decode cX4_unit 16 = .ok (.iconst 0, 1) := by decide +kernel
theorem dX4_unit_17 : decode cX4_unit 17 = .ok (.ldc 196, 2) := by decide +kernel
theorem dX4_unit_19 : decode cX4_unit 19 = .ok (.invokevirtual 186, 3) := by decide +kernel
theorem dX4_unit_22 : decode cX4_unit 22 = .ok (.invokevirtual 276, 3) := by decide +kernel
theorem dX4_unit_25 : decode cX4_unit 25 = .ok (.aload_n 0, 1) := by decide +kernel
theorem dX4_unit_26 : decode cX4_unit 26 = .ok (.bipush 47, 2) := by decide +kernel
theorem dX4_unit_28 : decode cX4_unit 28 = .ok (.invokevirtual 120, 3) := by decide +kernel
theorem dX4_unit_31 : decode cX4_unit 31 = .ok (.ifCond .eq 96, 3) := by decide +kernel
theorem dX4_unit_34 : decode cX4_unit 34 = .ok (.aload_n 0, 1) := by decide +kernel
theorem dX4_unit_35 : decode cX4_unit 35 = .ok (.getfield 25, 3) := by decide +kernel
theorem dX4_unit_38 : decode cX4_unit 38 = .ok (.iconst 1, 1) := by decide +kernel
theorem dX4_unit_39 : decode cX4_unit 39 = .ok (.aload_n 0, 1) := by decide +kernel
theorem dX4_unit_40 : decode cX4_unit 40 = .ok (.iconst 1, 1) := by decide +kernel
theorem dX4_unit_41 : decode cX4_unit 41 = .ok (.ldc 196, 2) := by decide +kernel
theorem dX4_unit_43 : decode cX4_unit 43 = .ok (.invokevirtual 186, 3) := by decide +kernel
theorem dX4_unit_46 : decode cX4_unit 46 = .ok (.invokevirtual 276, 3) := by decide +kernel
theorem dX4_unit_49 : decode cX4_unit 49 = .ok (.goto 78, 3) := by decide +kernel
theorem dX4_unit_52 : decode cX4_unit 52 = .ok (.aload_n 0, 1) := by decide +kernel
theorem dX4_unit_53 : decode cX4_unit 53 = .ok (.getfield 60, 3) := by decide +kernel
theorem dX4_unit_56 : decode cX4_unit 56 = .ok (.bipush 40, 2) := by decide +kernel
theorem dX4_unit_58 : decode cX4_unit 58 = .ok (.if_icmp .ne 39, 3) := by decide +kernel
theorem dX4_unit_61 : decode cX4_unit 61 = .ok (.iload_n 1, 1) := by decide +kernel
theorem dX4_unit_62 : decode cX4_unit 62 = .ok (.bipush 8, 2) := by decide +kernel
theorem dX4_unit_64 : decode cX4_unit 64 = .ok (.if_icmp .lt 9, 3) := by decide +kernel
theorem dX4_unit_67 : decode cX4_unit 67 = .ok (.aload_n 0, 1) := by decide +kernel
theorem dX4_unit_68 : decode cX4_unit 68 = .ok (.iconst 2, 1) := by decide +kernel
theorem dX4_unit_69 : decode cX4_unit 69 = .ok (.invokevirtual 89, 3) := by decide +kernel
theorem dX4_unit_72 : decode cX4_unit 72 = .ok (.return_, 1) := by decide +kernel
theorem dX4_unit_73 : decode cX4_unit 73 = .ok (.aload_n 0, 1) := by decide +kernel
theorem dX4_unit_74 : decode cX4_unit 74 = .ok (.bipush 40, 2) := by decide +kernel
theorem dX4_unit_76 : decode cX4_unit 76 = .ok (.invokevirtual 63, 3) := by decide +kernel
theorem dX4_unit_79 : decode cX4_unit 79 = .ok (.pop, 1) := by decide +kernel
theorem dX4_unit_80 : decode cX4_unit 80 = .ok (.aload_n 0, 1) := by decide +kernel
theorem dX4_unit_81 : decode cX4_unit 81 = .ok (.iload_n 1, 1) := by decide +kernel
theorem dX4_unit_82 : decode cX4_unit 82 = .ok (.iconst 1, 1) := by decide +kernel
theorem dX4_unit_83 : decode cX4_unit 83 = .ok (.iadd, 1) := by decide +kernel
theorem dX4_unit_84 : decode cX4_unit 84 = .ok (.invokevirtual 256, 3) := by decide +kernel
theorem dX4_unit_87 : decode cX4_unit 87 = .ok (.aload_n 0, 1) := by decide +kernel
theorem dX4_unit_88 : decode cX4_unit 88 = .ok (.bipush 41, 2) := by decide +kernel
theorem dX4_unit_90 : decode cX4_unit 90 = .ok (.invokevirtual 63, 3) := by decide +kernel
theorem dX4_unit_93 : decode cX4_unit 93 = .ok (.pop, 1) := by decide +kernel
theorem dX4_unit_94 : decode cX4_unit 94 = .ok (.goto 33, 3) := by decide +kernel
theorem dX4_unit_97 : decode cX4_unit 97 = .ok (.aload_n 0, 1) := by decide +kernel
theorem dX4_unit_98 : decode cX4_unit 98 = .ok (.invokevirtual 243, 3) := by decide +kernel
theorem dX4_unit_101 : decode cX4_unit 101 = .ok (.istore_n 2, 1) := by decide +kernel
theorem dX4_unit_102 : decode cX4_unit 102 = .ok (.aload_n 0, 1) := by decide +kernel
theorem dX4_unit_103 : decode cX4_unit 103 = .ok (.bipush 46, 2) := by decide +kernel
theorem dX4_unit_105 : decode cX4_unit 105 = .ok (.invokevirtual 63, 3) := by decide +kernel
theorem dX4_unit_108 : decode cX4_unit 108 = .ok (.pop, 1) := by decide +kernel
theorem dX4_unit_109 : decode cX4_unit 109 = .ok (.aload_n 0, 1) := by decide +kernel
theorem dX4_unit_110 : decode cX4_unit 110 = .ok (.getfield 25, 3) := by decide +kernel
theorem dX4_unit_113 : decode cX4_unit 113 = .ok (.iconst 2, 1) := by decide +kernel
theorem dX4_unit_114 : decode cX4_unit 114 = .ok (.iload_n 2, 1) := by decide +kernel
theorem dX4_unit_115 : decode cX4_unit 115 = .ok (.iconst 4, 1) := by decide +kernel
theorem dX4_unit_116 : decode cX4_unit 116 = .ok (.imul, 1) := by decide +kernel
theorem dX4_unit_117 : decode cX4_unit 117 = .ok (.aload_n 0, 1) := by decide +kernel
theorem dX4_unit_118 : decode cX4_unit 118 = .ok (.iconst 0, 1) := by decide +kernel
theorem dX4_unit_119 : decode cX4_unit 119 = .ok (.iconst 3, 1) := by decide +kernel
theorem dX4_unit_120 : decode cX4_unit 120 = .ok (.invokevirtual 186, 3) := by decide +kernel
theorem dX4_unit_123 : decode cX4_unit 123 = .ok (.iadd, 1) := by decide +kernel
theorem dX4_unit_124 : decode cX4_unit 124 = .ok (.invokevirtual 276, 3) := by decide +kernel
theorem dX4_unit_127 : decode cX4_unit 127 = .ok (.return_, 1) := by decide +kernel
def fX4_unit_0 (kF : PH → Nat → Int32 → Option (PH × Nat × Nat))  (h : PH) (x0 : Nat) (x1 : Int32) : Option (PH × Nat × Nat) :=
  oC (decide (hT h x0 = 5)) (if (hI h 521 x0) = 262 then (oB2 (fX4_integer h x0 0 999999) (fun h42 r41 => oN (hR h 512 x0) (fun a43 => oC (decide (hT h42 a43 = 2)) (oB3 (fX1_addStep h42 a43 0 r41) (fun h46 i47 j48 => oK3 i47 j48 (oC (decide (hT h46 x0 = 5)) (oB2 (fX4_skip h46 x0 47) (fun h54 r53 => if r53 = 0 then (some (h54, 0, 0)) else (oC (decide (hT h54 x0 = 5)) (oB2 (fX4_integer h54 x0 1 999999) (fun h59 r58 => oN (hR h54 512 x0) (fun a60 => oC (decide (hT h59 a60 = 2)) (oB3 (fX1_addStep h59 a60 1 r58) (fun h63 i64 j65 => oK3 i64 j65 (some (h63, 0, 0)))))))))))))))) else (if (hI h 521 x0) = 40 then (if x1 < 8 then (oB2 (fX4_expect h x0 40) (fun h26 r25 => oC (decide (hT h26 x0 = 5)) (oB3 (kF h26 x0 (x1 + 1)) (fun h29 i30 j31 => oK3 i30 j31 (oC (decide (hT h29 x0 = 5)) (oB2 (fX4_expect h29 x0 41) (fun h37 r36 => some (h37, 0, 0)))))))) else (oB (fX4_stopAt h x0 2) (fun h39 => some (h39, 0, 0)))) else (oB2 (fX4_term h x0) (fun h6 r5 => oC (decide (hT h6 x0 = 5)) (oB2 (fX4_expect h6 x0 46) (fun h10 r9 => oC (decide (hT h10 x0 = 5)) (oB2 (fX4_integer h10 x0 0 3) (fun h14 r13 => oN (hR h10 512 x0) (fun a15 => oC (decide (hT h14 a15 = 2)) (oB3 (fX1_addStep h14 a15 2 ((r5 * 4) + r13)) (fun h18 i19 j20 => oK3 i19 j20 (some (h18, 0, 0)))))))))))))
set_option maxHeartbeats 4000000 in
theorem wfX4_unit_0 {mc ms cells slots : Nat} {args : Array Value} (b : Bd p s m c cX4_unit 3 RX4 D aC) (hlk : meth.locks = false) (hr : meth.sig.returnType = none) {Z : State → Prop} (zs : Z s) (zk : ZOK Z (Rg ad)) {kF : PH → Nat → Int32 → Option (PH × Nat × Nat)} {fr lo : Nat} (hfr : 3 ≤ fr) (hlo : 104 ≤ lo) (HF : ∀ (h : PH) (x0 : Nat) (x1 : Int32) (hz : PH) (kz mz : Nat), kF h x0 x1 = some (hz, kz, mz) → CM l D aC Z yX4_formula cX4_formula 6 none fr lo kz mz (EX D aC ad h) [.ref (ad x0), .int x1] (EX D aC ad hz) none (Rg ad)) {hz : PH} {h : PH} {x0 : Nat} {x1 : Int32} {kz : Nat} {mz : Nat}  {H : Heap} {locs : List Loc} {ls : Array Slot} (hf : fX4_unit_0 kF h x0 x1 = some (hz, kz, mz)) (hk : cells + kz ≤ mc) (hs : slots + mz ≤ ms) (hE : CE (EX D aC ad h) (Rg ad) s H locs) (hl : lv_has ls 3 [(0, .ref (ad x0)), (1, .int x1)]) : W p l e (RM (fr + 1) (lo + 25) mc ms) s m args below meth c H locs cells slots (MQ below (PQ (EX D aC ad hz) (Rg ad) none) args s mc ms (Rg ad)) (F0 m 0 ls []) := by
  unfold fX4_unit_0 at hf
  refine lv_aload_n b.1 b.2.1 dX4_unit_0 rfl (lv_at hl 0 rfl) ?_
  obtain ⟨t1, hf⟩ := oC_s hf
  have t1 := of_decide_eq_true t1
  refine gX4_60 (x := (some x0)) b hE rfl t1 dX4_unit_1 ?_
  refine lv_sipush (v := 262) b.1 b.2.1 dX4_unit_4 (by decide) ?_
  refine lv_icmp_ne (tgt := 52) b.1 b.2.1 dX4_unit_7 (by decide) (fun c2 => ?_) (fun c2 => ?_)
  · have hf := oI_f c2 hf
    refine lv_aload_n b.1 b.2.1 dX4_unit_52 rfl (lv_at hl 0 rfl) ?_
    refine gX4_60 (x := (some x0)) b hE rfl t1 dX4_unit_53 ?_
    refine lv_bipush (v := 40) b.1 b.2.1 dX4_unit_56 (by decide) ?_
    refine lv_icmp_ne (tgt := 97) b.1 b.2.1 dX4_unit_58 (by decide) (fun c3 => ?_) (fun c3 => ?_)
    · have hf := oI_f c3 hf
      refine lv_aload_n b.1 b.2.1 dX4_unit_97 rfl (lv_at hl 0 rfl) ?_
      obtain ⟨h6, r5, hc4, hf⟩ := oB2_s hf
      refine k_callV0 (C := RX4) b zs zk hE (CX4_term l D aC ad zk hc4) mc_X4_term (in3 94 rfl rfl) mi_X4_term ms_X4_term ini_RX4 ok_X4_term (x_recv b hE (ci := 4) rfl (by decide) t1) ⟨(show 2 + 1 ≤ (fr + 1) by omega), (show 8 + (3 + 11) + 43 ≤ (lo + 25) by omega)⟩ rfl hl.1 rfl (k_room _ (by exact Nat.le_of_ble_eq_true rfl)) ⟨le_0 hk, le_0 hs⟩ dX4_unit_98 (fun H locs hE => ?_)
      refine lv_istore_n (lv' := [(2, .int r5), (0, .ref (ad x0)), (1, .int x1)]) b.1 b.2.1 dX4_unit_101 rfl hl (by decide) rfl (fun ls hl => ?_)
      have hl := lv_sub (l' := [(2, .int r5), (0, .ref (ad x0))]) hl [0, 1] rfl
      refine lv_aload_n b.1 b.2.1 dX4_unit_102 rfl (lv_at hl 1 rfl) ?_
      refine lv_bipush (v := 46) b.1 b.2.1 dX4_unit_103 (by decide) ?_
      obtain ⟨t7, hf⟩ := oC_s hf
      have t7 := of_decide_eq_true t7
      obtain ⟨h10, r9, hc8, hf⟩ := oB2_s hf
      refine k_callV0 (C := RX4) b zs zk hE (CX4_expect l D aC ad zk hc8) mc_X4_expect (in2 179 rfl rfl) mi_X4_expect ms_X4_expect ini_RX4 ok_X4_expect (x_recv b hE (ci := 4) rfl (by decide) t7) ⟨(show 1 + 1 ≤ (fr + 1) by omega), (show 8 + (2 + 11) + 22 ≤ (lo + 25) by omega)⟩ rfl hl.1 rfl (k_room _ (by exact Nat.le_of_ble_eq_true rfl)) ⟨le_0 hk, le_0 hs⟩ dX4_unit_105 (fun H locs hE => ?_)
      refine lv_pop b.1 b.2.1 dX4_unit_108 rfl ?_
      refine lv_aload_n b.1 b.2.1 dX4_unit_109 rfl (lv_at hl 1 rfl) ?_
      obtain ⟨t11, hf⟩ := oC_s hf
      have t11 := of_decide_eq_true t11
      refine gX4_25 (x := (some x0)) b hE rfl t11 dX4_unit_110 ?_
      refine lv_iconst (v := 2) b.1 b.2.1 dX4_unit_113 (by decide) ?_
      refine lv_iload_n b.1 b.2.1 dX4_unit_114 rfl (lv_at hl 0 rfl) ?_
      refine lv_iconst (v := 4) b.1 b.2.1 dX4_unit_115 (by decide) ?_
      refine lv_imul b.1 b.2.1 dX4_unit_116 ?_
      refine lv_aload_n b.1 b.2.1 dX4_unit_117 rfl (lv_at hl 1 rfl) ?_
      refine lv_iconst (v := 0) b.1 b.2.1 dX4_unit_118 (by decide) ?_
      refine lv_iconst (v := 3) b.1 b.2.1 dX4_unit_119 (by decide) ?_
      obtain ⟨h14, r13, hc12, hf⟩ := oB2_s hf
      refine k_callV0 (C := RX4) b zs zk hE (CX4_integer l D aC ad zk hc12) mc_X4_integer (in3 78 rfl rfl) mi_X4_integer ms_X4_integer ini_RX4 ok_X4_integer (x_recv b hE (ci := 4) rfl (by decide) t11) ⟨(show 2 + 1 ≤ (fr + 1) by omega), (show 8 + (5 + 11) + 43 ≤ (lo + 25) by omega)⟩ rfl hl.1 rfl (k_room _ (by exact Nat.le_of_ble_eq_true rfl)) ⟨le_0 hk, le_0 hs⟩ dX4_unit_120 (fun H locs hE => ?_)
      refine lv_iadd b.1 b.2.1 dX4_unit_123 ?_
      obtain ⟨a15, ea15, hf⟩ := oN_s hf
      obtain ⟨t16, hf⟩ := oC_s hf
      have t16 := of_decide_eq_true t16
      obtain ⟨h18, i19, j20, hc17, hf⟩ := oB3_s hf
      obtain ⟨i21, j22, ei21, ej22, hf⟩ := oK3_s hf
      refine k_stk [.int ((r5 * 4) + r13), .int 2] ea15 ?_
      refine k_callV (C := RX1) b zs zk hE (CX1_addStep l D aC ad zk hc17) mc_X1_addStep (in3 82 rfl rfl) mi_X1_addStep ms_X1_addStep ini_RX1 ok_X1_addStep (x_recv b hE (ci := 1) rfl (by decide) t16) ⟨(show 2 + 1 ≤ (fr + 1) by omega), (show 8 + (3 + 11) + 82 ≤ (lo + 25) by omega)⟩ rfl hl.1 rfl (k_room _ (by exact Nat.le_of_ble_eq_true rfl)) ⟨le_room hk ei21, le_room hs ej22⟩ dX4_unit_124 (fun H locs hE => ?_)
      have hk := le_step hk ei21
      have hs := le_step hs ej22
      cases hf
      exact k_vret b hlk hr hE (le_c hk) (le_c hs) dX4_unit_127
    · have hf := oI_t c3 hf
      refine lv_iload_n b.1 b.2.1 dX4_unit_61 rfl (lv_at hl 1 rfl) ?_
      refine lv_bipush (v := 8) b.1 b.2.1 dX4_unit_62 (by decide) ?_
      refine lv_icmp_lt (tgt := 73) b.1 b.2.1 dX4_unit_64 (by decide) (fun c23 => ?_) (fun c23 => ?_)
      · have hf := oI_t c23 hf
        refine lv_aload_n b.1 b.2.1 dX4_unit_73 rfl (lv_at hl 0 rfl) ?_
        refine lv_bipush (v := 40) b.1 b.2.1 dX4_unit_74 (by decide) ?_
        obtain ⟨h26, r25, hc24, hf⟩ := oB2_s hf
        refine k_callV0 (C := RX4) b zs zk hE (CX4_expect l D aC ad zk hc24) mc_X4_expect (in2 179 rfl rfl) mi_X4_expect ms_X4_expect ini_RX4 ok_X4_expect (x_recv b hE (ci := 4) rfl (by decide) t1) ⟨(show 1 + 1 ≤ (fr + 1) by omega), (show 8 + (2 + 11) + 22 ≤ (lo + 25) by omega)⟩ rfl hl.1 rfl (k_room _ (by exact Nat.le_of_ble_eq_true rfl)) ⟨le_0 hk, le_0 hs⟩ dX4_unit_76 (fun H locs hE => ?_)
        refine lv_pop b.1 b.2.1 dX4_unit_79 rfl ?_
        refine lv_aload_n b.1 b.2.1 dX4_unit_80 rfl (lv_at hl 0 rfl) ?_
        refine lv_iload_n b.1 b.2.1 dX4_unit_81 rfl (lv_at hl 1 rfl) ?_
        refine lv_iconst (v := 1) b.1 b.2.1 dX4_unit_82 (by decide) ?_
        refine lv_iadd b.1 b.2.1 dX4_unit_83 ?_
        obtain ⟨t27, hf⟩ := oC_s hf
        have t27 := of_decide_eq_true t27
        obtain ⟨h29, i30, j31, hc28, hf⟩ := oB3_s hf
        obtain ⟨i32, j33, ei32, ej33, hf⟩ := oK3_s hf
        refine k_callV (C := RX4) b zs zk hE (HF _ _ _ _ _ _ hc28) mc_X4_formula (in3 65 rfl rfl) mi_X4_formula ms_X4_formula ini_RX4 ok_X4_formula (x_recv b hE (ci := 4) rfl (by decide) t27) ⟨(show fr + 1 ≤ (fr + 1) by omega), (show 8 + (6 + 11) + lo ≤ (lo + 25) by omega)⟩ rfl hl.1 rfl (k_room _ (by exact Nat.le_of_ble_eq_true rfl)) ⟨le_room hk ei32, le_room hs ej33⟩ dX4_unit_84 (fun H locs hE => ?_)
        have hk := le_step hk ei32
        have hs := le_step hs ej33
        refine lv_aload_n b.1 b.2.1 dX4_unit_87 rfl (lv_at hl 0 rfl) ?_
        refine lv_bipush (v := 41) b.1 b.2.1 dX4_unit_88 (by decide) ?_
        obtain ⟨t34, hf⟩ := oC_s hf
        have t34 := of_decide_eq_true t34
        obtain ⟨h37, r36, hc35, hf⟩ := oB2_s hf
        refine k_callV0 (C := RX4) b zs zk hE (CX4_expect l D aC ad zk hc35) mc_X4_expect (in2 179 rfl rfl) mi_X4_expect ms_X4_expect ini_RX4 ok_X4_expect (x_recv b hE (ci := 4) rfl (by decide) t34) ⟨(show 1 + 1 ≤ (fr + 1) by omega), (show 8 + (2 + 11) + 22 ≤ (lo + 25) by omega)⟩ rfl hl.1 rfl (k_room _ (by exact Nat.le_of_ble_eq_true rfl)) ⟨le_0 hk, le_0 hs⟩ dX4_unit_90 (fun H locs hE => ?_)
        refine lv_pop b.1 b.2.1 dX4_unit_93 rfl ?_
        refine lv_goto (tgt := 127) b.1 b.2.1 dX4_unit_94 (by decide) ?_
        cases hf
        exact k_vret b hlk hr hE (le_c hk) (le_c hs) dX4_unit_127
      · have hf := oI_f c23 hf
        refine lv_aload_n b.1 b.2.1 dX4_unit_67 rfl (lv_at hl 0 rfl) ?_
        refine lv_iconst (v := 2) b.1 b.2.1 dX4_unit_68 (by decide) ?_
        obtain ⟨h39, hc38, hf⟩ := oB_s hf
        refine k_callV0 (C := RX4) b zs zk hE (CX4_stopAt l D aC ad zk hc38) mc_X4_stopAt (in2 183 rfl rfl) mi_X4_stopAt ms_X4_stopAt ini_RX4 ok_X4_stopAt (x_recv b hE (ci := 4) rfl (by decide) t1) ⟨(show 0 + 1 ≤ (fr + 1) by omega), (show 8 + (2 + 11) + 0 ≤ (lo + 25) by omega)⟩ rfl hl.1 rfl (k_room _ (by exact Nat.le_of_ble_eq_true rfl)) ⟨le_0 hk, le_0 hs⟩ dX4_unit_69 (fun H locs hE => ?_)
        cases hf
        exact k_vret b hlk hr hE (le_c hk) (le_c hs) dX4_unit_72
  · have hf := oI_t c2 hf
    refine lv_aload_n b.1 b.2.1 dX4_unit_10 rfl (lv_at hl 0 rfl) ?_
    refine gX4_25 (x := (some x0)) b hE rfl t1 dX4_unit_11 ?_
    refine lv_iconst (v := 0) b.1 b.2.1 dX4_unit_14 (by decide) ?_
    refine lv_aload_n b.1 b.2.1 dX4_unit_15 rfl (lv_at hl 0 rfl) ?_
    refine lv_iconst (v := 0) b.1 b.2.1 dX4_unit_16 (by decide) ?_
    refine k_ldc (v := 999999) b (in3 77 rfl rfl) dX4_unit_17 ?_
    obtain ⟨h42, r41, hc40, hf⟩ := oB2_s hf
    refine k_callV0 (C := RX4) b zs zk hE (CX4_integer l D aC ad zk hc40) mc_X4_integer (in3 78 rfl rfl) mi_X4_integer ms_X4_integer ini_RX4 ok_X4_integer (x_recv b hE (ci := 4) rfl (by decide) t1) ⟨(show 2 + 1 ≤ (fr + 1) by omega), (show 8 + (5 + 11) + 43 ≤ (lo + 25) by omega)⟩ rfl hl.1 rfl (k_room _ (by exact Nat.le_of_ble_eq_true rfl)) ⟨le_0 hk, le_0 hs⟩ dX4_unit_19 (fun H locs hE => ?_)
    obtain ⟨a43, ea43, hf⟩ := oN_s hf
    obtain ⟨t44, hf⟩ := oC_s hf
    have t44 := of_decide_eq_true t44
    obtain ⟨h46, i47, j48, hc45, hf⟩ := oB3_s hf
    obtain ⟨i49, j50, ei49, ej50, hf⟩ := oK3_s hf
    refine k_stk [.int r41, .int 0] ea43 ?_
    refine k_callV (C := RX1) b zs zk hE (CX1_addStep l D aC ad zk hc45) mc_X1_addStep (in3 82 rfl rfl) mi_X1_addStep ms_X1_addStep ini_RX1 ok_X1_addStep (x_recv b hE (ci := 1) rfl (by decide) t44) ⟨(show 2 + 1 ≤ (fr + 1) by omega), (show 8 + (3 + 11) + 82 ≤ (lo + 25) by omega)⟩ rfl hl.1 rfl (k_room _ (by exact Nat.le_of_ble_eq_true rfl)) ⟨le_room hk ei49, le_room hs ej50⟩ dX4_unit_22 (fun H locs hE => ?_)
    have hk := le_step hk ei49
    have hs := le_step hs ej50
    refine lv_aload_n b.1 b.2.1 dX4_unit_25 rfl (lv_at hl 0 rfl) ?_
    refine lv_bipush (v := 47) b.1 b.2.1 dX4_unit_26 (by decide) ?_
    obtain ⟨t51, hf⟩ := oC_s hf
    have t51 := of_decide_eq_true t51
    obtain ⟨h54, r53, hc52, hf⟩ := oB2_s hf
    refine k_callV0 (C := RX4) b zs zk hE (CX4_skip l D aC ad zk hc52) mc_X4_skip (in3 69 rfl rfl) mi_X4_skip ms_X4_skip ini_RX4 ok_X4_skip (x_recv b hE (ci := 4) rfl (by decide) t51) ⟨(show 2 + 1 ≤ (fr + 1) by omega), (show 8 + (2 + 11) + 43 ≤ (lo + 25) by omega)⟩ rfl hl.1 rfl (k_room _ (by exact Nat.le_of_ble_eq_true rfl)) ⟨le_0 hk, le_0 hs⟩ dX4_unit_28 (fun H locs hE => ?_)
    refine lv_if_eq (tgt := 127) b.1 b.2.1 dX4_unit_31 (by decide) (fun c55 => ?_) (fun c55 => ?_)
    · have hf := oI_t c55 hf
      cases hf
      exact k_vret b hlk hr hE (le_c hk) (le_c hs) dX4_unit_127
    · have hf := oI_f c55 hf
      refine lv_aload_n b.1 b.2.1 dX4_unit_34 rfl (lv_at hl 0 rfl) ?_
      obtain ⟨t56, hf⟩ := oC_s hf
      have t56 := of_decide_eq_true t56
      refine gX4_25 (x := (some x0)) b hE rfl t56 dX4_unit_35 ?_
      refine lv_iconst (v := 1) b.1 b.2.1 dX4_unit_38 (by decide) ?_
      refine lv_aload_n b.1 b.2.1 dX4_unit_39 rfl (lv_at hl 0 rfl) ?_
      refine lv_iconst (v := 1) b.1 b.2.1 dX4_unit_40 (by decide) ?_
      refine k_ldc (v := 999999) b (in3 77 rfl rfl) dX4_unit_41 ?_
      obtain ⟨h59, r58, hc57, hf⟩ := oB2_s hf
      refine k_callV0 (C := RX4) b zs zk hE (CX4_integer l D aC ad zk hc57) mc_X4_integer (in3 78 rfl rfl) mi_X4_integer ms_X4_integer ini_RX4 ok_X4_integer (x_recv b hE (ci := 4) rfl (by decide) t56) ⟨(show 2 + 1 ≤ (fr + 1) by omega), (show 8 + (5 + 11) + 43 ≤ (lo + 25) by omega)⟩ rfl hl.1 rfl (k_room _ (by exact Nat.le_of_ble_eq_true rfl)) ⟨le_0 hk, le_0 hs⟩ dX4_unit_43 (fun H locs hE => ?_)
      obtain ⟨a60, ea60, hf⟩ := oN_s hf
      obtain ⟨t61, hf⟩ := oC_s hf
      have t61 := of_decide_eq_true t61
      obtain ⟨h63, i64, j65, hc62, hf⟩ := oB3_s hf
      obtain ⟨i66, j67, ei66, ej67, hf⟩ := oK3_s hf
      refine k_stk [.int r58, .int 1] ea60 ?_
      refine k_callV (C := RX1) b zs zk hE (CX1_addStep l D aC ad zk hc62) mc_X1_addStep (in3 82 rfl rfl) mi_X1_addStep ms_X1_addStep ini_RX1 ok_X1_addStep (x_recv b hE (ci := 1) rfl (by decide) t61) ⟨(show 2 + 1 ≤ (fr + 1) by omega), (show 8 + (3 + 11) + 82 ≤ (lo + 25) by omega)⟩ rfl hl.1 rfl (k_room _ (by exact Nat.le_of_ble_eq_true rfl)) ⟨le_room hk ei66, le_room hs ej67⟩ dX4_unit_46 (fun H locs hE => ?_)
      have hk := le_step hk ei66
      have hs := le_step hs ej67
      refine lv_goto (tgt := 127) b.1 b.2.1 dX4_unit_49 (by decide) ?_
      cases hf
      exact k_vret b hlk hr hE (le_c hk) (le_c hs) dX4_unit_127
def fX4_unit (kF : PH → Nat → Int32 → Option (PH × Nat × Nat)) (h : PH) (x0 : Nat) (x1 : Int32) : Option (PH × Nat × Nat) := fX4_unit_0 kF h x0 x1
set_option maxHeartbeats 4000000 in
theorem CX4_unit (l : Launch) (D : va_G) (aC : Nat → ClassId) (ad : Nat → Nat) {Z : State → Prop} (zk : ZOK Z (Rg ad)) {kF : PH → Nat → Int32 → Option (PH × Nat × Nat)} {fr lo : Nat} (hfr : 3 ≤ fr) (hlo : 104 ≤ lo) (HF : ∀ (h : PH) (x0 : Nat) (x1 : Int32) (hz : PH) (kz mz : Nat), kF h x0 x1 = some (hz, kz, mz) → CM l D aC Z yX4_formula cX4_formula 6 none fr lo kz mz (EX D aC ad h) [.ref (ad x0), .int x1] (EX D aC ad hz) none (Rg ad)) {h : PH} {x0 : Nat} {x1 : Int32} {hz : PH} {kz : Nat} {mz : Nat} (hf : fX4_unit kF h x0 x1 = some (hz, kz, mz)) : CM l D aC Z yX4_unit cX4_unit 3 (none) (fr + 1) (lo + 25) kz mz (EX D aC ad h) [.ref (ad x0), .int x1] (EX D aC ad hz) none (Rg ad) := by
  refine CM.of rfl ?_
  intro p e s m below meth c b hr hlk hin2 zs hE
  refine k_ent (Nat.le_of_ble_eq_true rfl) (fun ls hl => ?_)
  exact wfX4_unit_0 b hlk hr zs zk hfr hlo HF hf (by omega) (by omega) hE (lv_sub hl [0, 1] rfl)
theorem dX4_formula_0 : decode cX4_formula 0 = .ok (.aload_n 0, 1) := by decide +kernel
theorem dX4_formula_1 : decode cX4_formula 1 = .ok (.bipush 45, 2) := by decide +kernel
theorem dX4_formula_3 : decode cX4_formula 3 = .ok (.invokevirtual 120, 3) := by decide +kernel
theorem dX4_formula_6 : decode cX4_formula 6 = .ok (.ifCond .eq 7, 3) := by decide +kernel
theorem dX4_formula_9 : decode cX4_formula 9 = .ok (.iconst 3, 1) := by decide +kernel
theorem dX4_formula_10 : decode cX4_formula 10 = .ok (.goto 4, 3) := by decide +kernel
theorem dX4_formula_13 : decode cX4_formula 13 = .ok (.iconst (-1), 1) := by decide +kernel
theorem dX4_formula_14 : decode cX4_formula 14 = .ok (.istore_n 2, 1) := by decide +kernel
theorem dX4_formula_15 : decode cX4_formula 15 = .ok (.iconst 1, 1) := by decide +kernel
theorem dX4_formula_16 : decode cX4_formula 16 = .ok (.istore_n 3, 1) := by decide +kernel
theorem dX4_formula_17 : decode cX4_formula 17 = .ok (.iconst 0, 1) := by decide +kernel
theorem dX4_formula_18 : decode cX4_formula 18 = .ok (.istore 4, 2) := by decide +kernel
theorem dX4_formula_20 : decode cX4_formula 20 = .ok (.iload 4, 2) := by decide +kernel
theorem dX4_formula_22 : decode cX4_formula 22 = .ok (.sipush 1200, 3) := by decide +kernel
theorem dX4_formula_25 : decode cX4_formula 25 = .ok (.if_icmp .ge 112, 3) := by decide +kernel
theorem dX4_formula_28 : decode cX4_formula 28 = .ok (.iload_n 3, 1) := by decide +kernel
theorem dX4_formula_29 : decode cX4_formula 29 = .ok (.ifCond .eq 108, 3) := by decide +kernel
theorem dX4_formula_32 : decode cX4_formula 32 = .ok (.aload_n 0, 1) := by decide +kernel
theorem dX4_formula_33 : decode cX4_formula 33 = .ok (.iload_n 1, 1) := by decide +kernel
theorem dX4_formula_34 : decode cX4_formula 34 = .ok (.invokevirtual 273, 3) := by decide +kernel
theorem dX4_formula_37 : decode cX4_formula 37 = .ok (.iconst 0, 1) := by decide +kernel
theorem dX4_formula_38 : decode cX4_formula 38 = .ok (.istore 5, 2) := by decide +kernel
theorem dX4_formula_40 : decode cX4_formula 40 = .ok (.iload 5, 2) := by decide +kernel
theorem dX4_formula_42 : decode cX4_formula 42 = .ok (.sipush 1200, 3) := by decide +kernel
theorem dX4_formula_45 : decode cX4_formula 45 = .ok (.if_icmp .ge 33, 3) := by decide +kernel
theorem dX4_formula_48 : decode cX4_formula 48 = .ok (.aload_n 0, 1) := by decide +kernel
theorem dX4_formula_49 : decode cX4_formula 49 = .ok (.bipush 42, 2) := by decide +kernel
theorem dX4_formula_51 : decode cX4_formula 51 = .ok (.invokevirtual 120, 3) := by decide +kernel
theorem dX4_formula_54 : decode cX4_formula 54 = .ok (.ifCond .eq 24, 3) := by decide +kernel
theorem dX4_formula_57 : decode cX4_formula 57 = .ok (.aload_n 0, 1) := by decide +kernel
theorem dX4_formula_58 : decode cX4_formula 58 = .ok (.iload_n 1, 1) := by decide +kernel
theorem dX4_formula_59 : decode cX4_formula 59 = .ok (.invokevirtual 273, 3) := by decide +kernel
theorem dX4_formula_62 : decode cX4_formula 62 = .ok (.aload_n 0, 1) := by decide +kernel
theorem dX4_formula_63 : decode cX4_formula 63 = .ok (.getfield 25, 3) := by decide +kernel
theorem dX4_formula_66 : decode cX4_formula 66 = .ok (.bipush 6, 2) := by decide +kernel
theorem dX4_formula_68 : decode cX4_formula 68 = .ok (.iconst 0, 1) := by decide +kernel
theorem dX4_formula_69 : decode cX4_formula 69 = .ok (.invokevirtual 276, 3) := by decide +kernel
theorem dX4_formula_72 : decode cX4_formula 72 = .ok (.iinc 5 1, 3) := by decide +kernel
theorem dX4_formula_75 : decode cX4_formula 75 = .ok (.goto (-35), 3) := by decide +kernel
theorem dX4_formula_78 : decode cX4_formula 78 = .ok (.iload_n 2, 1) := by decide +kernel
theorem dX4_formula_79 : decode cX4_formula 79 = .ok (.iconst (-1), 1) := by decide +kernel
theorem dX4_formula_80 : decode cX4_formula 80 = .ok (.if_icmp .eq 12, 3) := by decide +kernel
theorem dX4_formula_83 : decode cX4_formula 83 = .ok (.aload_n 0, 1) := by decide +kernel
theorem dX4_formula_84 : decode cX4_formula 84 = .ok (.getfield 25, 3) := by decide +kernel
theorem dX4_formula_87 : decode cX4_formula 87 = .ok (.iload_n 2, 1) := by decide +kernel
theorem dX4_formula_88 : decode cX4_formula 88 = .ok (.iconst 0, 1) := by decide +kernel
theorem dX4_formula_89 : decode cX4_formula 89 = .ok (.invokevirtual 276, 3) := by decide +kernel
theorem dX4_formula_92 : decode cX4_formula 92 = .ok (.aload_n 0, 1) := by decide +kernel
theorem dX4_formula_93 : decode cX4_formula 93 = .ok (.getfield 60, 3) := by decide +kernel
theorem dX4_formula_96 : decode cX4_formula 96 = .ok (.bipush 43, 2) := by decide +kernel
theorem dX4_formula_98 : decode cX4_formula 98 = .ok (.if_icmp .ne 7, 3) := by decide +kernel
theorem dX4_formula_101 : decode cX4_formula 101 = .ok (.iconst 4, 1) := by decide +kernel
theorem dX4_formula_102 : decode cX4_formula 102 = .ok (.goto 4, 3) := by decide +kernel
theorem dX4_formula_105 : decode cX4_formula 105 = .ok (.iconst 5, 1) := by decide +kernel
theorem dX4_formula_106 : decode cX4_formula 106 = .ok (.istore_n 2, 1) := by decide +kernel
theorem dX4_formula_107 : decode cX4_formula 107 = .ok (.aload_n 0, 1) := by decide +kernel
theorem dX4_formula_108 : decode cX4_formula 108 = .ok (.bipush 43, 2) := by decide +kernel
theorem dX4_formula_110 : decode cX4_formula 110 = .ok (.invokevirtual 120, 3) := by decide +kernel
theorem dX4_formula_113 : decode cX4_formula 113 = .ok (.ifCond .ne 12, 3) := by decide +kernel
theorem dX4_formula_116 : decode cX4_formula 116 = .ok (.aload_n 0, 1) := by decide +kernel
theorem dX4_formula_117 : decode cX4_formula 117 = .ok (.bipush 45, 2) := by decide +kernel
theorem dX4_formula_119 : decode cX4_formula 119 = .ok (.invokevirtual 120, 3) := by decide +kernel
theorem dX4_formula_122 : decode cX4_formula 122 = .ok (.ifCond .eq 7, 3) := by decide +kernel
theorem dX4_formula_125 : decode cX4_formula 125 = .ok (.iconst 1, 1) := by decide +kernel
theorem dX4_formula_126 : decode cX4_formula 126 = .ok (.goto 4, 3) := by decide +kernel
theorem dX4_formula_129 : decode cX4_formula 129 = .ok (.iconst 0, 1) := by decide +kernel
theorem dX4_formula_130 : decode cX4_formula 130 = .ok (.istore_n 3, 1) := by decide +kernel
theorem dX4_formula_131 : decode cX4_formula 131 = .ok (.iinc 4 1, 3) := by decide +kernel
theorem dX4_formula_134 : decode cX4_formula 134 = .ok (.goto (-114), 3) := by decide +kernel
theorem dX4_formula_137 : decode cX4_formula 137 = .ok (.return_, 1) := by decide +kernel
def fX4_formula_130 (kF : PH → Nat → Int32 → Option (PH × Nat × Nat)) (k20 : PH → Nat → Int32 → Int32 → Int32 → Int32 → Option (PH × Nat × Nat)) (h : PH) (x0 : Nat) (x1 : Int32) (x2 : Int32) (x4 : Int32) (s0 : Int32) : Option (PH × Nat × Nat) :=
  oL (x4 + 1) (fun y1 => k20 h x0 x1 x2 s0 y1)
set_option maxHeartbeats 4000000 in
theorem wfX4_formula_130 {mc ms cells slots : Nat} {args : Array Value} (b : Bd p s m c cX4_formula 6 RX4 D aC) (hlk : meth.locks = false) (hr : meth.sig.returnType = none) {Z : State → Prop} (zs : Z s) (zk : ZOK Z (Rg ad)) {kF : PH → Nat → Int32 → Option (PH × Nat × Nat)} {fr lo : Nat} (hfr : 3 ≤ fr) (hlo : 104 ≤ lo) (HF : ∀ (h : PH) (x0 : Nat) (x1 : Int32) (hz : PH) (kz mz : Nat), kF h x0 x1 = some (hz, kz, mz) → CM l D aC Z yX4_formula cX4_formula 6 none fr lo kz mz (EX D aC ad h) [.ref (ad x0), .int x1] (EX D aC ad hz) none (Rg ad)) {hz : PH} {k20 : PH → Nat → Int32 → Int32 → Int32 → Int32 → Option (PH × Nat × Nat)} (H20 : ∀ (h : PH) (x0 : Nat) (x1 : Int32) (x2 : Int32) (x3 : Int32) (x4 : Int32), ∀ (cells slots kz mz : Nat) (H : Heap) (locs : List Loc) (ls : Array Slot), k20 h x0 x1 x2 x3 x4 = some (hz, kz, mz) → cells + kz ≤ mc → slots + mz ≤ ms → CE (EX D aC ad h) (Rg ad) s H locs → lv_has ls 6 [(0, .ref (ad x0)), (1, .int x1), (2, .int x2), (3, .int x3), (4, .int x4)] → W p l e (RM (fr + 2) (lo + 47) mc ms) s m args below meth c H locs cells slots (MQ below (PQ (EX D aC ad hz) (Rg ad) none) args s mc ms (Rg ad)) (F0 m 20 ls [])) {h : PH} {x0 : Nat} {x1 : Int32} {x2 : Int32} {x4 : Int32} {s0 : Int32} {kz : Nat} {mz : Nat}  {H : Heap} {locs : List Loc} {ls : Array Slot} (hf : fX4_formula_130 kF k20 h x0 x1 x2 x4 s0 = some (hz, kz, mz)) (hk : cells + kz ≤ mc) (hs : slots + mz ≤ ms) (hE : CE (EX D aC ad h) (Rg ad) s H locs) (hl : lv_has ls 6 [(0, .ref (ad x0)), (1, .int x1), (2, .int x2), (4, .int x4)]) : W p l e (RM (fr + 2) (lo + 47) mc ms) s m args below meth c H locs cells slots (MQ below (PQ (EX D aC ad hz) (Rg ad) none) args s mc ms (Rg ad)) (F0 m 130 ls [.int s0]) := by
  unfold fX4_formula_130 at hf
  refine lv_istore_n (lv' := [(3, .int s0), (0, .ref (ad x0)), (1, .int x1), (2, .int x2), (4, .int x4)]) b.1 b.2.1 dX4_formula_130 rfl hl (by decide) rfl (fun ls hl => ?_)
  obtain ⟨y1, ey1, hf⟩ := oL_s hf
  refine lv_iinc (v := y1) (lv' := [(4, .int y1), (3, .int s0), (0, .ref (ad x0)), (1, .int x1), (2, .int x2)]) b.1 b.2.1 dX4_formula_131 hl (k := 4) rfl (by rw [ey1]; rfl) (by decide) rfl (fun ls hl => ?_)
  refine lv_goto (tgt := 20) b.1 b.2.1 dX4_formula_134 (by decide) ?_
  exact H20 h x0 x1 x2 s0 y1 _ _ _ _ _ _ _ hf hk hs hE (lv_sub hl [2, 3, 4, 1, 0] rfl)
def fX4_formula_106 (kF : PH → Nat → Int32 → Option (PH × Nat × Nat)) (k20 : PH → Nat → Int32 → Int32 → Int32 → Int32 → Option (PH × Nat × Nat)) (h : PH) (x0 : Nat) (x1 : Int32) (x4 : Int32) (s0 : Int32) : Option (PH × Nat × Nat) :=
  oC (decide (hT h x0 = 5)) (oB2 (fX4_skip h x0 43) (fun h5 r4 => if r4 = 0 then (oC (decide (hT h5 x0 = 5)) (oB2 (fX4_skip h5 x0 45) (fun h10 r9 => if r9 = 0 then (fX4_formula_130 kF k20 h10 x0 x1 s0 x4 0) else (fX4_formula_130 kF k20 h10 x0 x1 s0 x4 1)))) else (fX4_formula_130 kF k20 h5 x0 x1 s0 x4 1)))
set_option maxHeartbeats 4000000 in
theorem wfX4_formula_106 {mc ms cells slots : Nat} {args : Array Value} (b : Bd p s m c cX4_formula 6 RX4 D aC) (hlk : meth.locks = false) (hr : meth.sig.returnType = none) {Z : State → Prop} (zs : Z s) (zk : ZOK Z (Rg ad)) {kF : PH → Nat → Int32 → Option (PH × Nat × Nat)} {fr lo : Nat} (hfr : 3 ≤ fr) (hlo : 104 ≤ lo) (HF : ∀ (h : PH) (x0 : Nat) (x1 : Int32) (hz : PH) (kz mz : Nat), kF h x0 x1 = some (hz, kz, mz) → CM l D aC Z yX4_formula cX4_formula 6 none fr lo kz mz (EX D aC ad h) [.ref (ad x0), .int x1] (EX D aC ad hz) none (Rg ad)) {hz : PH} {k20 : PH → Nat → Int32 → Int32 → Int32 → Int32 → Option (PH × Nat × Nat)} (H20 : ∀ (h : PH) (x0 : Nat) (x1 : Int32) (x2 : Int32) (x3 : Int32) (x4 : Int32), ∀ (cells slots kz mz : Nat) (H : Heap) (locs : List Loc) (ls : Array Slot), k20 h x0 x1 x2 x3 x4 = some (hz, kz, mz) → cells + kz ≤ mc → slots + mz ≤ ms → CE (EX D aC ad h) (Rg ad) s H locs → lv_has ls 6 [(0, .ref (ad x0)), (1, .int x1), (2, .int x2), (3, .int x3), (4, .int x4)] → W p l e (RM (fr + 2) (lo + 47) mc ms) s m args below meth c H locs cells slots (MQ below (PQ (EX D aC ad hz) (Rg ad) none) args s mc ms (Rg ad)) (F0 m 20 ls [])) {h : PH} {x0 : Nat} {x1 : Int32} {x4 : Int32} {s0 : Int32} {kz : Nat} {mz : Nat}  {H : Heap} {locs : List Loc} {ls : Array Slot} (hf : fX4_formula_106 kF k20 h x0 x1 x4 s0 = some (hz, kz, mz)) (hk : cells + kz ≤ mc) (hs : slots + mz ≤ ms) (hE : CE (EX D aC ad h) (Rg ad) s H locs) (hl : lv_has ls 6 [(0, .ref (ad x0)), (1, .int x1), (4, .int x4)]) : W p l e (RM (fr + 2) (lo + 47) mc ms) s m args below meth c H locs cells slots (MQ below (PQ (EX D aC ad hz) (Rg ad) none) args s mc ms (Rg ad)) (F0 m 106 ls [.int s0]) := by
  unfold fX4_formula_106 at hf
  refine lv_istore_n (lv' := [(2, .int s0), (0, .ref (ad x0)), (1, .int x1), (4, .int x4)]) b.1 b.2.1 dX4_formula_106 rfl hl (by decide) rfl (fun ls hl => ?_)
  refine lv_aload_n b.1 b.2.1 dX4_formula_107 rfl (lv_at hl 1 rfl) ?_
  refine lv_bipush (v := 43) b.1 b.2.1 dX4_formula_108 (by decide) ?_
  obtain ⟨t2, hf⟩ := oC_s hf
  have t2 := of_decide_eq_true t2
  obtain ⟨h5, r4, hc3, hf⟩ := oB2_s hf
  refine k_callV0 (C := RX4) b zs zk hE (CX4_skip l D aC ad zk hc3) mc_X4_skip (in3 69 rfl rfl) mi_X4_skip ms_X4_skip ini_RX4 ok_X4_skip (x_recv b hE (ci := 4) rfl (by decide) t2) ⟨(show 2 + 1 ≤ (fr + 2) by omega), (show 8 + (2 + 11) + 43 ≤ (lo + 47) by omega)⟩ rfl hl.1 rfl (k_room _ (by exact Nat.le_of_ble_eq_true rfl)) ⟨le_0 hk, le_0 hs⟩ dX4_formula_110 (fun H locs hE => ?_)
  refine lv_if_ne (tgt := 125) b.1 b.2.1 dX4_formula_113 (by decide) (fun c6 => ?_) (fun c6 => ?_)
  · have hf := oI_f c6 hf
    refine lv_iconst (v := 1) b.1 b.2.1 dX4_formula_125 (by decide) ?_
    refine lv_goto (tgt := 130) b.1 b.2.1 dX4_formula_126 (by decide) ?_
    exact wfX4_formula_130 b hlk hr zs zk hfr hlo HF H20 hf hk hs hE (lv_sub hl [1, 2, 0, 3] rfl)
  · have hf := oI_t c6 hf
    refine lv_aload_n b.1 b.2.1 dX4_formula_116 rfl (lv_at hl 1 rfl) ?_
    refine lv_bipush (v := 45) b.1 b.2.1 dX4_formula_117 (by decide) ?_
    obtain ⟨t7, hf⟩ := oC_s hf
    have t7 := of_decide_eq_true t7
    obtain ⟨h10, r9, hc8, hf⟩ := oB2_s hf
    refine k_callV0 (C := RX4) b zs zk hE (CX4_skip l D aC ad zk hc8) mc_X4_skip (in3 69 rfl rfl) mi_X4_skip ms_X4_skip ini_RX4 ok_X4_skip (x_recv b hE (ci := 4) rfl (by decide) t7) ⟨(show 2 + 1 ≤ (fr + 2) by omega), (show 8 + (2 + 11) + 43 ≤ (lo + 47) by omega)⟩ rfl hl.1 rfl (k_room _ (by exact Nat.le_of_ble_eq_true rfl)) ⟨le_0 hk, le_0 hs⟩ dX4_formula_119 (fun H locs hE => ?_)
    refine lv_if_eq (tgt := 129) b.1 b.2.1 dX4_formula_122 (by decide) (fun c11 => ?_) (fun c11 => ?_)
    · have hf := oI_t c11 hf
      refine lv_iconst (v := 0) b.1 b.2.1 dX4_formula_129 (by decide) ?_
      exact wfX4_formula_130 b hlk hr zs zk hfr hlo HF H20 hf hk hs hE (lv_sub hl [1, 2, 0, 3] rfl)
    · have hf := oI_f c11 hf
      refine lv_iconst (v := 1) b.1 b.2.1 dX4_formula_125 (by decide) ?_
      refine lv_goto (tgt := 130) b.1 b.2.1 dX4_formula_126 (by decide) ?_
      exact wfX4_formula_130 b hlk hr zs zk hfr hlo HF H20 hf hk hs hE (lv_sub hl [1, 2, 0, 3] rfl)
def fX4_formula_92 (kF : PH → Nat → Int32 → Option (PH × Nat × Nat)) (k20 : PH → Nat → Int32 → Int32 → Int32 → Int32 → Option (PH × Nat × Nat)) (h : PH) (x0 : Nat) (x1 : Int32) (x4 : Int32) : Option (PH × Nat × Nat) :=
  oC (decide (hT h x0 = 5)) (if (hI h 521 x0) = 43 then (fX4_formula_106 kF k20 h x0 x1 x4 4) else (fX4_formula_106 kF k20 h x0 x1 x4 5))
set_option maxHeartbeats 4000000 in
theorem wfX4_formula_92 {mc ms cells slots : Nat} {args : Array Value} (b : Bd p s m c cX4_formula 6 RX4 D aC) (hlk : meth.locks = false) (hr : meth.sig.returnType = none) {Z : State → Prop} (zs : Z s) (zk : ZOK Z (Rg ad)) {kF : PH → Nat → Int32 → Option (PH × Nat × Nat)} {fr lo : Nat} (hfr : 3 ≤ fr) (hlo : 104 ≤ lo) (HF : ∀ (h : PH) (x0 : Nat) (x1 : Int32) (hz : PH) (kz mz : Nat), kF h x0 x1 = some (hz, kz, mz) → CM l D aC Z yX4_formula cX4_formula 6 none fr lo kz mz (EX D aC ad h) [.ref (ad x0), .int x1] (EX D aC ad hz) none (Rg ad)) {hz : PH} {k20 : PH → Nat → Int32 → Int32 → Int32 → Int32 → Option (PH × Nat × Nat)} (H20 : ∀ (h : PH) (x0 : Nat) (x1 : Int32) (x2 : Int32) (x3 : Int32) (x4 : Int32), ∀ (cells slots kz mz : Nat) (H : Heap) (locs : List Loc) (ls : Array Slot), k20 h x0 x1 x2 x3 x4 = some (hz, kz, mz) → cells + kz ≤ mc → slots + mz ≤ ms → CE (EX D aC ad h) (Rg ad) s H locs → lv_has ls 6 [(0, .ref (ad x0)), (1, .int x1), (2, .int x2), (3, .int x3), (4, .int x4)] → W p l e (RM (fr + 2) (lo + 47) mc ms) s m args below meth c H locs cells slots (MQ below (PQ (EX D aC ad hz) (Rg ad) none) args s mc ms (Rg ad)) (F0 m 20 ls [])) {h : PH} {x0 : Nat} {x1 : Int32} {x4 : Int32} {kz : Nat} {mz : Nat}  {H : Heap} {locs : List Loc} {ls : Array Slot} (hf : fX4_formula_92 kF k20 h x0 x1 x4 = some (hz, kz, mz)) (hk : cells + kz ≤ mc) (hs : slots + mz ≤ ms) (hE : CE (EX D aC ad h) (Rg ad) s H locs) (hl : lv_has ls 6 [(0, .ref (ad x0)), (1, .int x1), (4, .int x4)]) : W p l e (RM (fr + 2) (lo + 47) mc ms) s m args below meth c H locs cells slots (MQ below (PQ (EX D aC ad hz) (Rg ad) none) args s mc ms (Rg ad)) (F0 m 92 ls []) := by
  unfold fX4_formula_92 at hf
  refine lv_aload_n b.1 b.2.1 dX4_formula_92 rfl (lv_at hl 0 rfl) ?_
  obtain ⟨t12, hf⟩ := oC_s hf
  have t12 := of_decide_eq_true t12
  refine gX4_60 (x := (some x0)) b hE rfl t12 dX4_formula_93 ?_
  refine lv_bipush (v := 43) b.1 b.2.1 dX4_formula_96 (by decide) ?_
  refine lv_icmp_ne (tgt := 105) b.1 b.2.1 dX4_formula_98 (by decide) (fun c13 => ?_) (fun c13 => ?_)
  · have hf := oI_f c13 hf
    refine lv_iconst (v := 5) b.1 b.2.1 dX4_formula_105 (by decide) ?_
    exact wfX4_formula_106 b hlk hr zs zk hfr hlo HF H20 hf hk hs hE (lv_sub hl [0, 1, 2] rfl)
  · have hf := oI_t c13 hf
    refine lv_iconst (v := 4) b.1 b.2.1 dX4_formula_101 (by decide) ?_
    refine lv_goto (tgt := 106) b.1 b.2.1 dX4_formula_102 (by decide) ?_
    exact wfX4_formula_106 b hlk hr zs zk hfr hlo HF H20 hf hk hs hE (lv_sub hl [0, 1, 2] rfl)
def fX4_formula_78 (kF : PH → Nat → Int32 → Option (PH × Nat × Nat)) (k20 : PH → Nat → Int32 → Int32 → Int32 → Int32 → Option (PH × Nat × Nat)) (h : PH) (x0 : Nat) (x1 : Int32) (x2 : Int32) (x4 : Int32) : Option (PH × Nat × Nat) :=
  if x2 = (-1) then (fX4_formula_92 kF k20 h x0 x1 x4) else (oC (decide (hT h x0 = 5)) (oN (hR h 512 x0) (fun a16 => oC (decide (hT h a16 = 2)) (oB3 (fX1_addStep h a16 x2 0) (fun h19 i20 j21 => oK3 i20 j21 (fX4_formula_92 kF k20 h19 x0 x1 x4))))))
set_option maxHeartbeats 4000000 in
theorem wfX4_formula_78 {mc ms cells slots : Nat} {args : Array Value} (b : Bd p s m c cX4_formula 6 RX4 D aC) (hlk : meth.locks = false) (hr : meth.sig.returnType = none) {Z : State → Prop} (zs : Z s) (zk : ZOK Z (Rg ad)) {kF : PH → Nat → Int32 → Option (PH × Nat × Nat)} {fr lo : Nat} (hfr : 3 ≤ fr) (hlo : 104 ≤ lo) (HF : ∀ (h : PH) (x0 : Nat) (x1 : Int32) (hz : PH) (kz mz : Nat), kF h x0 x1 = some (hz, kz, mz) → CM l D aC Z yX4_formula cX4_formula 6 none fr lo kz mz (EX D aC ad h) [.ref (ad x0), .int x1] (EX D aC ad hz) none (Rg ad)) {hz : PH} {k20 : PH → Nat → Int32 → Int32 → Int32 → Int32 → Option (PH × Nat × Nat)} (H20 : ∀ (h : PH) (x0 : Nat) (x1 : Int32) (x2 : Int32) (x3 : Int32) (x4 : Int32), ∀ (cells slots kz mz : Nat) (H : Heap) (locs : List Loc) (ls : Array Slot), k20 h x0 x1 x2 x3 x4 = some (hz, kz, mz) → cells + kz ≤ mc → slots + mz ≤ ms → CE (EX D aC ad h) (Rg ad) s H locs → lv_has ls 6 [(0, .ref (ad x0)), (1, .int x1), (2, .int x2), (3, .int x3), (4, .int x4)] → W p l e (RM (fr + 2) (lo + 47) mc ms) s m args below meth c H locs cells slots (MQ below (PQ (EX D aC ad hz) (Rg ad) none) args s mc ms (Rg ad)) (F0 m 20 ls [])) {h : PH} {x0 : Nat} {x1 : Int32} {x2 : Int32} {x4 : Int32} {kz : Nat} {mz : Nat}  {H : Heap} {locs : List Loc} {ls : Array Slot} (hf : fX4_formula_78 kF k20 h x0 x1 x2 x4 = some (hz, kz, mz)) (hk : cells + kz ≤ mc) (hs : slots + mz ≤ ms) (hE : CE (EX D aC ad h) (Rg ad) s H locs) (hl : lv_has ls 6 [(0, .ref (ad x0)), (1, .int x1), (2, .int x2), (4, .int x4)]) : W p l e (RM (fr + 2) (lo + 47) mc ms) s m args below meth c H locs cells slots (MQ below (PQ (EX D aC ad hz) (Rg ad) none) args s mc ms (Rg ad)) (F0 m 78 ls []) := by
  unfold fX4_formula_78 at hf
  refine lv_iload_n b.1 b.2.1 dX4_formula_78 rfl (lv_at hl 2 rfl) ?_
  refine lv_iconst (v := (-1)) b.1 b.2.1 dX4_formula_79 (by decide) ?_
  refine lv_icmp_eq (tgt := 92) b.1 b.2.1 dX4_formula_80 (by decide) (fun c14 => ?_) (fun c14 => ?_)
  · have hf := oI_t c14 hf
    exact wfX4_formula_92 b hlk hr zs zk hfr hlo HF H20 hf hk hs hE (lv_sub hl [0, 1, 3] rfl)
  · have hf := oI_f c14 hf
    refine lv_aload_n b.1 b.2.1 dX4_formula_83 rfl (lv_at hl 0 rfl) ?_
    obtain ⟨t15, hf⟩ := oC_s hf
    have t15 := of_decide_eq_true t15
    refine gX4_25 (x := (some x0)) b hE rfl t15 dX4_formula_84 ?_
    refine lv_iload_n b.1 b.2.1 dX4_formula_87 rfl (lv_at hl 2 rfl) ?_
    refine lv_iconst (v := 0) b.1 b.2.1 dX4_formula_88 (by decide) ?_
    obtain ⟨a16, ea16, hf⟩ := oN_s hf
    obtain ⟨t17, hf⟩ := oC_s hf
    have t17 := of_decide_eq_true t17
    obtain ⟨h19, i20, j21, hc18, hf⟩ := oB3_s hf
    obtain ⟨i22, j23, ei22, ej23, hf⟩ := oK3_s hf
    refine k_stk [.int 0, .int x2] ea16 ?_
    refine k_callV (C := RX1) b zs zk hE (CX1_addStep l D aC ad zk hc18) mc_X1_addStep (in3 82 rfl rfl) mi_X1_addStep ms_X1_addStep ini_RX1 ok_X1_addStep (x_recv b hE (ci := 1) rfl (by decide) t17) ⟨(show 2 + 1 ≤ (fr + 2) by omega), (show 8 + (3 + 11) + 82 ≤ (lo + 47) by omega)⟩ rfl hl.1 rfl (k_room _ (by exact Nat.le_of_ble_eq_true rfl)) ⟨le_room hk ei22, le_room hs ej23⟩ dX4_formula_89 (fun H locs hE => ?_)
    have hk := le_step hk ei22
    have hs := le_step hs ej23
    exact wfX4_formula_92 b hlk hr zs zk hfr hlo HF H20 hf hk hs hE (lv_sub hl [0, 1, 3] rfl)
def fX4_formula_40F (kF : PH → Nat → Int32 → Option (PH × Nat × Nat)) (k20 : PH → Nat → Int32 → Int32 → Int32 → Int32 → Option (PH × Nat × Nat)) (k40 : PH → Nat → Int32 → Int32 → Int32 → Int32 → Option (PH × Nat × Nat)) (h : PH) (x0 : Nat) (x1 : Int32) (x2 : Int32) (x4 : Int32) (x5 : Int32) : Option (PH × Nat × Nat) :=
  if 1200 ≤ x5 then (fX4_formula_78 kF k20 h x0 x1 x2 x4) else (oC (decide (hT h x0 = 5)) (oB2 (fX4_skip h x0 42) (fun h28 r27 => if r27 = 0 then (fX4_formula_78 kF k20 h28 x0 x1 x2 x4) else (oC (decide (hT h28 x0 = 5)) (oB3 (fX4_unit kF h28 x0 x1) (fun h32 i33 j34 => oK3 i33 j34 (oC (decide (hT h32 x0 = 5)) (oN (hR h32 512 x0) (fun a38 => oC (decide (hT h32 a38 = 2)) (oB3 (fX1_addStep h32 a38 6 0) (fun h41 i42 j43 => oK3 i42 j43 (oL (x5 + 1) (fun y46 => k40 h41 x0 x1 x2 x4 y46)))))))))))))
set_option maxHeartbeats 4000000 in
theorem wfX4_formula_40F {mc ms cells slots : Nat} {args : Array Value} (b : Bd p s m c cX4_formula 6 RX4 D aC) (hlk : meth.locks = false) (hr : meth.sig.returnType = none) {Z : State → Prop} (zs : Z s) (zk : ZOK Z (Rg ad)) {kF : PH → Nat → Int32 → Option (PH × Nat × Nat)} {fr lo : Nat} (hfr : 3 ≤ fr) (hlo : 104 ≤ lo) (HF : ∀ (h : PH) (x0 : Nat) (x1 : Int32) (hz : PH) (kz mz : Nat), kF h x0 x1 = some (hz, kz, mz) → CM l D aC Z yX4_formula cX4_formula 6 none fr lo kz mz (EX D aC ad h) [.ref (ad x0), .int x1] (EX D aC ad hz) none (Rg ad)) {hz : PH} {k20 : PH → Nat → Int32 → Int32 → Int32 → Int32 → Option (PH × Nat × Nat)} (H20 : ∀ (h : PH) (x0 : Nat) (x1 : Int32) (x2 : Int32) (x3 : Int32) (x4 : Int32), ∀ (cells slots kz mz : Nat) (H : Heap) (locs : List Loc) (ls : Array Slot), k20 h x0 x1 x2 x3 x4 = some (hz, kz, mz) → cells + kz ≤ mc → slots + mz ≤ ms → CE (EX D aC ad h) (Rg ad) s H locs → lv_has ls 6 [(0, .ref (ad x0)), (1, .int x1), (2, .int x2), (3, .int x3), (4, .int x4)] → W p l e (RM (fr + 2) (lo + 47) mc ms) s m args below meth c H locs cells slots (MQ below (PQ (EX D aC ad hz) (Rg ad) none) args s mc ms (Rg ad)) (F0 m 20 ls [])) {k40 : PH → Nat → Int32 → Int32 → Int32 → Int32 → Option (PH × Nat × Nat)} (H40 : ∀ (h : PH) (x0 : Nat) (x1 : Int32) (x2 : Int32) (x4 : Int32) (x5 : Int32), ∀ (cells slots kz mz : Nat) (H : Heap) (locs : List Loc) (ls : Array Slot), k40 h x0 x1 x2 x4 x5 = some (hz, kz, mz) → cells + kz ≤ mc → slots + mz ≤ ms → CE (EX D aC ad h) (Rg ad) s H locs → lv_has ls 6 [(0, .ref (ad x0)), (1, .int x1), (2, .int x2), (4, .int x4), (5, .int x5)] → W p l e (RM (fr + 2) (lo + 47) mc ms) s m args below meth c H locs cells slots (MQ below (PQ (EX D aC ad hz) (Rg ad) none) args s mc ms (Rg ad)) (F0 m 40 ls [])) {h : PH} {x0 : Nat} {x1 : Int32} {x2 : Int32} {x4 : Int32} {x5 : Int32} {kz : Nat} {mz : Nat}  {H : Heap} {locs : List Loc} {ls : Array Slot} (hf : fX4_formula_40F kF k20 k40 h x0 x1 x2 x4 x5 = some (hz, kz, mz)) (hk : cells + kz ≤ mc) (hs : slots + mz ≤ ms) (hE : CE (EX D aC ad h) (Rg ad) s H locs) (hl : lv_has ls 6 [(0, .ref (ad x0)), (1, .int x1), (2, .int x2), (4, .int x4), (5, .int x5)]) : W p l e (RM (fr + 2) (lo + 47) mc ms) s m args below meth c H locs cells slots (MQ below (PQ (EX D aC ad hz) (Rg ad) none) args s mc ms (Rg ad)) (F0 m 40 ls []) := by
  unfold fX4_formula_40F at hf
  refine lv_iload b.1 b.2.1 dX4_formula_40 (lv_at hl 4 rfl) ?_
  refine lv_sipush (v := 1200) b.1 b.2.1 dX4_formula_42 (by decide) ?_
  refine lv_icmp_ge (tgt := 78) b.1 b.2.1 dX4_formula_45 (by decide) (fun c24 => ?_) (fun c24 => ?_)
  · have hf := oI_t c24 hf
    exact wfX4_formula_78 b hlk hr zs zk hfr hlo HF H20 hf hk hs hE (lv_sub hl [0, 1, 2, 3] rfl)
  · have hf := oI_f c24 hf
    refine lv_aload_n b.1 b.2.1 dX4_formula_48 rfl (lv_at hl 0 rfl) ?_
    refine lv_bipush (v := 42) b.1 b.2.1 dX4_formula_49 (by decide) ?_
    obtain ⟨t25, hf⟩ := oC_s hf
    have t25 := of_decide_eq_true t25
    obtain ⟨h28, r27, hc26, hf⟩ := oB2_s hf
    refine k_callV0 (C := RX4) b zs zk hE (CX4_skip l D aC ad zk hc26) mc_X4_skip (in3 69 rfl rfl) mi_X4_skip ms_X4_skip ini_RX4 ok_X4_skip (x_recv b hE (ci := 4) rfl (by decide) t25) ⟨(show 2 + 1 ≤ (fr + 2) by omega), (show 8 + (2 + 11) + 43 ≤ (lo + 47) by omega)⟩ rfl hl.1 rfl (k_room _ (by exact Nat.le_of_ble_eq_true rfl)) ⟨le_0 hk, le_0 hs⟩ dX4_formula_51 (fun H locs hE => ?_)
    refine lv_if_eq (tgt := 78) b.1 b.2.1 dX4_formula_54 (by decide) (fun c29 => ?_) (fun c29 => ?_)
    · have hf := oI_t c29 hf
      exact wfX4_formula_78 b hlk hr zs zk hfr hlo HF H20 hf hk hs hE (lv_sub hl [0, 1, 2, 3] rfl)
    · have hf := oI_f c29 hf
      refine lv_aload_n b.1 b.2.1 dX4_formula_57 rfl (lv_at hl 0 rfl) ?_
      refine lv_iload_n b.1 b.2.1 dX4_formula_58 rfl (lv_at hl 1 rfl) ?_
      obtain ⟨t30, hf⟩ := oC_s hf
      have t30 := of_decide_eq_true t30
      obtain ⟨h32, i33, j34, hc31, hf⟩ := oB3_s hf
      obtain ⟨i35, j36, ei35, ej36, hf⟩ := oK3_s hf
      refine k_callV (C := RX4) b zs zk hE (CX4_unit l D aC ad zk hfr hlo HF hc31) mc_X4_unit (in3 73 rfl rfl) mi_X4_unit ms_X4_unit ini_RX4 ok_X4_unit (x_recv b hE (ci := 4) rfl (by decide) t30) ⟨(show (fr + 1) + 1 ≤ (fr + 2) by omega), (show 8 + (3 + 11) + (lo + 25) ≤ (lo + 47) by omega)⟩ rfl hl.1 rfl (k_room _ (by exact Nat.le_of_ble_eq_true rfl)) ⟨le_room hk ei35, le_room hs ej36⟩ dX4_formula_59 (fun H locs hE => ?_)
      have hk := le_step hk ei35
      have hs := le_step hs ej36
      refine lv_aload_n b.1 b.2.1 dX4_formula_62 rfl (lv_at hl 0 rfl) ?_
      obtain ⟨t37, hf⟩ := oC_s hf
      have t37 := of_decide_eq_true t37
      refine gX4_25 (x := (some x0)) b hE rfl t37 dX4_formula_63 ?_
      refine lv_bipush (v := 6) b.1 b.2.1 dX4_formula_66 (by decide) ?_
      refine lv_iconst (v := 0) b.1 b.2.1 dX4_formula_68 (by decide) ?_
      obtain ⟨a38, ea38, hf⟩ := oN_s hf
      obtain ⟨t39, hf⟩ := oC_s hf
      have t39 := of_decide_eq_true t39
      obtain ⟨h41, i42, j43, hc40, hf⟩ := oB3_s hf
      obtain ⟨i44, j45, ei44, ej45, hf⟩ := oK3_s hf
      refine k_stk [.int 0, .int 6] ea38 ?_
      refine k_callV (C := RX1) b zs zk hE (CX1_addStep l D aC ad zk hc40) mc_X1_addStep (in3 82 rfl rfl) mi_X1_addStep ms_X1_addStep ini_RX1 ok_X1_addStep (x_recv b hE (ci := 1) rfl (by decide) t39) ⟨(show 2 + 1 ≤ (fr + 2) by omega), (show 8 + (3 + 11) + 82 ≤ (lo + 47) by omega)⟩ rfl hl.1 rfl (k_room _ (by exact Nat.le_of_ble_eq_true rfl)) ⟨le_room hk ei44, le_room hs ej45⟩ dX4_formula_69 (fun H locs hE => ?_)
      have hk := le_step hk ei44
      have hs := le_step hs ej45
      obtain ⟨y46, ey46, hf⟩ := oL_s hf
      refine lv_iinc (v := y46) (lv' := [(5, .int y46), (0, .ref (ad x0)), (1, .int x1), (2, .int x2), (4, .int x4)]) b.1 b.2.1 dX4_formula_72 hl (k := 4) rfl (by rw [ey46]; rfl) (by decide) rfl (fun ls hl => ?_)
      refine lv_goto (tgt := 40) b.1 b.2.1 dX4_formula_75 (by decide) ?_
      exact H40 h41 x0 x1 x2 x4 y46 _ _ _ _ _ _ _ hf hk hs hE (lv_sub hl [1, 2, 3, 4, 0] rfl)
def fX4_formula_40 (kF : PH → Nat → Int32 → Option (PH × Nat × Nat)) (k20 : PH → Nat → Int32 → Int32 → Int32 → Int32 → Option (PH × Nat × Nat)) : Nat → PH → Nat → Int32 → Int32 → Int32 → Int32 → Option (PH × Nat × Nat)
  | 0 => fun _ _ _ _ _ _ => none
  | n + 1 => fX4_formula_40F kF k20 (fX4_formula_40 kF k20 n)
set_option maxHeartbeats 4000000 in
theorem wfX4_formula_40 {mc ms : Nat} {args : Array Value} (b : Bd p s m c cX4_formula 6 RX4 D aC) (hlk : meth.locks = false) (hr : meth.sig.returnType = none) {Z : State → Prop} (zs : Z s) (zk : ZOK Z (Rg ad)) {kF : PH → Nat → Int32 → Option (PH × Nat × Nat)} {fr lo : Nat} (hfr : 3 ≤ fr) (hlo : 104 ≤ lo) (HF : ∀ (h : PH) (x0 : Nat) (x1 : Int32) (hz : PH) (kz mz : Nat), kF h x0 x1 = some (hz, kz, mz) → CM l D aC Z yX4_formula cX4_formula 6 none fr lo kz mz (EX D aC ad h) [.ref (ad x0), .int x1] (EX D aC ad hz) none (Rg ad)) {hz : PH} {k20 : PH → Nat → Int32 → Int32 → Int32 → Int32 → Option (PH × Nat × Nat)} (H20 : ∀ (h : PH) (x0 : Nat) (x1 : Int32) (x2 : Int32) (x3 : Int32) (x4 : Int32), ∀ (cells slots kz mz : Nat) (H : Heap) (locs : List Loc) (ls : Array Slot), k20 h x0 x1 x2 x3 x4 = some (hz, kz, mz) → cells + kz ≤ mc → slots + mz ≤ ms → CE (EX D aC ad h) (Rg ad) s H locs → lv_has ls 6 [(0, .ref (ad x0)), (1, .int x1), (2, .int x2), (3, .int x3), (4, .int x4)] → W p l e (RM (fr + 2) (lo + 47) mc ms) s m args below meth c H locs cells slots (MQ below (PQ (EX D aC ad hz) (Rg ad) none) args s mc ms (Rg ad)) (F0 m 20 ls [])) : ∀ n : Nat, ∀ (h : PH) (x0 : Nat) (x1 : Int32) (x2 : Int32) (x4 : Int32) (x5 : Int32), ∀ (cells slots kz mz : Nat) (H : Heap) (locs : List Loc) (ls : Array Slot), fX4_formula_40 kF k20 n h x0 x1 x2 x4 x5 = some (hz, kz, mz) → cells + kz ≤ mc → slots + mz ≤ ms → CE (EX D aC ad h) (Rg ad) s H locs → lv_has ls 6 [(0, .ref (ad x0)), (1, .int x1), (2, .int x2), (4, .int x4), (5, .int x5)] → W p l e (RM (fr + 2) (lo + 47) mc ms) s m args below meth c H locs cells slots (MQ below (PQ (EX D aC ad hz) (Rg ad) none) args s mc ms (Rg ad)) (F0 m 40 ls []) := by
  intro n
  induction n with
  | zero =>
    intro h x0 x1 x2 x4 x5 cells slots kz mz H locs ls hf
    have hf : (none : Option (PH × Nat × Nat)) = some _ := hf
    cases hf
  | succ n ih =>
    intro h x0 x1 x2 x4 x5 cells slots kz mz H locs ls hf hk hs hE hl
    exact wfX4_formula_40F b hlk hr zs zk hfr hlo HF H20 ih hf hk hs hE hl
def fX4_formula_20F (kF : PH → Nat → Int32 → Option (PH × Nat × Nat)) (k20 : PH → Nat → Int32 → Int32 → Int32 → Int32 → Option (PH × Nat × Nat)) (h : PH) (x0 : Nat) (x1 : Int32) (x2 : Int32) (x3 : Int32) (x4 : Int32) : Option (PH × Nat × Nat) :=
  if 1200 ≤ x4 then (some (h, 0, 0)) else (if x3 = 0 then (some (h, 0, 0)) else (oC (decide (hT h x0 = 5)) (oB3 (fX4_unit kF h x0 x1) (fun h51 i52 j53 => oK3 i52 j53 (fX4_formula_40 kF k20 FU h51 x0 x1 x2 x4 0)))))
set_option maxHeartbeats 4000000 in
theorem wfX4_formula_20F {mc ms cells slots : Nat} {args : Array Value} (b : Bd p s m c cX4_formula 6 RX4 D aC) (hlk : meth.locks = false) (hr : meth.sig.returnType = none) {Z : State → Prop} (zs : Z s) (zk : ZOK Z (Rg ad)) {kF : PH → Nat → Int32 → Option (PH × Nat × Nat)} {fr lo : Nat} (hfr : 3 ≤ fr) (hlo : 104 ≤ lo) (HF : ∀ (h : PH) (x0 : Nat) (x1 : Int32) (hz : PH) (kz mz : Nat), kF h x0 x1 = some (hz, kz, mz) → CM l D aC Z yX4_formula cX4_formula 6 none fr lo kz mz (EX D aC ad h) [.ref (ad x0), .int x1] (EX D aC ad hz) none (Rg ad)) {hz : PH} {k20 : PH → Nat → Int32 → Int32 → Int32 → Int32 → Option (PH × Nat × Nat)} (H20 : ∀ (h : PH) (x0 : Nat) (x1 : Int32) (x2 : Int32) (x3 : Int32) (x4 : Int32), ∀ (cells slots kz mz : Nat) (H : Heap) (locs : List Loc) (ls : Array Slot), k20 h x0 x1 x2 x3 x4 = some (hz, kz, mz) → cells + kz ≤ mc → slots + mz ≤ ms → CE (EX D aC ad h) (Rg ad) s H locs → lv_has ls 6 [(0, .ref (ad x0)), (1, .int x1), (2, .int x2), (3, .int x3), (4, .int x4)] → W p l e (RM (fr + 2) (lo + 47) mc ms) s m args below meth c H locs cells slots (MQ below (PQ (EX D aC ad hz) (Rg ad) none) args s mc ms (Rg ad)) (F0 m 20 ls [])) {h : PH} {x0 : Nat} {x1 : Int32} {x2 : Int32} {x3 : Int32} {x4 : Int32} {kz : Nat} {mz : Nat}  {H : Heap} {locs : List Loc} {ls : Array Slot} (hf : fX4_formula_20F kF k20 h x0 x1 x2 x3 x4 = some (hz, kz, mz)) (hk : cells + kz ≤ mc) (hs : slots + mz ≤ ms) (hE : CE (EX D aC ad h) (Rg ad) s H locs) (hl : lv_has ls 6 [(0, .ref (ad x0)), (1, .int x1), (2, .int x2), (3, .int x3), (4, .int x4)]) : W p l e (RM (fr + 2) (lo + 47) mc ms) s m args below meth c H locs cells slots (MQ below (PQ (EX D aC ad hz) (Rg ad) none) args s mc ms (Rg ad)) (F0 m 20 ls []) := by
  unfold fX4_formula_20F at hf
  refine lv_iload b.1 b.2.1 dX4_formula_20 (lv_at hl 4 rfl) ?_
  refine lv_sipush (v := 1200) b.1 b.2.1 dX4_formula_22 (by decide) ?_
  refine lv_icmp_ge (tgt := 137) b.1 b.2.1 dX4_formula_25 (by decide) (fun c47 => ?_) (fun c47 => ?_)
  · have hf := oI_t c47 hf
    cases hf
    exact k_vret b hlk hr hE (le_c hk) (le_c hs) dX4_formula_137
  · have hf := oI_f c47 hf
    refine lv_iload_n b.1 b.2.1 dX4_formula_28 rfl (lv_at hl 3 rfl) ?_
    refine lv_if_eq (tgt := 137) b.1 b.2.1 dX4_formula_29 (by decide) (fun c48 => ?_) (fun c48 => ?_)
    · have hf := oI_t c48 hf
      cases hf
      exact k_vret b hlk hr hE (le_c hk) (le_c hs) dX4_formula_137
    · have hf := oI_f c48 hf
      refine lv_aload_n b.1 b.2.1 dX4_formula_32 rfl (lv_at hl 0 rfl) ?_
      refine lv_iload_n b.1 b.2.1 dX4_formula_33 rfl (lv_at hl 1 rfl) ?_
      obtain ⟨t49, hf⟩ := oC_s hf
      have t49 := of_decide_eq_true t49
      obtain ⟨h51, i52, j53, hc50, hf⟩ := oB3_s hf
      obtain ⟨i54, j55, ei54, ej55, hf⟩ := oK3_s hf
      refine k_callV (C := RX4) b zs zk hE (CX4_unit l D aC ad zk hfr hlo HF hc50) mc_X4_unit (in3 73 rfl rfl) mi_X4_unit ms_X4_unit ini_RX4 ok_X4_unit (x_recv b hE (ci := 4) rfl (by decide) t49) ⟨(show (fr + 1) + 1 ≤ (fr + 2) by omega), (show 8 + (3 + 11) + (lo + 25) ≤ (lo + 47) by omega)⟩ rfl hl.1 rfl (k_room _ (by exact Nat.le_of_ble_eq_true rfl)) ⟨le_room hk ei54, le_room hs ej55⟩ dX4_formula_34 (fun H locs hE => ?_)
      have hk := le_step hk ei54
      have hs := le_step hs ej55
      refine lv_iconst (v := 0) b.1 b.2.1 dX4_formula_37 (by decide) ?_
      refine lv_istore (lv' := [(5, .int 0), (0, .ref (ad x0)), (1, .int x1), (2, .int x2), (3, .int x3), (4, .int x4)]) b.1 b.2.1 dX4_formula_38 hl (by decide) rfl (fun ls hl => ?_)
      have hl := lv_sub (l' := [(5, .int 0), (0, .ref (ad x0)), (1, .int x1), (2, .int x2), (4, .int x4)]) hl [0, 1, 2, 3, 5] rfl
      exact wfX4_formula_40 b hlk hr zs zk hfr hlo HF H20 FU h51 x0 x1 x2 x4 0 _ _ _ _ _ _ _ hf hk hs hE (lv_sub hl [1, 2, 3, 4, 0] rfl)
def fX4_formula_20 (kF : PH → Nat → Int32 → Option (PH × Nat × Nat))  : Nat → PH → Nat → Int32 → Int32 → Int32 → Int32 → Option (PH × Nat × Nat)
  | 0 => fun _ _ _ _ _ _ => none
  | n + 1 => fX4_formula_20F kF  (fX4_formula_20 kF  n)
set_option maxHeartbeats 4000000 in
theorem wfX4_formula_20 {mc ms : Nat} {args : Array Value} (b : Bd p s m c cX4_formula 6 RX4 D aC) (hlk : meth.locks = false) (hr : meth.sig.returnType = none) {Z : State → Prop} (zs : Z s) (zk : ZOK Z (Rg ad)) {kF : PH → Nat → Int32 → Option (PH × Nat × Nat)} {fr lo : Nat} (hfr : 3 ≤ fr) (hlo : 104 ≤ lo) (HF : ∀ (h : PH) (x0 : Nat) (x1 : Int32) (hz : PH) (kz mz : Nat), kF h x0 x1 = some (hz, kz, mz) → CM l D aC Z yX4_formula cX4_formula 6 none fr lo kz mz (EX D aC ad h) [.ref (ad x0), .int x1] (EX D aC ad hz) none (Rg ad)) {hz : PH} : ∀ n : Nat, ∀ (h : PH) (x0 : Nat) (x1 : Int32) (x2 : Int32) (x3 : Int32) (x4 : Int32), ∀ (cells slots kz mz : Nat) (H : Heap) (locs : List Loc) (ls : Array Slot), fX4_formula_20 kF  n h x0 x1 x2 x3 x4 = some (hz, kz, mz) → cells + kz ≤ mc → slots + mz ≤ ms → CE (EX D aC ad h) (Rg ad) s H locs → lv_has ls 6 [(0, .ref (ad x0)), (1, .int x1), (2, .int x2), (3, .int x3), (4, .int x4)] → W p l e (RM (fr + 2) (lo + 47) mc ms) s m args below meth c H locs cells slots (MQ below (PQ (EX D aC ad hz) (Rg ad) none) args s mc ms (Rg ad)) (F0 m 20 ls []) := by
  intro n
  induction n with
  | zero =>
    intro h x0 x1 x2 x3 x4 cells slots kz mz H locs ls hf
    have hf : (none : Option (PH × Nat × Nat)) = some _ := hf
    cases hf
  | succ n ih =>
    intro h x0 x1 x2 x3 x4 cells slots kz mz H locs ls hf hk hs hE hl
    exact wfX4_formula_20F b hlk hr zs zk hfr hlo HF  ih hf hk hs hE hl
def fX4_formula_14 (kF : PH → Nat → Int32 → Option (PH × Nat × Nat))  (h : PH) (x0 : Nat) (x1 : Int32) (s0 : Int32) : Option (PH × Nat × Nat) :=
  fX4_formula_20 kF  FU h x0 x1 s0 1 0
set_option maxHeartbeats 4000000 in
theorem wfX4_formula_14 {mc ms cells slots : Nat} {args : Array Value} (b : Bd p s m c cX4_formula 6 RX4 D aC) (hlk : meth.locks = false) (hr : meth.sig.returnType = none) {Z : State → Prop} (zs : Z s) (zk : ZOK Z (Rg ad)) {kF : PH → Nat → Int32 → Option (PH × Nat × Nat)} {fr lo : Nat} (hfr : 3 ≤ fr) (hlo : 104 ≤ lo) (HF : ∀ (h : PH) (x0 : Nat) (x1 : Int32) (hz : PH) (kz mz : Nat), kF h x0 x1 = some (hz, kz, mz) → CM l D aC Z yX4_formula cX4_formula 6 none fr lo kz mz (EX D aC ad h) [.ref (ad x0), .int x1] (EX D aC ad hz) none (Rg ad)) {hz : PH} {h : PH} {x0 : Nat} {x1 : Int32} {s0 : Int32} {kz : Nat} {mz : Nat}  {H : Heap} {locs : List Loc} {ls : Array Slot} (hf : fX4_formula_14 kF h x0 x1 s0 = some (hz, kz, mz)) (hk : cells + kz ≤ mc) (hs : slots + mz ≤ ms) (hE : CE (EX D aC ad h) (Rg ad) s H locs) (hl : lv_has ls 6 [(0, .ref (ad x0)), (1, .int x1)]) : W p l e (RM (fr + 2) (lo + 47) mc ms) s m args below meth c H locs cells slots (MQ below (PQ (EX D aC ad hz) (Rg ad) none) args s mc ms (Rg ad)) (F0 m 14 ls [.int s0]) := by
  unfold fX4_formula_14 at hf
  refine lv_istore_n (lv' := [(2, .int s0), (0, .ref (ad x0)), (1, .int x1)]) b.1 b.2.1 dX4_formula_14 rfl hl (by decide) rfl (fun ls hl => ?_)
  refine lv_iconst (v := 1) b.1 b.2.1 dX4_formula_15 (by decide) ?_
  refine lv_istore_n (lv' := [(3, .int 1), (2, .int s0), (0, .ref (ad x0)), (1, .int x1)]) b.1 b.2.1 dX4_formula_16 rfl hl (by decide) rfl (fun ls hl => ?_)
  refine lv_iconst (v := 0) b.1 b.2.1 dX4_formula_17 (by decide) ?_
  refine lv_istore (lv' := [(4, .int 0), (3, .int 1), (2, .int s0), (0, .ref (ad x0)), (1, .int x1)]) b.1 b.2.1 dX4_formula_18 hl (by decide) rfl (fun ls hl => ?_)
  exact wfX4_formula_20 b hlk hr zs zk hfr hlo HF  FU h x0 x1 s0 1 0 _ _ _ _ _ _ _ hf hk hs hE (lv_sub hl [3, 4, 2, 1, 0] rfl)
def fX4_formula_0 (kF : PH → Nat → Int32 → Option (PH × Nat × Nat))  (h : PH) (x0 : Nat) (x1 : Int32) : Option (PH × Nat × Nat) :=
  oC (decide (hT h x0 = 5)) (oB2 (fX4_skip h x0 45) (fun h59 r58 => if r58 = 0 then (fX4_formula_14 kF  h59 x0 x1 (-1)) else (fX4_formula_14 kF  h59 x0 x1 3)))
set_option maxHeartbeats 4000000 in
theorem wfX4_formula_0 {mc ms cells slots : Nat} {args : Array Value} (b : Bd p s m c cX4_formula 6 RX4 D aC) (hlk : meth.locks = false) (hr : meth.sig.returnType = none) {Z : State → Prop} (zs : Z s) (zk : ZOK Z (Rg ad)) {kF : PH → Nat → Int32 → Option (PH × Nat × Nat)} {fr lo : Nat} (hfr : 3 ≤ fr) (hlo : 104 ≤ lo) (HF : ∀ (h : PH) (x0 : Nat) (x1 : Int32) (hz : PH) (kz mz : Nat), kF h x0 x1 = some (hz, kz, mz) → CM l D aC Z yX4_formula cX4_formula 6 none fr lo kz mz (EX D aC ad h) [.ref (ad x0), .int x1] (EX D aC ad hz) none (Rg ad)) {hz : PH} {h : PH} {x0 : Nat} {x1 : Int32} {kz : Nat} {mz : Nat}  {H : Heap} {locs : List Loc} {ls : Array Slot} (hf : fX4_formula_0 kF h x0 x1 = some (hz, kz, mz)) (hk : cells + kz ≤ mc) (hs : slots + mz ≤ ms) (hE : CE (EX D aC ad h) (Rg ad) s H locs) (hl : lv_has ls 6 [(0, .ref (ad x0)), (1, .int x1)]) : W p l e (RM (fr + 2) (lo + 47) mc ms) s m args below meth c H locs cells slots (MQ below (PQ (EX D aC ad hz) (Rg ad) none) args s mc ms (Rg ad)) (F0 m 0 ls []) := by
  unfold fX4_formula_0 at hf
  refine lv_aload_n b.1 b.2.1 dX4_formula_0 rfl (lv_at hl 0 rfl) ?_
  refine lv_bipush (v := 45) b.1 b.2.1 dX4_formula_1 (by decide) ?_
  obtain ⟨t56, hf⟩ := oC_s hf
  have t56 := of_decide_eq_true t56
  obtain ⟨h59, r58, hc57, hf⟩ := oB2_s hf
  refine k_callV0 (C := RX4) b zs zk hE (CX4_skip l D aC ad zk hc57) mc_X4_skip (in3 69 rfl rfl) mi_X4_skip ms_X4_skip ini_RX4 ok_X4_skip (x_recv b hE (ci := 4) rfl (by decide) t56) ⟨(show 2 + 1 ≤ (fr + 2) by omega), (show 8 + (2 + 11) + 43 ≤ (lo + 47) by omega)⟩ rfl hl.1 rfl (k_room _ (by exact Nat.le_of_ble_eq_true rfl)) ⟨le_0 hk, le_0 hs⟩ dX4_formula_3 (fun H locs hE => ?_)
  refine lv_if_eq (tgt := 13) b.1 b.2.1 dX4_formula_6 (by decide) (fun c60 => ?_) (fun c60 => ?_)
  · have hf := oI_t c60 hf
    refine lv_iconst (v := (-1)) b.1 b.2.1 dX4_formula_13 (by decide) ?_
    exact wfX4_formula_14 b hlk hr zs zk hfr hlo HF  hf hk hs hE (lv_sub hl [0, 1] rfl)
  · have hf := oI_f c60 hf
    refine lv_iconst (v := 3) b.1 b.2.1 dX4_formula_9 (by decide) ?_
    refine lv_goto (tgt := 14) b.1 b.2.1 dX4_formula_10 (by decide) ?_
    exact wfX4_formula_14 b hlk hr zs zk hfr hlo HF  hf hk hs hE (lv_sub hl [0, 1] rfl)
def fX4_formulaG (kF : PH → Nat → Int32 → Option (PH × Nat × Nat)) (h : PH) (x0 : Nat) (x1 : Int32) : Option (PH × Nat × Nat) := fX4_formula_0 kF h x0 x1
set_option maxHeartbeats 4000000 in
theorem CX4_formulaG (l : Launch) (D : va_G) (aC : Nat → ClassId) (ad : Nat → Nat) {Z : State → Prop} (zk : ZOK Z (Rg ad)) {kF : PH → Nat → Int32 → Option (PH × Nat × Nat)} {fr lo : Nat} (hfr : 3 ≤ fr) (hlo : 104 ≤ lo) (HF : ∀ (h : PH) (x0 : Nat) (x1 : Int32) (hz : PH) (kz mz : Nat), kF h x0 x1 = some (hz, kz, mz) → CM l D aC Z yX4_formula cX4_formula 6 none fr lo kz mz (EX D aC ad h) [.ref (ad x0), .int x1] (EX D aC ad hz) none (Rg ad)) {h : PH} {x0 : Nat} {x1 : Int32} {hz : PH} {kz : Nat} {mz : Nat} (hf : fX4_formulaG kF h x0 x1 = some (hz, kz, mz)) : CM l D aC Z yX4_formula cX4_formula 6 (none) (fr + 2) (lo + 47) kz mz (EX D aC ad h) [.ref (ad x0), .int x1] (EX D aC ad hz) none (Rg ad) := by
  refine CM.of rfl ?_
  intro p e s m below meth c b hr hlk hin2 zs hE
  refine k_ent (Nat.le_of_ble_eq_true rfl) (fun ls hl => ?_)
  exact wfX4_formula_0 b hlk hr zs zk hfr hlo HF hf (by omega) (by omega) hE (lv_sub hl [0, 1] rfl)
def fX4_formula : Nat → PH → Nat → Int32 → Option (PH × Nat × Nat)
  | 0 => fun _ _ _ => none
  | n + 1 => fX4_formulaG (fX4_formula n)
set_option maxHeartbeats 4000000 in
theorem CX4_formula (l : Launch) (D : va_G) (aC : Nat → ClassId) (ad : Nat → Nat) {Z : State → Prop} (zk : ZOK Z (Rg ad)) (n : Nat) {h : PH} {x0 : Nat} {x1 : Int32} {hz : PH} {kz mz : Nat} (hf : fX4_formula n h x0 x1 = some (hz, kz, mz)) : CM l D aC Z yX4_formula cX4_formula 6 none (3 + 2 * n) (104 + 47 * n) kz mz (EX D aC ad h) [.ref (ad x0), .int x1] (EX D aC ad hz) none (Rg ad) := by
  induction n generalizing h x0 x1 hz kz mz with
  | zero =>
    have hf : (none : Option (PH × Nat × Nat)) = some _ := hf
    cases hf
  | succ n ih =>
    exact CX4_formulaG l D aC ad zk (fr := 3 + 2 * n) (lo := 104 + 47 * n) (by omega) (by omega) (fun h x0 x1 hz kz mz hk => ih hk) hf
theorem dX4_comparison_0 : decode cX4_comparison 0 = .ok (.aload_n 0, 1) := by decide +kernel
theorem dX4_comparison_1 : decode cX4_comparison 1 = .ok (.sipush 316, 3) := by decide +kernel
theorem dX4_comparison_4 : decode cX4_comparison 4 = .ok (.invokevirtual 63, 3) := by decide +kernel
theorem dX4_comparison_7 : decode cX4_comparison 7 = .ok (.pop, 1) := by decide +kernel
theorem dX4_comparison_8 : decode cX4_comparison 8 = .ok (.aload_n 1, 1) := by decide +kernel
theorem dX4_comparison_9 : decode cX4_comparison 9 = .ok (.aload_n 0, 1) := by decide +kernel
theorem dX4_comparison_10 : decode cX4_comparison 10 = .ok (.getfield 25, 3) := by decide +kernel
theorem dX4_comparison_13 : decode cX4_comparison 13 = .ok (.getfield 250, 3) := by decide +kernel
theorem dX4_comparison_16 : decode cX4_comparison 16 = .ok (.putfield 253, 3) := by decide +kernel
theorem dX4_comparison_19 : decode cX4_comparison 19 = .ok (.aload_n 0, 1) := by decide +kernel
theorem dX4_comparison_20 : decode cX4_comparison 20 = .ok (.iconst 0, 1) := by decide +kernel
theorem dX4_comparison_21 : decode cX4_comparison 21 = .ok (.invokevirtual 256, 3) := by decide +kernel
theorem dX4_comparison_24 : decode cX4_comparison 24 = .ok (.aload_n 1, 1) := by decide +kernel
theorem dX4_comparison_25 : decode cX4_comparison 25 = .ok (.aload_n 0, 1) := by decide +kernel
theorem dX4_comparison_26 : decode cX4_comparison 26 = .ok (.getfield 25, 3) := by decide +kernel
theorem dX4_comparison_29 : decode cX4_comparison 29 = .ok (.getfield 250, 3) := by decide +kernel
theorem dX4_comparison_32 : decode cX4_comparison 32 = .ok (.putfield 259, 3) := by decide +kernel
theorem dX4_comparison_35 : decode cX4_comparison 35 = .ok (.aload_n 1, 1) := by decide +kernel
theorem dX4_comparison_36 : decode cX4_comparison 36 = .ok (.aload_n 0, 1) := by decide +kernel
theorem dX4_comparison_37 : decode cX4_comparison 37 = .ok (.getfield 60, 3) := by decide +kernel
theorem dX4_comparison_40 : decode cX4_comparison 40 = .ok (.putfield 225, 3) := by decide +kernel
theorem dX4_comparison_43 : decode cX4_comparison 43 = .ok (.aload_n 1, 1) := by decide +kernel
theorem dX4_comparison_44 : decode cX4_comparison 44 = .ok (.getfield 225, 3) := by decide +kernel
theorem dX4_comparison_47 : decode cX4_comparison 47 = .ok (.lookupswitch 53 #[(60, 41), (257, 41), (258, 41), (259, 41)], 41) := by decide +kernel
theorem dX4_comparison_88 : decode cX4_comparison 88 = .ok (.aload_n 0, 1) := by decide +kernel
theorem dX4_comparison_89 : decode cX4_comparison 89 = .ok (.aload_n 1, 1) := by decide +kernel
theorem dX4_comparison_90 : decode cX4_comparison 90 = .ok (.getfield 225, 3) := by decide +kernel
theorem dX4_comparison_93 : decode cX4_comparison 93 = .ok (.invokevirtual 63, 3) := by decide +kernel
theorem dX4_comparison_96 : decode cX4_comparison 96 = .ok (.pop, 1) := by decide +kernel
theorem dX4_comparison_97 : decode cX4_comparison 97 = .ok (.goto 8, 3) := by decide +kernel
theorem dX4_comparison_100 : decode cX4_comparison 100 = .ok (.aload_n 0, 1) := by decide +kernel
theorem dX4_comparison_101 : decode cX4_comparison 101 = .ok (.iconst 1, 1) := by decide +kernel
theorem dX4_comparison_102 : decode cX4_comparison 102 = .ok (.invokevirtual 89, 3) := by decide +kernel
theorem dX4_comparison_105 : decode cX4_comparison 105 = .ok (.aload_n 0, 1) := by decide +kernel
theorem dX4_comparison_106 : decode cX4_comparison 106 = .ok (.iconst 0, 1) := by decide +kernel
theorem dX4_comparison_107 : decode cX4_comparison 107 = .ok (.invokevirtual 256, 3) := by decide +kernel
theorem dX4_comparison_110 : decode cX4_comparison 110 = .ok (.aload_n 1, 1) := by decide +kernel
theorem dX4_comparison_111 : decode cX4_comparison 111 = .ok (.aload_n 0, 1) := by decide +kernel
theorem dX4_comparison_112 : decode cX4_comparison 112 = .ok (.getfield 25, 3) := by decide +kernel
theorem dX4_comparison_115 : decode cX4_comparison 115 = .ok (.getfield 250, 3) := by decide +kernel
theorem dX4_comparison_118 : decode cX4_comparison 118 = .ok (.putfield 262, 3) := by decide +kernel
theorem dX4_comparison_121 : decode cX4_comparison 121 = .ok (.return_, 1) := by decide +kernel
def fX4_comparison_105  (h : PH) (x0 : Nat) (x1 : Option Nat) : Option (PH × Nat × Nat) :=
  oC (decide (hT h x0 = 5)) (oB3 (fX4_formula 12 h x0 0) (fun h3 i4 j5 => oK3 i4 j5 (oC (decide (hT h3 x0 = 5)) (oN (hR h3 512 x0) (fun a9 => oC (decide (hT h3 a9 = 2)) (oN x1 (fun a11 => oC (decide (hT h3 a11 = 3)) (oL (sI h3 263 a11 (hI h3 142 a9)) (fun h13 => some (h13, 0, 0))))))))))
set_option maxHeartbeats 4000000 in
theorem wfX4_comparison_105 {mc ms cells slots : Nat} {args : Array Value} (b : Bd p s m c cX4_comparison 2 RX4 D aC) (hlk : meth.locks = false) (hr : meth.sig.returnType = none) {Z : State → Prop} (zs : Z s) (zk : ZOK Z (Rg ad)) {hz : PH} {h : PH} {x0 : Nat} {x1 : Option Nat} {kz : Nat} {mz : Nat}  {H : Heap} {locs : List Loc} {ls : Array Slot} (hf : fX4_comparison_105 h x0 x1 = some (hz, kz, mz)) (hk : cells + kz ≤ mc) (hs : slots + mz ≤ ms) (hE : CE (EX D aC ad h) (Rg ad) s H locs) (hl : lv_has ls 2 [(0, .ref (ad x0)), (1, va_rf (Option.map ad x1))]) : W p l e (RM 28 693 mc ms) s m args below meth c H locs cells slots (MQ below (PQ (EX D aC ad hz) (Rg ad) none) args s mc ms (Rg ad)) (F0 m 105 ls []) := by
  unfold fX4_comparison_105 at hf
  refine lv_aload_n b.1 b.2.1 dX4_comparison_105 rfl (lv_at hl 0 rfl) ?_
  refine lv_iconst (v := 0) b.1 b.2.1 dX4_comparison_106 (by decide) ?_
  obtain ⟨t1, hf⟩ := oC_s hf
  have t1 := of_decide_eq_true t1
  obtain ⟨h3, i4, j5, hc2, hf⟩ := oB3_s hf
  obtain ⟨i6, j7, ei6, ej7, hf⟩ := oK3_s hf
  refine k_callV (C := RX4) b zs zk hE (CX4_formula l D aC ad zk 12 hc2) mc_X4_formula (in3 65 rfl rfl) mi_X4_formula ms_X4_formula ini_RX4 ok_X4_formula (x_recv b hE (ci := 4) rfl (by decide) t1) ⟨Nat.le_of_ble_eq_true rfl, Nat.le_of_ble_eq_true rfl⟩ rfl hl.1 rfl (k_room _ (by exact Nat.le_of_ble_eq_true rfl)) ⟨le_room hk ei6, le_room hs ej7⟩ dX4_comparison_107 (fun H locs hE => ?_)
  have hk := le_step hk ei6
  have hs := le_step hs ej7
  refine k_aload_n (x := Option.map ad x1) b dX4_comparison_110 rfl (lv_at hl 1 rfl) ?_
  refine lv_aload_n b.1 b.2.1 dX4_comparison_111 rfl (lv_at hl 0 rfl) ?_
  obtain ⟨t8, hf⟩ := oC_s hf
  have t8 := of_decide_eq_true t8
  refine gX4_25 (x := (some x0)) b hE rfl t8 dX4_comparison_112 ?_
  obtain ⟨a9, ea9, hf⟩ := oN_s hf
  obtain ⟨t10, hf⟩ := oC_s hf
  have t10 := of_decide_eq_true t10
  refine gX4_250 (x := (hR h3 512 x0)) b hE ea9 t10 dX4_comparison_115 ?_
  obtain ⟨a11, ea11, hf⟩ := oN_s hf
  obtain ⟨t12, hf⟩ := oC_s hf
  have t12 := of_decide_eq_true t12
  obtain ⟨h13, eh13, hf⟩ := oL_s hf
  refine pX4_262 (x := x1) b hE ea11 t12 eh13 dX4_comparison_118 (fun H locs hE => ?_)
  cases hf
  exact k_vret b hlk hr hE (le_c hk) (le_c hs) dX4_comparison_121
def fX4_comparison_88  (h : PH) (x0 : Nat) (x1 : Option Nat) : Option (PH × Nat × Nat) :=
  oN x1 (fun a14 => oC (decide (hT h a14 = 3)) (oC (decide (hT h x0 = 5)) (oB2 (fX4_expect h x0 (hI h 256 a14)) (fun h19 r18 => fX4_comparison_105  h19 x0 x1))))
set_option maxHeartbeats 4000000 in
theorem wfX4_comparison_88 {mc ms cells slots : Nat} {args : Array Value} (b : Bd p s m c cX4_comparison 2 RX4 D aC) (hlk : meth.locks = false) (hr : meth.sig.returnType = none) {Z : State → Prop} (zs : Z s) (zk : ZOK Z (Rg ad)) {hz : PH} {h : PH} {x0 : Nat} {x1 : Option Nat} {kz : Nat} {mz : Nat}  {H : Heap} {locs : List Loc} {ls : Array Slot} (hf : fX4_comparison_88 h x0 x1 = some (hz, kz, mz)) (hk : cells + kz ≤ mc) (hs : slots + mz ≤ ms) (hE : CE (EX D aC ad h) (Rg ad) s H locs) (hl : lv_has ls 2 [(0, .ref (ad x0)), (1, va_rf (Option.map ad x1))]) : W p l e (RM 28 693 mc ms) s m args below meth c H locs cells slots (MQ below (PQ (EX D aC ad hz) (Rg ad) none) args s mc ms (Rg ad)) (F0 m 88 ls []) := by
  unfold fX4_comparison_88 at hf
  refine lv_aload_n b.1 b.2.1 dX4_comparison_88 rfl (lv_at hl 0 rfl) ?_
  refine k_aload_n (x := Option.map ad x1) b dX4_comparison_89 rfl (lv_at hl 1 rfl) ?_
  obtain ⟨a14, ea14, hf⟩ := oN_s hf
  obtain ⟨t15, hf⟩ := oC_s hf
  have t15 := of_decide_eq_true t15
  refine gX4_225 (x := x1) b hE ea14 t15 dX4_comparison_90 ?_
  obtain ⟨t16, hf⟩ := oC_s hf
  have t16 := of_decide_eq_true t16
  obtain ⟨h19, r18, hc17, hf⟩ := oB2_s hf
  refine k_callV0 (C := RX4) b zs zk hE (CX4_expect l D aC ad zk hc17) mc_X4_expect (in2 179 rfl rfl) mi_X4_expect ms_X4_expect ini_RX4 ok_X4_expect (x_recv b hE (ci := 4) rfl (by decide) t16) ⟨Nat.le_of_ble_eq_true rfl, Nat.le_of_ble_eq_true rfl⟩ rfl hl.1 rfl (k_room _ (by exact Nat.le_of_ble_eq_true rfl)) ⟨le_0 hk, le_0 hs⟩ dX4_comparison_93 (fun H locs hE => ?_)
  refine lv_pop b.1 b.2.1 dX4_comparison_96 rfl ?_
  refine lv_goto (tgt := 105) b.1 b.2.1 dX4_comparison_97 (by decide) ?_
  exact wfX4_comparison_105 b hlk hr zs zk  hf hk hs hE (lv_sub hl [0, 1] rfl)
def fX4_comparison_0  (h : PH) (x0 : Nat) (x1 : Option Nat) : Option (PH × Nat × Nat) :=
  oC (decide (hT h x0 = 5)) (oB2 (fX4_expect h x0 316) (fun h23 r22 => oC (decide (hT h23 x0 = 5)) (oN (hR h23 512 x0) (fun a25 => oC (decide (hT h23 a25 = 2)) (oN x1 (fun a27 => oC (decide (hT h23 a27 = 3)) (oL (sI h23 261 a27 (hI h23 142 a25)) (fun h29 => oB3 (fX4_formula 12 h29 x0 0) (fun h32 i33 j34 => oK3 i33 j34 (oC (decide (hT h32 x0 = 5)) (oN (hR h32 512 x0) (fun a38 => oC (decide (hT h32 a38 = 2)) (oC (decide (hT h32 a27 = 3)) (oL (sI h32 262 a27 (hI h32 142 a38)) (fun h41 => oL (sI h41 256 a27 (hI h41 521 x0)) (fun h44 => oL (hI h44 256 a27) (fun y46 => if y46 = 60 then (fX4_comparison_88  h44 x0 x1) else (if y46 = 257 then (fX4_comparison_88  h44 x0 x1) else (if y46 = 258 then (fX4_comparison_88  h44 x0 x1) else (if y46 = 259 then (fX4_comparison_88  h44 x0 x1) else (oB (fX4_stopAt h44 x0 1) (fun h53 => fX4_comparison_105  h53 x0 x1))))))))))))))))))))))
set_option maxHeartbeats 4000000 in
theorem wfX4_comparison_0 {mc ms cells slots : Nat} {args : Array Value} (b : Bd p s m c cX4_comparison 2 RX4 D aC) (hlk : meth.locks = false) (hr : meth.sig.returnType = none) {Z : State → Prop} (zs : Z s) (zk : ZOK Z (Rg ad)) {hz : PH} {h : PH} {x0 : Nat} {x1 : Option Nat} {kz : Nat} {mz : Nat}  {H : Heap} {locs : List Loc} {ls : Array Slot} (hf : fX4_comparison_0 h x0 x1 = some (hz, kz, mz)) (hk : cells + kz ≤ mc) (hs : slots + mz ≤ ms) (hE : CE (EX D aC ad h) (Rg ad) s H locs) (hl : lv_has ls 2 [(0, .ref (ad x0)), (1, va_rf (Option.map ad x1))]) : W p l e (RM 28 693 mc ms) s m args below meth c H locs cells slots (MQ below (PQ (EX D aC ad hz) (Rg ad) none) args s mc ms (Rg ad)) (F0 m 0 ls []) := by
  unfold fX4_comparison_0 at hf
  refine lv_aload_n b.1 b.2.1 dX4_comparison_0 rfl (lv_at hl 0 rfl) ?_
  refine lv_sipush (v := 316) b.1 b.2.1 dX4_comparison_1 (by decide) ?_
  obtain ⟨t20, hf⟩ := oC_s hf
  have t20 := of_decide_eq_true t20
  obtain ⟨h23, r22, hc21, hf⟩ := oB2_s hf
  refine k_callV0 (C := RX4) b zs zk hE (CX4_expect l D aC ad zk hc21) mc_X4_expect (in2 179 rfl rfl) mi_X4_expect ms_X4_expect ini_RX4 ok_X4_expect (x_recv b hE (ci := 4) rfl (by decide) t20) ⟨Nat.le_of_ble_eq_true rfl, Nat.le_of_ble_eq_true rfl⟩ rfl hl.1 rfl (k_room _ (by exact Nat.le_of_ble_eq_true rfl)) ⟨le_0 hk, le_0 hs⟩ dX4_comparison_4 (fun H locs hE => ?_)
  refine lv_pop b.1 b.2.1 dX4_comparison_7 rfl ?_
  refine k_aload_n (x := Option.map ad x1) b dX4_comparison_8 rfl (lv_at hl 1 rfl) ?_
  refine lv_aload_n b.1 b.2.1 dX4_comparison_9 rfl (lv_at hl 0 rfl) ?_
  obtain ⟨t24, hf⟩ := oC_s hf
  have t24 := of_decide_eq_true t24
  refine gX4_25 (x := (some x0)) b hE rfl t24 dX4_comparison_10 ?_
  obtain ⟨a25, ea25, hf⟩ := oN_s hf
  obtain ⟨t26, hf⟩ := oC_s hf
  have t26 := of_decide_eq_true t26
  refine gX4_250 (x := (hR h23 512 x0)) b hE ea25 t26 dX4_comparison_13 ?_
  obtain ⟨a27, ea27, hf⟩ := oN_s hf
  obtain ⟨t28, hf⟩ := oC_s hf
  have t28 := of_decide_eq_true t28
  obtain ⟨h29, eh29, hf⟩ := oL_s hf
  refine pX4_253 (x := x1) b hE ea27 t28 eh29 dX4_comparison_16 (fun H locs hE => ?_)
  refine lv_aload_n b.1 b.2.1 dX4_comparison_19 rfl (lv_at hl 0 rfl) ?_
  refine lv_iconst (v := 0) b.1 b.2.1 dX4_comparison_20 (by decide) ?_
  have t30 := tg_sI eh29 t24
  obtain ⟨h32, i33, j34, hc31, hf⟩ := oB3_s hf
  obtain ⟨i35, j36, ei35, ej36, hf⟩ := oK3_s hf
  refine k_callV (C := RX4) b zs zk hE (CX4_formula l D aC ad zk 12 hc31) mc_X4_formula (in3 65 rfl rfl) mi_X4_formula ms_X4_formula ini_RX4 ok_X4_formula (x_recv b hE (ci := 4) rfl (by decide) t30) ⟨Nat.le_of_ble_eq_true rfl, Nat.le_of_ble_eq_true rfl⟩ rfl hl.1 rfl (k_room _ (by exact Nat.le_of_ble_eq_true rfl)) ⟨le_room hk ei35, le_room hs ej36⟩ dX4_comparison_21 (fun H locs hE => ?_)
  have hk := le_step hk ei35
  have hs := le_step hs ej36
  refine k_aload_n (x := Option.map ad x1) b dX4_comparison_24 rfl (lv_at hl 1 rfl) ?_
  refine lv_aload_n b.1 b.2.1 dX4_comparison_25 rfl (lv_at hl 0 rfl) ?_
  obtain ⟨t37, hf⟩ := oC_s hf
  have t37 := of_decide_eq_true t37
  refine gX4_25 (x := (some x0)) b hE rfl t37 dX4_comparison_26 ?_
  obtain ⟨a38, ea38, hf⟩ := oN_s hf
  obtain ⟨t39, hf⟩ := oC_s hf
  have t39 := of_decide_eq_true t39
  refine gX4_250 (x := (hR h32 512 x0)) b hE ea38 t39 dX4_comparison_29 ?_
  obtain ⟨t40, hf⟩ := oC_s hf
  have t40 := of_decide_eq_true t40
  obtain ⟨h41, eh41, hf⟩ := oL_s hf
  refine pX4_259 (x := x1) b hE ea27 t40 eh41 dX4_comparison_32 (fun H locs hE => ?_)
  refine k_aload_n (x := Option.map ad x1) b dX4_comparison_35 rfl (lv_at hl 1 rfl) ?_
  refine lv_aload_n b.1 b.2.1 dX4_comparison_36 rfl (lv_at hl 0 rfl) ?_
  have t42 := tg_sI eh41 t37
  refine gX4_60 (x := (some x0)) b hE rfl t42 dX4_comparison_37 ?_
  have t43 := tg_sI eh41 t40
  obtain ⟨h44, eh44, hf⟩ := oL_s hf
  refine pX4_225 (x := x1) b hE ea27 t43 eh44 dX4_comparison_40 (fun H locs hE => ?_)
  refine k_aload_n (x := Option.map ad x1) b dX4_comparison_43 rfl (lv_at hl 1 rfl) ?_
  have t45 := tg_sI eh44 t43
  refine gX4_225 (x := x1) b hE ea27 t45 dX4_comparison_44 ?_
  obtain ⟨y46, ey46, hf⟩ := oL_s hf
  refine k_nmI ey46 ?_
  rcases Decidable.em (y46 = 60) with c47 | c47
  · have hf := oI_t c47 hf
    refine lv_lookup (tgt := 88) (off := 41) b.1 b.2.1 dX4_comparison_47 (by decide) (by rw [c47] <;> rfl) (by decide) ?_
    exact wfX4_comparison_88 b hlk hr zs zk  hf hk hs hE (lv_sub hl [0, 1] rfl)
  have hf := oI_f c47 hf
  rcases Decidable.em (y46 = 257) with c48 | c48
  · have hf := oI_t c48 hf
    refine lv_lookup (tgt := 88) (off := 41) b.1 b.2.1 dX4_comparison_47 (by decide) (by rw [c48] <;> rfl) (by decide) ?_
    exact wfX4_comparison_88 b hlk hr zs zk  hf hk hs hE (lv_sub hl [0, 1] rfl)
  have hf := oI_f c48 hf
  rcases Decidable.em (y46 = 258) with c49 | c49
  · have hf := oI_t c49 hf
    refine lv_lookup (tgt := 88) (off := 41) b.1 b.2.1 dX4_comparison_47 (by decide) (by rw [c49] <;> rfl) (by decide) ?_
    exact wfX4_comparison_88 b hlk hr zs zk  hf hk hs hE (lv_sub hl [0, 1] rfl)
  have hf := oI_f c49 hf
  rcases Decidable.em (y46 = 259) with c50 | c50
  · have hf := oI_t c50 hf
    refine lv_lookup (tgt := 88) (off := 41) b.1 b.2.1 dX4_comparison_47 (by decide) (by rw [c50] <;> rfl) (by decide) ?_
    exact wfX4_comparison_88 b hlk hr zs zk  hf hk hs hE (lv_sub hl [0, 1] rfl)
  have hf := oI_f c50 hf
  refine lv_lookup (tgt := 100) (off := 53) b.1 b.2.1 dX4_comparison_47 (by decide) (by rw [lv_osw c47 (by decide), lv_osw c48 (by decide), lv_osw c49 (by decide), lv_osw c50 (by decide)] <;> rfl) (by decide) ?_
  refine lv_aload_n b.1 b.2.1 dX4_comparison_100 rfl (lv_at hl 0 rfl) ?_
  refine lv_iconst (v := 1) b.1 b.2.1 dX4_comparison_101 (by decide) ?_
  have t51 := tg_sI eh44 t42
  obtain ⟨h53, hc52, hf⟩ := oB_s hf
  refine k_callV0 (C := RX4) b zs zk hE (CX4_stopAt l D aC ad zk hc52) mc_X4_stopAt (in2 183 rfl rfl) mi_X4_stopAt ms_X4_stopAt ini_RX4 ok_X4_stopAt (x_recv b hE (ci := 4) rfl (by decide) t51) ⟨Nat.le_of_ble_eq_true rfl, Nat.le_of_ble_eq_true rfl⟩ rfl hl.1 rfl (k_room _ (by exact Nat.le_of_ble_eq_true rfl)) ⟨le_0 hk, le_0 hs⟩ dX4_comparison_102 (fun H locs hE => ?_)
  exact wfX4_comparison_105 b hlk hr zs zk  hf hk hs hE (lv_sub hl [0, 1] rfl)
def fX4_comparison (h : PH) (x0 : Nat) (x1 : Option Nat) : Option (PH × Nat × Nat) := fX4_comparison_0 h x0 x1
set_option maxHeartbeats 4000000 in
theorem CX4_comparison (l : Launch) (D : va_G) (aC : Nat → ClassId) (ad : Nat → Nat) {Z : State → Prop} (zk : ZOK Z (Rg ad)) {h : PH} {x0 : Nat} {x1 : Option Nat} {hz : PH} {kz : Nat} {mz : Nat} (hf : fX4_comparison h x0 x1 = some (hz, kz, mz)) : CM l D aC Z yX4_comparison cX4_comparison 2 (none) 28 693 kz mz (EX D aC ad h) [.ref (ad x0), va_rf (Option.map ad x1)] (EX D aC ad hz) none (Rg ad) := by
  refine CM.of rfl ?_
  intro p e s m below meth c b hr hlk hin2 zs hE
  cases x1 <;> (
    refine k_ent (Nat.le_of_ble_eq_true rfl) (fun ls hl => ?_)
    exact wfX4_comparison_0 b hlk hr zs zk hf (by omega) (by omega) hE (lv_sub hl [0, 1] rfl))
theorem dX4_likeness_0 : decode cX4_likeness 0 = .ok (.aload_n 1, 1) := by decide +kernel
theorem dX4_likeness_1 : decode cX4_likeness 1 = .ok (.aload_n 0, 1) := by decide +kernel
theorem dX4_likeness_2 : decode cX4_likeness 2 = .ok (.getfield 60, 3) := by decide +kernel
theorem dX4_likeness_5 : decode cX4_likeness 5 = .ok (.putfield 225, 3) := by decide +kernel
theorem dX4_likeness_8 : decode cX4_likeness 8 = .ok (.aload_n 0, 1) := by decide +kernel
theorem dX4_likeness_9 : decode cX4_likeness 9 = .ok (.aload_n 0, 1) := by decide +kernel
theorem dX4_likeness_10 : decode cX4_likeness 10 = .ok (.getfield 60, 3) := by decide +kernel
theorem dX4_likeness_13 : decode cX4_likeness 13 = .ok (.invokevirtual 63, 3) := by decide +kernel
theorem dX4_likeness_16 : decode cX4_likeness 16 = .ok (.pop, 1) := by decide +kernel
theorem dX4_likeness_17 : decode cX4_likeness 17 = .ok (.aload_n 1, 1) := by decide +kernel
theorem dX4_likeness_18 : decode cX4_likeness 18 = .ok (.aload_n 0, 1) := by decide +kernel
theorem dX4_likeness_19 : decode cX4_likeness 19 = .ok (.invokevirtual 243, 3) := by decide +kernel
theorem dX4_likeness_22 : decode cX4_likeness 22 = .ok (.putfield 237, 3) := by decide +kernel
theorem dX4_likeness_25 : decode cX4_likeness 25 = .ok (.aload_n 1, 1) := by decide +kernel
theorem dX4_likeness_26 : decode cX4_likeness 26 = .ok (.aload_n 0, 1) := by decide +kernel
theorem dX4_likeness_27 : decode cX4_likeness 27 = .ok (.invokevirtual 243, 3) := by decide +kernel
theorem dX4_likeness_30 : decode cX4_likeness 30 = .ok (.putfield 240, 3) := by decide +kernel
theorem dX4_likeness_33 : decode cX4_likeness 33 = .ok (.return_, 1) := by decide +kernel
def fX4_likeness_0  (h : PH) (x0 : Nat) (x1 : Option Nat) : Option (PH) :=
  oC (decide (hT h x0 = 5)) (oN x1 (fun a2 => oC (decide (hT h a2 = 3)) (oL (sI h 256 a2 (hI h 521 x0)) (fun h4 => oB2 (fX4_expect h4 x0 (hI h4 521 x0)) (fun h8 r7 => oC (decide (hT h8 x0 = 5)) (oB2 (fX4_term h8 x0) (fun h12 r11 => oC (decide (hT h12 a2 = 3)) (oL (sI h12 259 a2 r11) (fun h14 => oC (decide (hT h14 x0 = 5)) (oB2 (fX4_term h14 x0) (fun h18 r17 => oC (decide (hT h18 a2 = 3)) (oL (sI h18 260 a2 r17) (fun h20 => some (h20))))))))))))))
set_option maxHeartbeats 4000000 in
theorem wfX4_likeness_0 {args : Array Value} (b : Bd p s m c cX4_likeness 2 RX4 D aC) (hlk : meth.locks = false) (hr : meth.sig.returnType = none) {Z : State → Prop} (zs : Z s) (zk : ZOK Z (Rg ad)) {hz : PH} {h : PH} {x0 : Nat} {x1 : Option Nat}  {H : Heap} {locs : List Loc} {ls : Array Slot} (hf : fX4_likeness_0 h x0 x1 = some hz) (hE : CE (EX D aC ad h) (Rg ad) s H locs) (hl : lv_has ls 2 [(0, .ref (ad x0)), (1, va_rf (Option.map ad x1))]) : W p l e (RM 3 65 0 0) s m args below meth c H locs 0 0 (MQ below (PQ (EX D aC ad hz) (Rg ad) none) args s 0 0 (Rg ad)) (F0 m 0 ls []) := by
  unfold fX4_likeness_0 at hf
  refine k_aload_n (x := Option.map ad x1) b dX4_likeness_0 rfl (lv_at hl 1 rfl) ?_
  refine lv_aload_n b.1 b.2.1 dX4_likeness_1 rfl (lv_at hl 0 rfl) ?_
  obtain ⟨t1, hf⟩ := oC_s hf
  have t1 := of_decide_eq_true t1
  refine gX4_60 (x := (some x0)) b hE rfl t1 dX4_likeness_2 ?_
  obtain ⟨a2, ea2, hf⟩ := oN_s hf
  obtain ⟨t3, hf⟩ := oC_s hf
  have t3 := of_decide_eq_true t3
  obtain ⟨h4, eh4, hf⟩ := oL_s hf
  refine pX4_225 (x := x1) b hE ea2 t3 eh4 dX4_likeness_5 (fun H locs hE => ?_)
  refine lv_aload_n b.1 b.2.1 dX4_likeness_8 rfl (lv_at hl 0 rfl) ?_
  refine lv_aload_n b.1 b.2.1 dX4_likeness_9 rfl (lv_at hl 0 rfl) ?_
  have t5 := tg_sI eh4 t1
  refine gX4_60 (x := (some x0)) b hE rfl t5 dX4_likeness_10 ?_
  obtain ⟨h8, r7, hc6, hf⟩ := oB2_s hf
  refine k_callV0 (C := RX4) b zs zk hE (CX4_expect l D aC ad zk hc6) mc_X4_expect (in2 179 rfl rfl) mi_X4_expect ms_X4_expect ini_RX4 ok_X4_expect (x_recv b hE (ci := 4) rfl (by decide) t5) ⟨Nat.le_of_ble_eq_true rfl, Nat.le_of_ble_eq_true rfl⟩ rfl hl.1 rfl (k_room _ (by exact Nat.le_of_ble_eq_true rfl)) ⟨Nat.le_refl _, Nat.le_refl _⟩ dX4_likeness_13 (fun H locs hE => ?_)
  refine lv_pop b.1 b.2.1 dX4_likeness_16 rfl ?_
  refine k_aload_n (x := Option.map ad x1) b dX4_likeness_17 rfl (lv_at hl 1 rfl) ?_
  refine lv_aload_n b.1 b.2.1 dX4_likeness_18 rfl (lv_at hl 0 rfl) ?_
  obtain ⟨t9, hf⟩ := oC_s hf
  have t9 := of_decide_eq_true t9
  obtain ⟨h12, r11, hc10, hf⟩ := oB2_s hf
  refine k_callV0 (C := RX4) b zs zk hE (CX4_term l D aC ad zk hc10) mc_X4_term (in3 94 rfl rfl) mi_X4_term ms_X4_term ini_RX4 ok_X4_term (x_recv b hE (ci := 4) rfl (by decide) t9) ⟨Nat.le_of_ble_eq_true rfl, Nat.le_of_ble_eq_true rfl⟩ rfl hl.1 rfl (k_room _ (by exact Nat.le_of_ble_eq_true rfl)) ⟨Nat.le_refl _, Nat.le_refl _⟩ dX4_likeness_19 (fun H locs hE => ?_)
  obtain ⟨t13, hf⟩ := oC_s hf
  have t13 := of_decide_eq_true t13
  obtain ⟨h14, eh14, hf⟩ := oL_s hf
  refine pX4_237 (x := x1) b hE ea2 t13 eh14 dX4_likeness_22 (fun H locs hE => ?_)
  refine k_aload_n (x := Option.map ad x1) b dX4_likeness_25 rfl (lv_at hl 1 rfl) ?_
  refine lv_aload_n b.1 b.2.1 dX4_likeness_26 rfl (lv_at hl 0 rfl) ?_
  obtain ⟨t15, hf⟩ := oC_s hf
  have t15 := of_decide_eq_true t15
  obtain ⟨h18, r17, hc16, hf⟩ := oB2_s hf
  refine k_callV0 (C := RX4) b zs zk hE (CX4_term l D aC ad zk hc16) mc_X4_term (in3 94 rfl rfl) mi_X4_term ms_X4_term ini_RX4 ok_X4_term (x_recv b hE (ci := 4) rfl (by decide) t15) ⟨Nat.le_of_ble_eq_true rfl, Nat.le_of_ble_eq_true rfl⟩ rfl hl.1 rfl (k_room _ (by exact Nat.le_of_ble_eq_true rfl)) ⟨Nat.le_refl _, Nat.le_refl _⟩ dX4_likeness_27 (fun H locs hE => ?_)
  obtain ⟨t19, hf⟩ := oC_s hf
  have t19 := of_decide_eq_true t19
  obtain ⟨h20, eh20, hf⟩ := oL_s hf
  refine pX4_240 (x := x1) b hE ea2 t19 eh20 dX4_likeness_30 (fun H locs hE => ?_)
  cases hf
  exact k_vret b hlk hr hE (Nat.le_refl _) (Nat.le_refl _) dX4_likeness_33
def fX4_likeness (h : PH) (x0 : Nat) (x1 : Option Nat) : Option (PH) := fX4_likeness_0 h x0 x1
set_option maxHeartbeats 4000000 in
theorem CX4_likeness (l : Launch) (D : va_G) (aC : Nat → ClassId) (ad : Nat → Nat) {Z : State → Prop} (zk : ZOK Z (Rg ad)) {h : PH} {x0 : Nat} {x1 : Option Nat} {hz : PH} (hf : fX4_likeness h x0 x1 = some hz) : CM l D aC Z yX4_likeness cX4_likeness 2 (none) 3 65 0 0 (EX D aC ad h) [.ref (ad x0), va_rf (Option.map ad x1)] (EX D aC ad hz) none (Rg ad) := by
  refine CM.of rfl ?_
  intro p e s m below meth c b hr hlk hin2 zs hE
  cases x1 <;> (
    refine k_ent (Nat.le_of_ble_eq_true rfl) (fun ls hl => ?_)
    exact wfX4_likeness_0 b hlk hr zs zk hf hE (lv_sub hl [0, 1] rfl))
theorem dX4_knownName_0 : decode cX4_knownName 0 = .ok (.aload_n 0, 1) := by decide +kernel
theorem dX4_knownName_1 : decode cX4_knownName 1 = .ok (.getfield 155, 3) := by decide +kernel
theorem dX4_knownName_4 : decode cX4_knownName 4 = .ok (.istore_n 2, 1) := by decide +kernel
theorem dX4_knownName_5 : decode cX4_knownName 5 = .ok (.aload_n 1, 1) := by decide +kernel
theorem dX4_knownName_6 : decode cX4_knownName 6 = .ok (.aload_n 0, 1) := by decide +kernel
theorem dX4_knownName_7 : decode cX4_knownName 7 = .ok (.getfield 162, 3) := by decide +kernel
theorem dX4_knownName_10 : decode cX4_knownName 10 = .ok (.invokevirtual 176, 3) := by decide +kernel
theorem dX4_knownName_13 : decode cX4_knownName 13 = .ok (.istore_n 3, 1) := by decide +kernel
theorem dX4_knownName_14 : decode cX4_knownName 14 = .ok (.aload_n 0, 1) := by decide +kernel
theorem dX4_knownName_15 : decode cX4_knownName 15 = .ok (.sipush 260, 3) := by decide +kernel
theorem dX4_knownName_18 : decode cX4_knownName 18 = .ok (.invokevirtual 63, 3) := by decide +kernel
theorem dX4_knownName_21 : decode cX4_knownName 21 = .ok (.ifCond .eq 14, 3) := by decide +kernel
theorem dX4_knownName_24 : decode cX4_knownName 24 = .ok (.iload_n 3, 1) := by decide +kernel
theorem dX4_knownName_25 : decode cX4_knownName 25 = .ok (.iconst (-1), 1) := by decide +kernel
theorem dX4_knownName_26 : decode cX4_knownName 26 = .ok (.if_icmp .ne 9, 3) := by decide +kernel
theorem dX4_knownName_29 : decode cX4_knownName 29 = .ok (.aload_n 0, 1) := by decide +kernel
theorem dX4_knownName_30 : decode cX4_knownName 30 = .ok (.iconst 4, 1) := by decide +kernel
theorem dX4_knownName_31 : decode cX4_knownName 31 = .ok (.iload_n 2, 1) := by decide +kernel
theorem dX4_knownName_32 : decode cX4_knownName 32 = .ok (.invokevirtual 166, 3) := by decide +kernel
theorem dX4_knownName_35 : decode cX4_knownName 35 = .ok (.iload_n 3, 1) := by decide +kernel
theorem dX4_knownName_36 : decode cX4_knownName 36 = .ok (.ireturn, 1) := by decide +kernel
def fX4_knownName_0  (h : PH) (x0 : Nat) (x1 : Option Nat) : Option (PH × Int32) :=
  oC (decide (hT h x0 = 5)) (oL (hI h 522 x0) (fun y2 => oN x1 (fun a3 => oC (decide (hT h a3 = 8)) (oB (fX7_find h a3 (hL h 523 x0)) (fun r6 => oB2 (fX4_expect h x0 260) (fun h9 r8 => if r8 = 0 then (some (h9, r6)) else (if r6 = (-1) then (oC (decide (hT h9 x0 = 5)) (oB (fX4_note h9 x0 4 y2) (fun h14 => some (h14, r6)))) else (some (h9, r6)))))))))
set_option maxHeartbeats 4000000 in
theorem wfX4_knownName_0 {args : Array Value} (b : Bd p s m c cX4_knownName 4 RX4 D aC) (hlk : meth.locks = false) (hr : meth.sig.returnType = some .int) {Z : State → Prop} (zs : Z s) (zk : ZOK Z (Rg ad)) {hz : PH} {rz : Int32} {h : PH} {x0 : Nat} {x1 : Option Nat}  {H : Heap} {locs : List Loc} {ls : Array Slot} (hf : fX4_knownName_0 h x0 x1 = some (hz, rz)) (hE : CE (EX D aC ad h) (Rg ad) s H locs) (hl : lv_has ls 4 [(0, .ref (ad x0)), (1, va_rf (Option.map ad x1))]) : W p l e (RM 2 43 0 0) s m args below meth c H locs 0 0 (MQ below (PQ (EX D aC ad hz) (Rg ad) (some (.int rz))) args s 0 0 (Rg ad)) (F0 m 0 ls []) := by
  unfold fX4_knownName_0 at hf
  refine lv_aload_n b.1 b.2.1 dX4_knownName_0 rfl (lv_at hl 0 rfl) ?_
  obtain ⟨t1, hf⟩ := oC_s hf
  have t1 := of_decide_eq_true t1
  refine gX4_155 (x := (some x0)) b hE rfl t1 dX4_knownName_1 ?_
  obtain ⟨y2, ey2, hf⟩ := oL_s hf
  refine k_nmI ey2 ?_
  refine lv_istore_n (lv' := [(2, .int y2), (0, .ref (ad x0)), (1, va_rf (Option.map ad x1))]) b.1 b.2.1 dX4_knownName_4 rfl hl (by decide) (by cases x1 <;> rfl) (fun ls hl => ?_)
  refine k_aload_n (x := Option.map ad x1) b dX4_knownName_5 rfl (lv_at hl 2 rfl) ?_
  refine lv_aload_n b.1 b.2.1 dX4_knownName_6 rfl (lv_at hl 1 rfl) ?_
  refine gX4_162 (x := (some x0)) b hE rfl t1 dX4_knownName_7 ?_
  obtain ⟨a3, ea3, hf⟩ := oN_s hf
  obtain ⟨t4, hf⟩ := oC_s hf
  have t4 := of_decide_eq_true t4
  obtain ⟨r6, hc5, hf⟩ := oB_s hf
  refine k_stk [.long (hL h 523 x0)] ea3 ?_
  refine k_callV0 (C := RX7) b zs zk hE (CX7_find l D aC ad zk hc5) mc_X7_find (in2 195 rfl rfl) mi_X7_find ms_X7_find ini_RX7 ok_X7_find (x_recv b hE (ci := 7) rfl (by decide) t4) ⟨Nat.le_of_ble_eq_true rfl, Nat.le_of_ble_eq_true rfl⟩ rfl hl.1 rfl (k_room _ (by exact Nat.le_of_ble_eq_true rfl)) ⟨Nat.le_refl _, Nat.le_refl _⟩ dX4_knownName_10 (fun H locs hE => ?_)
  refine lv_istore_n (lv' := [(3, .int r6), (2, .int y2), (0, .ref (ad x0)), (1, va_rf (Option.map ad x1))]) b.1 b.2.1 dX4_knownName_13 rfl hl (by decide) rfl (fun ls hl => ?_)
  have hl := lv_sub (l' := [(3, .int r6), (2, .int y2), (0, .ref (ad x0))]) hl [0, 1, 2] rfl
  refine lv_aload_n b.1 b.2.1 dX4_knownName_14 rfl (lv_at hl 2 rfl) ?_
  refine lv_sipush (v := 260) b.1 b.2.1 dX4_knownName_15 (by decide) ?_
  obtain ⟨h9, r8, hc7, hf⟩ := oB2_s hf
  refine k_callV0 (C := RX4) b zs zk hE (CX4_expect l D aC ad zk hc7) mc_X4_expect (in2 179 rfl rfl) mi_X4_expect ms_X4_expect ini_RX4 ok_X4_expect (x_recv b hE (ci := 4) rfl (by decide) t1) ⟨Nat.le_of_ble_eq_true rfl, Nat.le_of_ble_eq_true rfl⟩ rfl hl.1 rfl (k_room _ (by exact Nat.le_of_ble_eq_true rfl)) ⟨Nat.le_refl _, Nat.le_refl _⟩ dX4_knownName_18 (fun H locs hE => ?_)
  refine lv_if_eq (tgt := 35) b.1 b.2.1 dX4_knownName_21 (by decide) (fun c10 => ?_) (fun c10 => ?_)
  · have hf := oI_t c10 hf
    refine lv_iload_n b.1 b.2.1 dX4_knownName_35 rfl (lv_at hl 0 rfl) ?_
    cases hf
    exact k_iret b hlk hr hE (Nat.le_refl _) (Nat.le_refl _) dX4_knownName_36
  · have hf := oI_f c10 hf
    refine lv_iload_n b.1 b.2.1 dX4_knownName_24 rfl (lv_at hl 0 rfl) ?_
    refine lv_iconst (v := (-1)) b.1 b.2.1 dX4_knownName_25 (by decide) ?_
    refine lv_icmp_ne (tgt := 35) b.1 b.2.1 dX4_knownName_26 (by decide) (fun c11 => ?_) (fun c11 => ?_)
    · have hf := oI_f c11 hf
      refine lv_iload_n b.1 b.2.1 dX4_knownName_35 rfl (lv_at hl 0 rfl) ?_
      cases hf
      exact k_iret b hlk hr hE (Nat.le_refl _) (Nat.le_refl _) dX4_knownName_36
    · have hf := oI_t c11 hf
      refine lv_aload_n b.1 b.2.1 dX4_knownName_29 rfl (lv_at hl 2 rfl) ?_
      refine lv_iconst (v := 4) b.1 b.2.1 dX4_knownName_30 (by decide) ?_
      refine lv_iload_n b.1 b.2.1 dX4_knownName_31 rfl (lv_at hl 1 rfl) ?_
      obtain ⟨t12, hf⟩ := oC_s hf
      have t12 := of_decide_eq_true t12
      obtain ⟨h14, hc13, hf⟩ := oB_s hf
      refine k_callV0 (C := RX4) b zs zk hE (CX4_note l D aC ad zk hc13) mc_X4_note (in2 199 rfl rfl) mi_X4_note ms_X4_note ini_RX4 ok_X4_note (x_recv b hE (ci := 4) rfl (by decide) t12) ⟨Nat.le_of_ble_eq_true rfl, Nat.le_of_ble_eq_true rfl⟩ rfl hl.1 rfl (k_room _ (by exact Nat.le_of_ble_eq_true rfl)) ⟨Nat.le_refl _, Nat.le_refl _⟩ dX4_knownName_32 (fun H locs hE => ?_)
      refine lv_iload_n b.1 b.2.1 dX4_knownName_35 rfl (lv_at hl 0 rfl) ?_
      cases hf
      exact k_iret b hlk hr hE (Nat.le_refl _) (Nat.le_refl _) dX4_knownName_36
def fX4_knownName (h : PH) (x0 : Nat) (x1 : Option Nat) : Option (PH × Int32) := fX4_knownName_0 h x0 x1
set_option maxHeartbeats 4000000 in
theorem CX4_knownName (l : Launch) (D : va_G) (aC : Nat → ClassId) (ad : Nat → Nat) {Z : State → Prop} (zk : ZOK Z (Rg ad)) {h : PH} {x0 : Nat} {x1 : Option Nat} {hz : PH} {rz : Int32} (hf : fX4_knownName h x0 x1 = some (hz, rz)) : CM l D aC Z yX4_knownName cX4_knownName 4 (some .int) 2 43 0 0 (EX D aC ad h) [.ref (ad x0), va_rf (Option.map ad x1)] (EX D aC ad hz) (some (.int rz)) (Rg ad) := by
  refine CM.of rfl ?_
  intro p e s m below meth c b hr hlk hin2 zs hE
  cases x1 <;> (
    refine k_ent (Nat.le_of_ble_eq_true rfl) (fun ls hl => ?_)
    exact wfX4_knownName_0 b hlk hr zs zk hf hE (lv_sub hl [0, 1] rfl))
end
