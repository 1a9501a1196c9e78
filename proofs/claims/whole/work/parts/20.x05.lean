section
variable {p : Program} {l : Launch} {e : Env} {s : State} {m : MethodId} {below : List Frame} {meth : Method} {c : Code} {D : va_G} {aC : Nat → ClassId} {ad : Nat → Nat}
theorem dX10_nextSign_0 : decode cX10_nextSign 0 = .ok (.aload_n 0, 1) := by decide +kernel
theorem dX10_nextSign_1 : decode cX10_nextSign 1 = .ok (.getfield 37, 3) := by decide +kernel
theorem dX10_nextSign_4 : decode cX10_nextSign 4 = .ok (.aload_n 0, 1) := by decide +kernel
theorem dX10_nextSign_5 : decode cX10_nextSign 5 = .ok (.getfield 41, 3) := by decide +kernel
theorem dX10_nextSign_8 : decode cX10_nextSign 8 = .ok (.invokevirtual 69, 3) := by decide +kernel
theorem dX10_nextSign_11 : decode cX10_nextSign 11 = .ok (.istore_n 2, 1) := by decide +kernel
theorem dX10_nextSign_12 : decode cX10_nextSign 12 = .ok (.iload_n 1, 1) := by decide +kernel
theorem dX10_nextSign_13 : decode cX10_nextSign 13 = .ok (.iload_n 2, 1) := by decide +kernel
theorem dX10_nextSign_14 : decode cX10_nextSign 14 = .ok (.invokestatic 95, 3) := by decide +kernel
theorem dX10_nextSign_17 : decode cX10_nextSign 17 = .ok (.istore_n 3, 1) := by decide +kernel
theorem dX10_nextSign_18 : decode cX10_nextSign 18 = .ok (.iload_n 3, 1) := by decide +kernel
theorem dX10_nextSign_19 : decode cX10_nextSign 19 = .ok (.sipush 264, 3) := by decide +kernel
theorem dX10_nextSign_22 : decode cX10_nextSign 22 = .ok (.if_icmp .eq 15, 3) := by decide +kernel
theorem dX10_nextSign_25 : decode cX10_nextSign 25 = .ok (.aload_n 0, 1) := by decide +kernel
theorem dX10_nextSign_26 : decode cX10_nextSign 26 = .ok (.dup, 1) := by decide +kernel
theorem dX10_nextSign_27 : decode cX10_nextSign 27 = .ok (.getfield 41, 3) := by decide +kernel
theorem dX10_nextSign_30 : decode cX10_nextSign 30 = .ok (.iconst 1, 1) := by decide +kernel
theorem dX10_nextSign_31 : decode cX10_nextSign 31 = .ok (.iadd, 1) := by decide +kernel
theorem dX10_nextSign_32 : decode cX10_nextSign 32 = .ok (.putfield 41, 3) := by decide +kernel
theorem dX10_nextSign_35 : decode cX10_nextSign 35 = .ok (.iload_n 3, 1) := by decide +kernel
theorem dX10_nextSign_36 : decode cX10_nextSign 36 = .ok (.ireturn, 1) := by decide +kernel
theorem dX10_nextSign_37 : decode cX10_nextSign 37 = .ok (.iload_n 1, 1) := by decide +kernel
theorem dX10_nextSign_38 : decode cX10_nextSign 38 = .ok (.tableswitch 100 40 60 #[98, 98, 98, 98, 98, 98, 98, 98, 100, 100, 100, 100, 100, 100, 100, 100, 100, 100, 98, 98, 98], 98) := by decide +kernel
theorem dX10_nextSign_136 : decode cX10_nextSign 136 = .ok (.iload_n 1, 1) := by decide +kernel
theorem dX10_nextSign_137 : decode cX10_nextSign 137 = .ok (.ireturn, 1) := by decide +kernel
theorem dX10_nextSign_138 : decode cX10_nextSign 138 = .ok (.sipush 264, 3) := by decide +kernel
theorem dX10_nextSign_141 : decode cX10_nextSign 141 = .ok (.ireturn, 1) := by decide +kernel
def fX10_nextSign_0  (h : PH) (x0 : Nat) (x1 : Int32) : Option (PH × Int32) :=
  oC (decide (hT h x0 = 11)) (oN (hR h 1285 x0) (fun a2 => oC (decide (hT h a2 = 1)) (oB (fX0_byteAt h a2 (hI h 1286 x0)) (fun r5 => oB (fX10_signOfTwo x1 r5) (fun r7 => if r7 = 264 then (if x1 = 40 then (some (h, x1)) else (if x1 = 41 then (some (h, x1)) else (if x1 = 42 then (some (h, x1)) else (if x1 = 43 then (some (h, x1)) else (if x1 = 44 then (some (h, x1)) else (if x1 = 45 then (some (h, x1)) else (if x1 = 46 then (some (h, x1)) else (if x1 = 47 then (some (h, x1)) else (if x1 = 48 then (some (h, 264)) else (if x1 = 49 then (some (h, 264)) else (if x1 = 50 then (some (h, 264)) else (if x1 = 51 then (some (h, 264)) else (if x1 = 52 then (some (h, 264)) else (if x1 = 53 then (some (h, 264)) else (if x1 = 54 then (some (h, 264)) else (if x1 = 55 then (some (h, 264)) else (if x1 = 56 then (some (h, 264)) else (if x1 = 57 then (some (h, 264)) else (if x1 = 58 then (some (h, x1)) else (if x1 = 59 then (some (h, x1)) else (if x1 = 60 then (some (h, x1)) else (some (h, 264))))))))))))))))))))))) else (oL (sI h 1286 x0 ((hI h 1286 x0) + 1)) (fun h30 => some (h30, r7))))))))
set_option maxHeartbeats 4000000 in
theorem wfX10_nextSign_0 {args : Array Value} (b : Bd p s m c cX10_nextSign 4 RX10 D aC) (hlk : meth.locks = false) (hr : meth.sig.returnType = some .int) {Z : State → Prop} (zs : Z s) (zk : ZOK Z (Rg ad)) {hz : PH} {rz : Int32} {h : PH} {x0 : Nat} {x1 : Int32}  {H : Heap} {locs : List Loc} {ls : Array Slot} (hf : fX10_nextSign_0 h x0 x1 = some (hz, rz)) (hE : CE (EX D aC ad h) (Rg ad) s H locs) (hl : lv_has ls 4 [(0, .ref (ad x0)), (1, .int x1)]) : W p l e (RM 1 21 0 0) s m args below meth c H locs 0 0 (MQ below (PQ (EX D aC ad hz) (Rg ad) (some (.int rz))) args s 0 0 (Rg ad)) (F0 m 0 ls []) := by
  unfold fX10_nextSign_0 at hf
  refine lv_aload_n b.1 b.2.1 dX10_nextSign_0 rfl (lv_at hl 0 rfl) ?_
  obtain ⟨t1, hf⟩ := oC_s hf
  have t1 := of_decide_eq_true t1
  refine gX10_37 (x := (some x0)) b hE rfl t1 dX10_nextSign_1 ?_
  refine lv_aload_n b.1 b.2.1 dX10_nextSign_4 rfl (lv_at hl 0 rfl) ?_
  refine gX10_41 (x := (some x0)) b hE rfl t1 dX10_nextSign_5 ?_
  obtain ⟨a2, ea2, hf⟩ := oN_s hf
  obtain ⟨t3, hf⟩ := oC_s hf
  have t3 := of_decide_eq_true t3
  obtain ⟨r5, hc4, hf⟩ := oB_s hf
  refine k_stk [.int (hI h 1286 x0)] ea2 ?_
  refine k_callV0 (C := RX0) b zs zk hE (CX0_byteAt l D aC ad zk hc4) mc_X0_byteAt (in2 129 rfl rfl) mi_X0_byteAt ms_X0_byteAt ini_RX0 ok_X0_byteAt (x_recv b hE (ci := 0) rfl (by decide) t3) ⟨Nat.le_of_ble_eq_true rfl, Nat.le_of_ble_eq_true rfl⟩ rfl hl.1 rfl (k_room _ (by exact Nat.le_of_ble_eq_true rfl)) ⟨Nat.le_refl _, Nat.le_refl _⟩ dX10_nextSign_8 (fun H locs hE => ?_)
  refine lv_istore_n (lv' := [(2, .int r5), (0, .ref (ad x0)), (1, .int x1)]) b.1 b.2.1 dX10_nextSign_11 rfl hl (by decide) rfl (fun ls hl => ?_)
  refine lv_iload_n b.1 b.2.1 dX10_nextSign_12 rfl (lv_at hl 2 rfl) ?_
  refine lv_iload_n b.1 b.2.1 dX10_nextSign_13 rfl (lv_at hl 0 rfl) ?_
  obtain ⟨r7, hc6, hf⟩ := oB_s hf
  refine k_callS0 b zs zk hE (CX10_signOfTwo l D aC zk hc6) mc_X10_signOfTwo (in2 160 rfl rfl) mt_X10_signOfTwo ini_RX10 ok_X10_signOfTwo ⟨Nat.le_of_ble_eq_true rfl, Nat.le_of_ble_eq_true rfl⟩ rfl hl.1 rfl (k_room _ (by exact Nat.le_of_ble_eq_true rfl)) ⟨Nat.le_refl _, Nat.le_refl _⟩ dX10_nextSign_14 (fun H locs hE => ?_)
  refine lv_istore_n (lv' := [(3, .int r7), (2, .int r5), (0, .ref (ad x0)), (1, .int x1)]) b.1 b.2.1 dX10_nextSign_17 rfl hl (by decide) rfl (fun ls hl => ?_)
  have hl := lv_sub (l' := [(3, .int r7), (0, .ref (ad x0)), (1, .int x1)]) hl [0, 2, 3] rfl
  refine lv_iload_n b.1 b.2.1 dX10_nextSign_18 rfl (lv_at hl 0 rfl) ?_
  refine lv_sipush (v := 264) b.1 b.2.1 dX10_nextSign_19 (by decide) ?_
  refine lv_icmp_eq (tgt := 37) b.1 b.2.1 dX10_nextSign_22 (by decide) (fun c8 => ?_) (fun c8 => ?_)
  · have hf := oI_t c8 hf
    refine lv_iload_n b.1 b.2.1 dX10_nextSign_37 rfl (lv_at hl 2 rfl) ?_
    rcases Decidable.em (x1 = 40) with c9 | c9
    · have hf := oI_t c9 hf
      refine lv_tableIn (tgt := 136) b.1 b.2.1 dX10_nextSign_38 (off := 98) (by rw [c9]; decide) (by rw [c9]; decide) (by rw [c9] <;> rfl) (by decide) ?_
      refine lv_iload_n b.1 b.2.1 dX10_nextSign_136 rfl (lv_at hl 2 rfl) ?_
      cases hf
      exact k_iret b hlk hr hE (Nat.le_refl _) (Nat.le_refl _) dX10_nextSign_137
    have hf := oI_f c9 hf
    rcases Decidable.em (x1 = 41) with c10 | c10
    · have hf := oI_t c10 hf
      refine lv_tableIn (tgt := 136) b.1 b.2.1 dX10_nextSign_38 (off := 98) (by rw [c10]; decide) (by rw [c10]; decide) (by rw [c10] <;> rfl) (by decide) ?_
      refine lv_iload_n b.1 b.2.1 dX10_nextSign_136 rfl (lv_at hl 2 rfl) ?_
      cases hf
      exact k_iret b hlk hr hE (Nat.le_refl _) (Nat.le_refl _) dX10_nextSign_137
    have hf := oI_f c10 hf
    rcases Decidable.em (x1 = 42) with c11 | c11
    · have hf := oI_t c11 hf
      refine lv_tableIn (tgt := 136) b.1 b.2.1 dX10_nextSign_38 (off := 98) (by rw [c11]; decide) (by rw [c11]; decide) (by rw [c11] <;> rfl) (by decide) ?_
      refine lv_iload_n b.1 b.2.1 dX10_nextSign_136 rfl (lv_at hl 2 rfl) ?_
      cases hf
      exact k_iret b hlk hr hE (Nat.le_refl _) (Nat.le_refl _) dX10_nextSign_137
    have hf := oI_f c11 hf
    rcases Decidable.em (x1 = 43) with c12 | c12
    · have hf := oI_t c12 hf
      refine lv_tableIn (tgt := 136) b.1 b.2.1 dX10_nextSign_38 (off := 98) (by rw [c12]; decide) (by rw [c12]; decide) (by rw [c12] <;> rfl) (by decide) ?_
      refine lv_iload_n b.1 b.2.1 dX10_nextSign_136 rfl (lv_at hl 2 rfl) ?_
      cases hf
      exact k_iret b hlk hr hE (Nat.le_refl _) (Nat.le_refl _) dX10_nextSign_137
    have hf := oI_f c12 hf
    rcases Decidable.em (x1 = 44) with c13 | c13
    · have hf := oI_t c13 hf
      refine lv_tableIn (tgt := 136) b.1 b.2.1 dX10_nextSign_38 (off := 98) (by rw [c13]; decide) (by rw [c13]; decide) (by rw [c13] <;> rfl) (by decide) ?_
      refine lv_iload_n b.1 b.2.1 dX10_nextSign_136 rfl (lv_at hl 2 rfl) ?_
      cases hf
      exact k_iret b hlk hr hE (Nat.le_refl _) (Nat.le_refl _) dX10_nextSign_137
    have hf := oI_f c13 hf
    rcases Decidable.em (x1 = 45) with c14 | c14
    · have hf := oI_t c14 hf
      refine lv_tableIn (tgt := 136) b.1 b.2.1 dX10_nextSign_38 (off := 98) (by rw [c14]; decide) (by rw [c14]; decide) (by rw [c14] <;> rfl) (by decide) ?_
      refine lv_iload_n b.1 b.2.1 dX10_nextSign_136 rfl (lv_at hl 2 rfl) ?_
      cases hf
      exact k_iret b hlk hr hE (Nat.le_refl _) (Nat.le_refl _) dX10_nextSign_137
    have hf := oI_f c14 hf
    rcases Decidable.em (x1 = 46) with c15 | c15
    · have hf := oI_t c15 hf
      refine lv_tableIn (tgt := 136) b.1 b.2.1 dX10_nextSign_38 (off := 98) (by rw [c15]; decide) (by rw [c15]; decide) (by rw [c15] <;> rfl) (by decide) ?_
      refine lv_iload_n b.1 b.2.1 dX10_nextSign_136 rfl (lv_at hl 2 rfl) ?_
      cases hf
      exact k_iret b hlk hr hE (Nat.le_refl _) (Nat.le_refl _) dX10_nextSign_137
    have hf := oI_f c15 hf
    rcases Decidable.em (x1 = 47) with c16 | c16
    · have hf := oI_t c16 hf
      refine lv_tableIn (tgt := 136) b.1 b.2.1 dX10_nextSign_38 (off := 98) (by rw [c16]; decide) (by rw [c16]; decide) (by rw [c16] <;> rfl) (by decide) ?_
      refine lv_iload_n b.1 b.2.1 dX10_nextSign_136 rfl (lv_at hl 2 rfl) ?_
      cases hf
      exact k_iret b hlk hr hE (Nat.le_refl _) (Nat.le_refl _) dX10_nextSign_137
    have hf := oI_f c16 hf
    rcases Decidable.em (x1 = 48) with c17 | c17
    · have hf := oI_t c17 hf
      refine lv_tableIn (tgt := 138) b.1 b.2.1 dX10_nextSign_38 (off := 100) (by rw [c17]; decide) (by rw [c17]; decide) (by rw [c17] <;> rfl) (by decide) ?_
      refine lv_sipush (v := 264) b.1 b.2.1 dX10_nextSign_138 (by decide) ?_
      cases hf
      exact k_iret b hlk hr hE (Nat.le_refl _) (Nat.le_refl _) dX10_nextSign_141
    have hf := oI_f c17 hf
    rcases Decidable.em (x1 = 49) with c18 | c18
    · have hf := oI_t c18 hf
      refine lv_tableIn (tgt := 138) b.1 b.2.1 dX10_nextSign_38 (off := 100) (by rw [c18]; decide) (by rw [c18]; decide) (by rw [c18] <;> rfl) (by decide) ?_
      refine lv_sipush (v := 264) b.1 b.2.1 dX10_nextSign_138 (by decide) ?_
      cases hf
      exact k_iret b hlk hr hE (Nat.le_refl _) (Nat.le_refl _) dX10_nextSign_141
    have hf := oI_f c18 hf
    rcases Decidable.em (x1 = 50) with c19 | c19
    · have hf := oI_t c19 hf
      refine lv_tableIn (tgt := 138) b.1 b.2.1 dX10_nextSign_38 (off := 100) (by rw [c19]; decide) (by rw [c19]; decide) (by rw [c19] <;> rfl) (by decide) ?_
      refine lv_sipush (v := 264) b.1 b.2.1 dX10_nextSign_138 (by decide) ?_
      cases hf
      exact k_iret b hlk hr hE (Nat.le_refl _) (Nat.le_refl _) dX10_nextSign_141
    have hf := oI_f c19 hf
    rcases Decidable.em (x1 = 51) with c20 | c20
    · have hf := oI_t c20 hf
      refine lv_tableIn (tgt := 138) b.1 b.2.1 dX10_nextSign_38 (off := 100) (by rw [c20]; decide) (by rw [c20]; decide) (by rw [c20] <;> rfl) (by decide) ?_
      refine lv_sipush (v := 264) b.1 b.2.1 dX10_nextSign_138 (by decide) ?_
      cases hf
      exact k_iret b hlk hr hE (Nat.le_refl _) (Nat.le_refl _) dX10_nextSign_141
    have hf := oI_f c20 hf
    rcases Decidable.em (x1 = 52) with c21 | c21
    · have hf := oI_t c21 hf
      refine lv_tableIn (tgt := 138) b.1 b.2.1 dX10_nextSign_38 (off := 100) (by rw [c21]; decide) (by rw [c21]; decide) (by rw [c21] <;> rfl) (by decide) ?_
      refine lv_sipush (v := 264) b.1 b.2.1 dX10_nextSign_138 (by decide) ?_
      cases hf
      exact k_iret b hlk hr hE (Nat.le_refl _) (Nat.le_refl _) dX10_nextSign_141
    have hf := oI_f c21 hf
    rcases Decidable.em (x1 = 53) with c22 | c22
    · have hf := oI_t c22 hf
      refine lv_tableIn (tgt := 138) b.1 b.2.1 dX10_nextSign_38 (off := 100) (by rw [c22]; decide) (by rw [c22]; decide) (by rw [c22] <;> rfl) (by decide) ?_
      refine lv_sipush (v := 264) b.1 b.2.1 dX10_nextSign_138 (by decide) ?_
      cases hf
      exact k_iret b hlk hr hE (Nat.le_refl _) (Nat.le_refl _) dX10_nextSign_141
    have hf := oI_f c22 hf
    rcases Decidable.em (x1 = 54) with c23 | c23
    · have hf := oI_t c23 hf
      refine lv_tableIn (tgt := 138) b.1 b.2.1 dX10_nextSign_38 (off := 100) (by rw [c23]; decide) (by rw [c23]; decide) (by rw [c23] <;> rfl) (by decide) ?_
      refine lv_sipush (v := 264) b.1 b.2.1 dX10_nextSign_138 (by decide) ?_
      cases hf
      exact k_iret b hlk hr hE (Nat.le_refl _) (Nat.le_refl _) dX10_nextSign_141
    have hf := oI_f c23 hf
    rcases Decidable.em (x1 = 55) with c24 | c24
    · have hf := oI_t c24 hf
      refine lv_tableIn (tgt := 138) b.1 b.2.1 dX10_nextSign_38 (off := 100) (by rw [c24]; decide) (by rw [c24]; decide) (by rw [c24] <;> rfl) (by decide) ?_
      refine lv_sipush (v := 264) b.1 b.2.1 dX10_nextSign_138 (by decide) ?_
      cases hf
      exact k_iret b hlk hr hE (Nat.le_refl _) (Nat.le_refl _) dX10_nextSign_141
    have hf := oI_f c24 hf
    rcases Decidable.em (x1 = 56) with c25 | c25
    · have hf := oI_t c25 hf
      refine lv_tableIn (tgt := 138) b.1 b.2.1 dX10_nextSign_38 (off := 100) (by rw [c25]; decide) (by rw [c25]; decide) (by rw [c25] <;> rfl) (by decide) ?_
      refine lv_sipush (v := 264) b.1 b.2.1 dX10_nextSign_138 (by decide) ?_
      cases hf
      exact k_iret b hlk hr hE (Nat.le_refl _) (Nat.le_refl _) dX10_nextSign_141
    have hf := oI_f c25 hf
    rcases Decidable.em (x1 = 57) with c26 | c26
    · have hf := oI_t c26 hf
      refine lv_tableIn (tgt := 138) b.1 b.2.1 dX10_nextSign_38 (off := 100) (by rw [c26]; decide) (by rw [c26]; decide) (by rw [c26] <;> rfl) (by decide) ?_
      refine lv_sipush (v := 264) b.1 b.2.1 dX10_nextSign_138 (by decide) ?_
      cases hf
      exact k_iret b hlk hr hE (Nat.le_refl _) (Nat.le_refl _) dX10_nextSign_141
    have hf := oI_f c26 hf
    rcases Decidable.em (x1 = 58) with c27 | c27
    · have hf := oI_t c27 hf
      refine lv_tableIn (tgt := 136) b.1 b.2.1 dX10_nextSign_38 (off := 98) (by rw [c27]; decide) (by rw [c27]; decide) (by rw [c27] <;> rfl) (by decide) ?_
      refine lv_iload_n b.1 b.2.1 dX10_nextSign_136 rfl (lv_at hl 2 rfl) ?_
      cases hf
      exact k_iret b hlk hr hE (Nat.le_refl _) (Nat.le_refl _) dX10_nextSign_137
    have hf := oI_f c27 hf
    rcases Decidable.em (x1 = 59) with c28 | c28
    · have hf := oI_t c28 hf
      refine lv_tableIn (tgt := 136) b.1 b.2.1 dX10_nextSign_38 (off := 98) (by rw [c28]; decide) (by rw [c28]; decide) (by rw [c28] <;> rfl) (by decide) ?_
      refine lv_iload_n b.1 b.2.1 dX10_nextSign_136 rfl (lv_at hl 2 rfl) ?_
      cases hf
      exact k_iret b hlk hr hE (Nat.le_refl _) (Nat.le_refl _) dX10_nextSign_137
    have hf := oI_f c28 hf
    rcases Decidable.em (x1 = 60) with c29 | c29
    · have hf := oI_t c29 hf
      refine lv_tableIn (tgt := 136) b.1 b.2.1 dX10_nextSign_38 (off := 98) (by rw [c29]; decide) (by rw [c29]; decide) (by rw [c29] <;> rfl) (by decide) ?_
      refine lv_iload_n b.1 b.2.1 dX10_nextSign_136 rfl (lv_at hl 2 rfl) ?_
      cases hf
      exact k_iret b hlk hr hE (Nat.le_refl _) (Nat.le_refl _) dX10_nextSign_137
    have hf := oI_f c29 hf
    have c9 := lv_neT (a := 40) c9 (by decide)
    have c10 := lv_neT (a := 41) c10 (by decide)
    have c11 := lv_neT (a := 42) c11 (by decide)
    have c12 := lv_neT (a := 43) c12 (by decide)
    have c13 := lv_neT (a := 44) c13 (by decide)
    have c14 := lv_neT (a := 45) c14 (by decide)
    have c15 := lv_neT (a := 46) c15 (by decide)
    have c16 := lv_neT (a := 47) c16 (by decide)
    have c17 := lv_neT (a := 48) c17 (by decide)
    have c18 := lv_neT (a := 49) c18 (by decide)
    have c19 := lv_neT (a := 50) c19 (by decide)
    have c20 := lv_neT (a := 51) c20 (by decide)
    have c21 := lv_neT (a := 52) c21 (by decide)
    have c22 := lv_neT (a := 53) c22 (by decide)
    have c23 := lv_neT (a := 54) c23 (by decide)
    have c24 := lv_neT (a := 55) c24 (by decide)
    have c25 := lv_neT (a := 56) c25 (by decide)
    have c26 := lv_neT (a := 57) c26 (by decide)
    have c27 := lv_neT (a := 58) c27 (by decide)
    have c28 := lv_neT (a := 59) c28 (by decide)
    have c29 := lv_neT (a := 60) c29 (by decide)
    refine lv_tableOut (tgt := 138) b.1 b.2.1 dX10_nextSign_38 (by omega) (by decide) ?_
    refine lv_sipush (v := 264) b.1 b.2.1 dX10_nextSign_138 (by decide) ?_
    cases hf
    exact k_iret b hlk hr hE (Nat.le_refl _) (Nat.le_refl _) dX10_nextSign_141
  · have hf := oI_f c8 hf
    refine lv_aload_n b.1 b.2.1 dX10_nextSign_25 rfl (lv_at hl 1 rfl) ?_
    refine lv_dup b.1 b.2.1 dX10_nextSign_26 rfl ?_
    refine gX10_41 (x := (some x0)) b hE rfl t1 dX10_nextSign_27 ?_
    refine lv_iconst (v := 1) b.1 b.2.1 dX10_nextSign_30 (by decide) ?_
    refine lv_iadd b.1 b.2.1 dX10_nextSign_31 ?_
    obtain ⟨h30, eh30, hf⟩ := oL_s hf
    refine pX10_41 (x := (some x0)) b hE rfl t1 eh30 dX10_nextSign_32 (fun H locs hE => ?_)
    refine lv_iload_n b.1 b.2.1 dX10_nextSign_35 rfl (lv_at hl 0 rfl) ?_
    cases hf
    exact k_iret b hlk hr hE (Nat.le_refl _) (Nat.le_refl _) dX10_nextSign_36
def fX10_nextSign (h : PH) (x0 : Nat) (x1 : Int32) : Option (PH × Int32) := fX10_nextSign_0 h x0 x1
set_option maxHeartbeats 4000000 in
theorem CX10_nextSign (l : Launch) (D : va_G) (aC : Nat → ClassId) (ad : Nat → Nat) {Z : State → Prop} (zk : ZOK Z (Rg ad)) {h : PH} {x0 : Nat} {x1 : Int32} {hz : PH} {rz : Int32} (hf : fX10_nextSign h x0 x1 = some (hz, rz)) : CM l D aC Z yX10_nextSign cX10_nextSign 4 (some .int) 1 21 0 0 (EX D aC ad h) [.ref (ad x0), .int x1] (EX D aC ad hz) (some (.int rz)) (Rg ad) := by
  refine CM.of rfl ?_
  intro p e s m below meth c b hr hlk hin2 zs hE
  refine k_ent (Nat.le_of_ble_eq_true rfl) (fun ls hl => ?_)
  exact wfX10_nextSign_0 b hlk hr zs zk hf hE (lv_sub hl [0, 1] rfl)
theorem dX10_next_0 : decode cX10_next 0 = .ok (.aload_n 0, 1) := by decide +kernel
theorem dX10_next_1 : decode cX10_next 1 = .ok (.getfield 37, 3) := by decide +kernel
theorem dX10_next_4 : decode cX10_next 4 = .ok (.aload_n 0, 1) := by decide +kernel
theorem dX10_next_5 : decode cX10_next 5 = .ok (.getfield 41, 3) := by decide +kernel
theorem dX10_next_8 : decode cX10_next 8 = .ok (.invokevirtual 69, 3) := by decide +kernel
theorem dX10_next_11 : decode cX10_next 11 = .ok (.istore_n 2, 1) := by decide +kernel
theorem dX10_next_12 : decode cX10_next 12 = .ok (.iload_n 2, 1) := by decide +kernel
theorem dX10_next_13 : decode cX10_next 13 = .ok (.iconst (-1), 1) := by decide +kernel
theorem dX10_next_14 : decode cX10_next 14 = .ok (.if_icmp .ne 7, 3) := by decide +kernel
theorem dX10_next_17 : decode cX10_next 17 = .ok (.sipush 263, 3) := by decide +kernel
theorem dX10_next_20 : decode cX10_next 20 = .ok (.ireturn, 1) := by decide +kernel
theorem dX10_next_21 : decode cX10_next 21 = .ok (.iload_n 2, 1) := by decide +kernel
theorem dX10_next_22 : decode cX10_next 22 = .ok (.invokestatic 76, 3) := by decide +kernel
theorem dX10_next_25 : decode cX10_next 25 = .ok (.ifCond .eq 9, 3) := by decide +kernel
theorem dX10_next_28 : decode cX10_next 28 = .ok (.aload_n 0, 1) := by decide +kernel
theorem dX10_next_29 : decode cX10_next 29 = .ok (.iload_n 1, 1) := by decide +kernel
theorem dX10_next_30 : decode cX10_next 30 = .ok (.invokevirtual 79, 3) := by decide +kernel
theorem dX10_next_33 : decode cX10_next 33 = .ok (.ireturn, 1) := by decide +kernel
theorem dX10_next_34 : decode cX10_next 34 = .ok (.iload_n 2, 1) := by decide +kernel
theorem dX10_next_35 : decode cX10_next 35 = .ok (.invokestatic 82, 3) := by decide +kernel
theorem dX10_next_38 : decode cX10_next 38 = .ok (.ifCond .eq 9, 3) := by decide +kernel
theorem dX10_next_41 : decode cX10_next 41 = .ok (.aload_n 0, 1) := by decide +kernel
theorem dX10_next_42 : decode cX10_next 42 = .ok (.iload_n 1, 1) := by decide +kernel
theorem dX10_next_43 : decode cX10_next 43 = .ok (.invokevirtual 85, 3) := by decide +kernel
theorem dX10_next_46 : decode cX10_next 46 = .ok (.ireturn, 1) := by decide +kernel
theorem dX10_next_47 : decode cX10_next 47 = .ok (.aload_n 0, 1) := by decide +kernel
theorem dX10_next_48 : decode cX10_next 48 = .ok (.dup, 1) := by decide +kernel
theorem dX10_next_49 : decode cX10_next 49 = .ok (.getfield 41, 3) := by decide +kernel
theorem dX10_next_52 : decode cX10_next 52 = .ok (.iconst 1, 1) := by decide +kernel
theorem dX10_next_53 : decode cX10_next 53 = .ok (.iadd, 1) := by decide +kernel
theorem dX10_next_54 : decode cX10_next 54 = .ok (.putfield 41, 3) := by decide +kernel
theorem dX10_next_57 : decode cX10_next 57 = .ok (.iload_n 2, 1) := by decide +kernel
theorem dX10_next_58 : decode cX10_next 58 = .ok (.bipush 65, 2) := by decide +kernel
theorem dX10_next_60 : decode cX10_next 60 = .ok (.if_icmp .lt 21, 3) := by decide +kernel
theorem dX10_next_63 : decode cX10_next 63 = .ok (.iload_n 2, 1) := by decide +kernel
theorem dX10_next_64 : decode cX10_next 64 = .ok (.bipush 90, 2) := by decide +kernel
theorem dX10_next_66 : decode cX10_next 66 = .ok (.if_icmp .gt 15, 3) := by decide +kernel
theorem dX10_next_69 : decode cX10_next 69 = .ok (.aload_n 0, 1) := by decide +kernel
theorem dX10_next_70 : decode cX10_next 70 = .ok (.getfield 22, 3) := by decide +kernel
theorem dX10_next_73 : decode cX10_next 73 = .ok (.iload_n 1, 1) := by decide +kernel
theorem dX10_next_74 : decode cX10_next 74 = .ok (.iload_n 2, 1) := by decide +kernel
theorem dX10_next_75 : decode cX10_next 75 = .ok (.i2l, 1) := by decide +kernel
theorem dX10_next_76 : decode cX10_next 76 = .ok (.lastore, 1) := by decide +kernel
theorem dX10_next_77 : decode cX10_next 77 = .ok (.sipush 261, 3) := by decide +kernel
theorem dX10_next_80 : decode cX10_next 80 = .ok (.ireturn, 1) := by decide +kernel
theorem dX10_next_81 : decode cX10_next 81 = .ok (.aload_n 0, 1) := by decide +kernel
theorem dX10_next_82 : decode cX10_next 82 = .ok (.iload_n 2, 1) := by decide +kernel
theorem dX10_next_83 : decode cX10_next 83 = .ok (.invokevirtual 88, 3) := by decide +kernel
theorem dX10_next_86 : decode cX10_next 86 = .ok (.ireturn, 1) := by decide +kernel
def fX10_next_81  (h : PH) (x0 : Nat) (x2 : Int32) : Option (PH × Int32) :=
  oC (decide (hT h x0 = 11)) (oB2 (fX10_nextSign h x0 x2) (fun h4 r3 => some (h4, r3)))
set_option maxHeartbeats 4000000 in
theorem wfX10_next_81 {args : Array Value} (b : Bd p s m c cX10_next 3 RX10 D aC) (hlk : meth.locks = false) (hr : meth.sig.returnType = some .int) {Z : State → Prop} (zs : Z s) (zk : ZOK Z (Rg ad)) {hz : PH} {rz : Int32} {h : PH} {x0 : Nat} {x2 : Int32}  {H : Heap} {locs : List Loc} {ls : Array Slot} (hf : fX10_next_81 h x0 x2 = some (hz, rz)) (hE : CE (EX D aC ad h) (Rg ad) s H locs) (hl : lv_has ls 3 [(0, .ref (ad x0)), (2, .int x2)]) : W p l e (RM 2 46 0 0) s m args below meth c H locs 0 0 (MQ below (PQ (EX D aC ad hz) (Rg ad) (some (.int rz))) args s 0 0 (Rg ad)) (F0 m 81 ls []) := by
  unfold fX10_next_81 at hf
  refine lv_aload_n b.1 b.2.1 dX10_next_81 rfl (lv_at hl 0 rfl) ?_
  refine lv_iload_n b.1 b.2.1 dX10_next_82 rfl (lv_at hl 1 rfl) ?_
  obtain ⟨t1, hf⟩ := oC_s hf
  have t1 := of_decide_eq_true t1
  obtain ⟨h4, r3, hc2, hf⟩ := oB2_s hf
  refine k_callV0 (C := RX10) b zs zk hE (CX10_nextSign l D aC ad zk hc2) mc_X10_nextSign (in2 156 rfl rfl) mi_X10_nextSign ms_X10_nextSign ini_RX10 ok_X10_nextSign (x_recv b hE (ci := 10) rfl (by decide) t1) ⟨Nat.le_of_ble_eq_true rfl, Nat.le_of_ble_eq_true rfl⟩ rfl hl.1 rfl (k_room _ (by exact Nat.le_of_ble_eq_true rfl)) ⟨Nat.le_refl _, Nat.le_refl _⟩ dX10_next_83 (fun H locs hE => ?_)
  cases hf
  exact k_iret b hlk hr hE (Nat.le_refl _) (Nat.le_refl _) dX10_next_86
def fX10_next_0  (h : PH) (x0 : Nat) (x1 : Int32) : Option (PH × Int32) :=
  oC (decide (hT h x0 = 11)) (oN (hR h 1285 x0) (fun a6 => oC (decide (hT h a6 = 1)) (oB (fX0_byteAt h a6 (hI h 1286 x0)) (fun r9 => if r9 = (-1) then (some (h, 263)) else (oB (fX10_isSmall r9) (fun r12 => if r12 = 0 then (oB (fX10_isDigit r9) (fun r15 => if r15 = 0 then (oL (sI h 1286 x0 ((hI h 1286 x0) + 1)) (fun h17 => if r9 < 65 then (fX10_next_81  h17 x0 r9) else (if 90 < r9 then (fX10_next_81  h17 x0 r9) else (oN (hR h17 1283 x0) (fun a21 => oC (decide (hT h17 a21 = 102)) (oC (ix x1 (hN h17 a21)) (oL (sB h17 a21 (Int32.toNatClampNeg x1) (Int32.toInt64 r9)) (fun h24 => some (h24, 261))))))))) else (oB2 (fX10_nextInteger h x0 x1) (fun h27 r26 => some (h27, r26))))) else (oB2 (fX10_nextName h x0 x1) (fun h30 r29 => some (h30, r29)))))))))
set_option maxHeartbeats 4000000 in
theorem wfX10_next_0 {args : Array Value} (b : Bd p s m c cX10_next 3 RX10 D aC) (hlk : meth.locks = false) (hr : meth.sig.returnType = some .int) {Z : State → Prop} (zs : Z s) (zk : ZOK Z (Rg ad)) {hz : PH} {rz : Int32} {h : PH} {x0 : Nat} {x1 : Int32}  {H : Heap} {locs : List Loc} {ls : Array Slot} (hf : fX10_next_0 h x0 x1 = some (hz, rz)) (hE : CE (EX D aC ad h) (Rg ad) s H locs) (hl : lv_has ls 3 [(0, .ref (ad x0)), (1, .int x1)]) : W p l e (RM 2 46 0 0) s m args below meth c H locs 0 0 (MQ below (PQ (EX D aC ad hz) (Rg ad) (some (.int rz))) args s 0 0 (Rg ad)) (F0 m 0 ls []) := by
  unfold fX10_next_0 at hf
  refine lv_aload_n b.1 b.2.1 dX10_next_0 rfl (lv_at hl 0 rfl) ?_
  obtain ⟨t5, hf⟩ := oC_s hf
  have t5 := of_decide_eq_true t5
  refine gX10_37 (x := (some x0)) b hE rfl t5 dX10_next_1 ?_
  refine lv_aload_n b.1 b.2.1 dX10_next_4 rfl (lv_at hl 0 rfl) ?_
  refine gX10_41 (x := (some x0)) b hE rfl t5 dX10_next_5 ?_
  obtain ⟨a6, ea6, hf⟩ := oN_s hf
  obtain ⟨t7, hf⟩ := oC_s hf
  have t7 := of_decide_eq_true t7
  obtain ⟨r9, hc8, hf⟩ := oB_s hf
  refine k_stk [.int (hI h 1286 x0)] ea6 ?_
  refine k_callV0 (C := RX0) b zs zk hE (CX0_byteAt l D aC ad zk hc8) mc_X0_byteAt (in2 129 rfl rfl) mi_X0_byteAt ms_X0_byteAt ini_RX0 ok_X0_byteAt (x_recv b hE (ci := 0) rfl (by decide) t7) ⟨Nat.le_of_ble_eq_true rfl, Nat.le_of_ble_eq_true rfl⟩ rfl hl.1 rfl (k_room _ (by exact Nat.le_of_ble_eq_true rfl)) ⟨Nat.le_refl _, Nat.le_refl _⟩ dX10_next_8 (fun H locs hE => ?_)
  refine lv_istore_n (lv' := [(2, .int r9), (0, .ref (ad x0)), (1, .int x1)]) b.1 b.2.1 dX10_next_11 rfl hl (by decide) rfl (fun ls hl => ?_)
  refine lv_iload_n b.1 b.2.1 dX10_next_12 rfl (lv_at hl 0 rfl) ?_
  refine lv_iconst (v := (-1)) b.1 b.2.1 dX10_next_13 (by decide) ?_
  refine lv_icmp_ne (tgt := 21) b.1 b.2.1 dX10_next_14 (by decide) (fun c10 => ?_) (fun c10 => ?_)
  · have hf := oI_f c10 hf
    refine lv_iload_n b.1 b.2.1 dX10_next_21 rfl (lv_at hl 0 rfl) ?_
    obtain ⟨r12, hc11, hf⟩ := oB_s hf
    refine k_callS0 b zs zk hE (CX10_isSmall l D aC zk hc11) mc_X10_isSmall (in2 140 rfl rfl) mt_X10_isSmall ini_RX10 ok_X10_isSmall ⟨Nat.le_of_ble_eq_true rfl, Nat.le_of_ble_eq_true rfl⟩ rfl hl.1 rfl (k_room _ (by exact Nat.le_of_ble_eq_true rfl)) ⟨Nat.le_refl _, Nat.le_refl _⟩ dX10_next_22 (fun H locs hE => ?_)
    refine lv_if_eq (tgt := 34) b.1 b.2.1 dX10_next_25 (by decide) (fun c13 => ?_) (fun c13 => ?_)
    · have hf := oI_t c13 hf
      refine lv_iload_n b.1 b.2.1 dX10_next_34 rfl (lv_at hl 0 rfl) ?_
      obtain ⟨r15, hc14, hf⟩ := oB_s hf
      refine k_callS0 b zs zk hE (CX10_isDigit l D aC zk hc14) mc_X10_isDigit (in2 147 rfl rfl) mt_X10_isDigit ini_RX10 ok_X10_isDigit ⟨Nat.le_of_ble_eq_true rfl, Nat.le_of_ble_eq_true rfl⟩ rfl hl.1 rfl (k_room _ (by exact Nat.le_of_ble_eq_true rfl)) ⟨Nat.le_refl _, Nat.le_refl _⟩ dX10_next_35 (fun H locs hE => ?_)
      refine lv_if_eq (tgt := 47) b.1 b.2.1 dX10_next_38 (by decide) (fun c16 => ?_) (fun c16 => ?_)
      · have hf := oI_t c16 hf
        refine lv_aload_n b.1 b.2.1 dX10_next_47 rfl (lv_at hl 1 rfl) ?_
        refine lv_dup b.1 b.2.1 dX10_next_48 rfl ?_
        refine gX10_41 (x := (some x0)) b hE rfl t5 dX10_next_49 ?_
        refine lv_iconst (v := 1) b.1 b.2.1 dX10_next_52 (by decide) ?_
        refine lv_iadd b.1 b.2.1 dX10_next_53 ?_
        obtain ⟨h17, eh17, hf⟩ := oL_s hf
        refine pX10_41 (x := (some x0)) b hE rfl t5 eh17 dX10_next_54 (fun H locs hE => ?_)
        refine lv_iload_n b.1 b.2.1 dX10_next_57 rfl (lv_at hl 0 rfl) ?_
        refine lv_bipush (v := 65) b.1 b.2.1 dX10_next_58 (by decide) ?_
        refine lv_icmp_lt (tgt := 81) b.1 b.2.1 dX10_next_60 (by decide) (fun c18 => ?_) (fun c18 => ?_)
        · have hf := oI_t c18 hf
          exact wfX10_next_81 b hlk hr zs zk  hf hE (lv_sub hl [1, 0] rfl)
        · have hf := oI_f c18 hf
          refine lv_iload_n b.1 b.2.1 dX10_next_63 rfl (lv_at hl 0 rfl) ?_
          refine lv_bipush (v := 90) b.1 b.2.1 dX10_next_64 (by decide) ?_
          refine lv_icmp_gt (tgt := 81) b.1 b.2.1 dX10_next_66 (by decide) (fun c19 => ?_) (fun c19 => ?_)
          · have hf := oI_t c19 hf
            exact wfX10_next_81 b hlk hr zs zk  hf hE (lv_sub hl [1, 0] rfl)
          · have hf := oI_f c19 hf
            refine lv_aload_n b.1 b.2.1 dX10_next_69 rfl (lv_at hl 1 rfl) ?_
            have t20 := tg_sI eh17 t5
            refine gX10_22 (x := (some x0)) b hE rfl t20 dX10_next_70 ?_
            refine lv_iload_n b.1 b.2.1 dX10_next_73 rfl (lv_at hl 2 rfl) ?_
            refine lv_iload_n b.1 b.2.1 dX10_next_74 rfl (lv_at hl 0 rfl) ?_
            refine lv_i2l b.1 b.2.1 dX10_next_75 rfl ?_
            obtain ⟨a21, ea21, hf⟩ := oN_s hf
            obtain ⟨t22, hf⟩ := oC_s hf
            have t22 := of_decide_eq_true t22
            obtain ⟨g23, hf⟩ := oC_s hf
            obtain ⟨h24, eh24, hf⟩ := oL_s hf
            refine q_last (x := (hR h17 1283 x0)) b hE ea21 t22 g23 eh24 dX10_next_76 (fun H locs hE => ?_)
            refine lv_sipush (v := 261) b.1 b.2.1 dX10_next_77 (by decide) ?_
            cases hf
            exact k_iret b hlk hr hE (Nat.le_refl _) (Nat.le_refl _) dX10_next_80
      · have hf := oI_f c16 hf
        refine lv_aload_n b.1 b.2.1 dX10_next_41 rfl (lv_at hl 1 rfl) ?_
        refine lv_iload_n b.1 b.2.1 dX10_next_42 rfl (lv_at hl 2 rfl) ?_
        obtain ⟨h27, r26, hc25, hf⟩ := oB2_s hf
        refine k_callV0 (C := RX10) b zs zk hE (CX10_nextInteger l D aC ad zk hc25) mc_X10_nextInteger (in2 150 rfl rfl) mi_X10_nextInteger ms_X10_nextInteger ini_RX10 ok_X10_nextInteger (x_recv b hE (ci := 10) rfl (by decide) t5) ⟨Nat.le_of_ble_eq_true rfl, Nat.le_of_ble_eq_true rfl⟩ rfl hl.1 rfl (k_room _ (by exact Nat.le_of_ble_eq_true rfl)) ⟨Nat.le_refl _, Nat.le_refl _⟩ dX10_next_43 (fun H locs hE => ?_)
        cases hf
        exact k_iret b hlk hr hE (Nat.le_refl _) (Nat.le_refl _) dX10_next_46
    · have hf := oI_f c13 hf
      refine lv_aload_n b.1 b.2.1 dX10_next_28 rfl (lv_at hl 1 rfl) ?_
      refine lv_iload_n b.1 b.2.1 dX10_next_29 rfl (lv_at hl 2 rfl) ?_
      obtain ⟨h30, r29, hc28, hf⟩ := oB2_s hf
      refine k_callV0 (C := RX10) b zs zk hE (CX10_nextName l D aC ad zk hc28) mc_X10_nextName (in2 143 rfl rfl) mi_X10_nextName ms_X10_nextName ini_RX10 ok_X10_nextName (x_recv b hE (ci := 10) rfl (by decide) t5) ⟨Nat.le_of_ble_eq_true rfl, Nat.le_of_ble_eq_true rfl⟩ rfl hl.1 rfl (k_room _ (by exact Nat.le_of_ble_eq_true rfl)) ⟨Nat.le_refl _, Nat.le_refl _⟩ dX10_next_30 (fun H locs hE => ?_)
      cases hf
      exact k_iret b hlk hr hE (Nat.le_refl _) (Nat.le_refl _) dX10_next_33
  · have hf := oI_t c10 hf
    refine lv_sipush (v := 263) b.1 b.2.1 dX10_next_17 (by decide) ?_
    cases hf
    exact k_iret b hlk hr hE (Nat.le_refl _) (Nat.le_refl _) dX10_next_20
def fX10_next (h : PH) (x0 : Nat) (x1 : Int32) : Option (PH × Int32) := fX10_next_0 h x0 x1
set_option maxHeartbeats 4000000 in
theorem CX10_next (l : Launch) (D : va_G) (aC : Nat → ClassId) (ad : Nat → Nat) {Z : State → Prop} (zk : ZOK Z (Rg ad)) {h : PH} {x0 : Nat} {x1 : Int32} {hz : PH} {rz : Int32} (hf : fX10_next h x0 x1 = some (hz, rz)) : CM l D aC Z yX10_next cX10_next 3 (some .int) 2 46 0 0 (EX D aC ad h) [.ref (ad x0), .int x1] (EX D aC ad hz) (some (.int rz)) (Rg ad) := by
  refine CM.of rfl ?_
  intro p e s m below meth c b hr hlk hin2 zs hE
  refine k_ent (Nat.le_of_ble_eq_true rfl) (fun ls hl => ?_)
  exact wfX10_next_0 b hlk hr zs zk hf hE (lv_sub hl [0, 1] rfl)
theorem dX10_scan_0 : decode cX10_scan 0 = .ok (.aload_n 0, 1) := by decide +kernel
theorem dX10_scan_1 : decode cX10_scan 1 = .ok (.aload_n 1, 1) := by decide +kernel
theorem dX10_scan_2 : decode cX10_scan 2 = .ok (.putfield 37, 3) := by decide +kernel
theorem dX10_scan_5 : decode cX10_scan 5 = .ok (.aload_n 0, 1) := by decide +kernel
theorem dX10_scan_6 : decode cX10_scan 6 = .ok (.iconst 0, 1) := by decide +kernel
theorem dX10_scan_7 : decode cX10_scan 7 = .ok (.putfield 41, 3) := by decide +kernel
theorem dX10_scan_10 : decode cX10_scan 10 = .ok (.aload_n 0, 1) := by decide +kernel
theorem dX10_scan_11 : decode cX10_scan 11 = .ok (.iconst 0, 1) := by decide +kernel
theorem dX10_scan_12 : decode cX10_scan 12 = .ok (.putfield 45, 3) := by decide +kernel
theorem dX10_scan_15 : decode cX10_scan 15 = .ok (.aload_n 0, 1) := by decide +kernel
theorem dX10_scan_16 : decode cX10_scan 16 = .ok (.aload_n 1, 1) := by decide +kernel
theorem dX10_scan_17 : decode cX10_scan 17 = .ok (.getfield 48, 3) := by decide +kernel
theorem dX10_scan_20 : decode cX10_scan 20 = .ok (.sipush 1200, 3) := by decide +kernel
theorem dX10_scan_23 : decode cX10_scan 23 = .ok (.invokestatic 52, 3) := by decide +kernel
theorem dX10_scan_26 : decode cX10_scan 26 = .ok (.iconst 1, 1) := by decide +kernel
theorem dX10_scan_27 : decode cX10_scan 27 = .ok (.iadd, 1) := by decide +kernel
theorem dX10_scan_28 : decode cX10_scan 28 = .ok (.invokevirtual 58, 3) := by decide +kernel
theorem dX10_scan_31 : decode cX10_scan 31 = .ok (.iconst 1, 1) := by decide +kernel
theorem dX10_scan_32 : decode cX10_scan 32 = .ok (.istore_n 2, 1) := by decide +kernel
theorem dX10_scan_33 : decode cX10_scan 33 = .ok (.iconst 0, 1) := by decide +kernel
theorem dX10_scan_34 : decode cX10_scan 34 = .ok (.istore_n 3, 1) := by decide +kernel
theorem dX10_scan_35 : decode cX10_scan 35 = .ok (.iload_n 3, 1) := by decide +kernel
theorem dX10_scan_36 : decode cX10_scan 36 = .ok (.aload_n 0, 1) := by decide +kernel
theorem dX10_scan_37 : decode cX10_scan 37 = .ok (.getfield 15, 3) := by decide +kernel
theorem dX10_scan_40 : decode cX10_scan 40 = .ok (.arraylength, 1) := by decide +kernel
theorem dX10_scan_41 : decode cX10_scan 41 = .ok (.if_icmp .ge 89, 3) := by decide +kernel
theorem dX10_scan_44 : decode cX10_scan 44 = .ok (.iload_n 3, 1) := by decide +kernel
theorem dX10_scan_45 : decode cX10_scan 45 = .ok (.sipush 1200, 3) := by decide +kernel
theorem dX10_scan_48 : decode cX10_scan 48 = .ok (.if_icmp .gt 82, 3) := by decide +kernel
theorem dX10_scan_51 : decode cX10_scan 51 = .ok (.iload_n 2, 1) := by decide +kernel
theorem dX10_scan_52 : decode cX10_scan 52 = .ok (.ifCond .eq 78, 3) := by decide +kernel
theorem dX10_scan_55 : decode cX10_scan 55 = .ok (.aload_n 0, 1) := by decide +kernel
theorem dX10_scan_56 : decode cX10_scan 56 = .ok (.invokevirtual 62, 3) := by decide +kernel
theorem dX10_scan_59 : decode cX10_scan 59 = .ok (.aload_n 0, 1) := by decide +kernel
theorem dX10_scan_60 : decode cX10_scan 60 = .ok (.getfield 19, 3) := by decide +kernel
theorem dX10_scan_63 : decode cX10_scan 63 = .ok (.iload_n 3, 1) := by decide +kernel
theorem dX10_scan_64 : decode cX10_scan 64 = .ok (.aload_n 0, 1) := by decide +kernel
theorem dX10_scan_65 : decode cX10_scan 65 = .ok (.getfield 41, 3) := by decide +kernel
theorem dX10_scan_68 : decode cX10_scan 68 = .ok (.iastore, 1) := by decide +kernel
theorem dX10_scan_69 : decode cX10_scan 69 = .ok (.aload_n 0, 1) := by decide +kernel
theorem dX10_scan_70 : decode cX10_scan 70 = .ok (.getfield 22, 3) := by decide +kernel
theorem dX10_scan_73 : decode cX10_scan 73 = .ok (.iload_n 3, 1) := by decide +kernel
theorem dX10_scan_74 : decode cX10_scan 74 = .ok (.lconst 0, 1) := by decide +kernel
theorem dX10_scan_75 : decode cX10_scan 75 = .ok (.lastore, 1) := by decide +kernel
theorem dX10_scan_76 : decode cX10_scan 76 = .ok (.aload_n 0, 1) := by decide +kernel
theorem dX10_scan_77 : decode cX10_scan 77 = .ok (.getfield 15, 3) := by decide +kernel
theorem dX10_scan_80 : decode cX10_scan 80 = .ok (.iload_n 3, 1) := by decide +kernel
theorem dX10_scan_81 : decode cX10_scan 81 = .ok (.aload_n 0, 1) := by decide +kernel
theorem dX10_scan_82 : decode cX10_scan 82 = .ok (.iload_n 3, 1) := by decide +kernel
theorem dX10_scan_83 : decode cX10_scan 83 = .ok (.invokevirtual 65, 3) := by decide +kernel
theorem dX10_scan_86 : decode cX10_scan 86 = .ok (.iastore, 1) := by decide +kernel
theorem dX10_scan_87 : decode cX10_scan 87 = .ok (.aload_n 0, 1) := by decide +kernel
theorem dX10_scan_88 : decode cX10_scan 88 = .ok (.iload_n 3, 1) := by decide +kernel
theorem dX10_scan_89 : decode cX10_scan 89 = .ok (.iconst 1, 1) := by decide +kernel
theorem dX10_scan_90 : decode cX10_scan 90 = .ok (.iadd, 1) := by decide +kernel
theorem dX10_scan_91 : decode cX10_scan 91 = .ok (.putfield 45, 3) := by decide +kernel
theorem dX10_scan_94 : decode cX10_scan 94 = .ok (.aload_n 0, 1) := by decide +kernel
theorem dX10_scan_95 : decode cX10_scan 95 = .ok (.getfield 15, 3) := by decide +kernel
theorem dX10_scan_98 : decode cX10_scan 98 = .ok (.iload_n 3, 1) := by decide +kernel
theorem dX10_scan_99 : decode cX10_scan 99 = .ok (.iaload, 1) := by decide +kernel
theorem dX10_scan_100 : decode cX10_scan 100 = .ok (.sipush 263, 3) := by decide +kernel
theorem dX10_scan_103 : decode cX10_scan 103 = .ok (.if_icmp .eq 19, 3) := by decide +kernel
theorem dX10_scan_106 : decode cX10_scan 106 = .ok (.aload_n 0, 1) := by decide +kernel
theorem dX10_scan_107 : decode cX10_scan 107 = .ok (.getfield 15, 3) := by decide +kernel
theorem dX10_scan_110 : decode cX10_scan 110 = .ok (.iload_n 3, 1) := by decide +kernel
theorem dX10_scan_111 : decode cX10_scan 111 = .ok (.iaload, 1) := by decide +kernel
theorem dX10_scan_112 : decode cX10_scan 112 = .ok (.sipush 264, 3) := by decide +kernel
theorem dX10_scan_115 : decode cX10_scan 115 = .ok (.if_icmp .eq 7, 3) := by decide +kernel
theorem dX10_scan_118 : decode cX10_scan 118 = .ok (.iconst 1, 1) := by decide +kernel
theorem dX10_scan_119 : decode cX10_scan 119 = .ok (.goto 4, 3) := by decide +kernel
theorem dX10_scan_122 : decode cX10_scan 122 = .ok (.iconst 0, 1) := by decide +kernel
theorem dX10_scan_123 : decode cX10_scan 123 = .ok (.istore_n 2, 1) := by decide +kernel
theorem dX10_scan_124 : decode cX10_scan 124 = .ok (.iinc 3 1, 3) := by decide +kernel
theorem dX10_scan_127 : decode cX10_scan 127 = .ok (.goto (-92), 3) := by decide +kernel
theorem dX10_scan_130 : decode cX10_scan 130 = .ok (.return_, 1) := by decide +kernel
def fX10_scan_123 (k35 : PH → Nat → Int32 → Int32 → Option (PH × Nat × Nat)) (h : PH) (x0 : Nat) (x3 : Int32) (s0 : Int32) : Option (PH × Nat × Nat) :=
  oL (x3 + 1) (fun y1 => k35 h x0 s0 y1)
set_option maxHeartbeats 4000000 in
theorem wfX10_scan_123 {mc ms cells slots : Nat} {args : Array Value} (b : Bd p s m c cX10_scan 4 RX10 D aC) (hlk : meth.locks = false) (hr : meth.sig.returnType = none) {Z : State → Prop} (zs : Z s) (zk : ZOK Z (Rg ad)) {hz : PH} {k35 : PH → Nat → Int32 → Int32 → Option (PH × Nat × Nat)} (H35 : ∀ (h : PH) (x0 : Nat) (x2 : Int32) (x3 : Int32), ∀ (cells slots kz mz : Nat) (H : Heap) (locs : List Loc) (ls : Array Slot), k35 h x0 x2 x3 = some (hz, kz, mz) → cells + kz ≤ mc → slots + mz ≤ ms → CE (EX D aC ad h) (Rg ad) s H locs → lv_has ls 4 [(0, .ref (ad x0)), (2, .int x2), (3, .int x3)] → W p l e (RM 3 68 mc ms) s m args below meth c H locs cells slots (MQ below (PQ (EX D aC ad hz) (Rg ad) none) args s mc ms (Rg ad)) (F0 m 35 ls [])) {h : PH} {x0 : Nat} {x3 : Int32} {s0 : Int32} {kz : Nat} {mz : Nat}  {H : Heap} {locs : List Loc} {ls : Array Slot} (hf : fX10_scan_123 k35 h x0 x3 s0 = some (hz, kz, mz)) (hk : cells + kz ≤ mc) (hs : slots + mz ≤ ms) (hE : CE (EX D aC ad h) (Rg ad) s H locs) (hl : lv_has ls 4 [(0, .ref (ad x0)), (3, .int x3)]) : W p l e (RM 3 68 mc ms) s m args below meth c H locs cells slots (MQ below (PQ (EX D aC ad hz) (Rg ad) none) args s mc ms (Rg ad)) (F0 m 123 ls [.int s0]) := by
  unfold fX10_scan_123 at hf
  refine lv_istore_n (lv' := [(2, .int s0), (0, .ref (ad x0)), (3, .int x3)]) b.1 b.2.1 dX10_scan_123 rfl hl (by decide) rfl (fun ls hl => ?_)
  obtain ⟨y1, ey1, hf⟩ := oL_s hf
  refine lv_iinc (v := y1) (lv' := [(3, .int y1), (2, .int s0), (0, .ref (ad x0))]) b.1 b.2.1 dX10_scan_124 hl (k := 2) rfl (by rw [ey1]; rfl) (by decide) rfl (fun ls hl => ?_)
  refine lv_goto (tgt := 35) b.1 b.2.1 dX10_scan_127 (by decide) ?_
  exact H35 h x0 s0 y1 _ _ _ _ _ _ _ hf hk hs hE (lv_sub hl [2, 1, 0] rfl)
def fX10_scan_35F (k35 : PH → Nat → Int32 → Int32 → Option (PH × Nat × Nat)) (h : PH) (x0 : Nat) (x2 : Int32) (x3 : Int32) : Option (PH × Nat × Nat) :=
  oC (decide (hT h x0 = 11)) (oN (hR h 1281 x0) (fun a3 => oC (decide (hT h a3 = 101)) (if (nI (hN h a3)) ≤ x3 then (some (h, 0, 0)) else (if 1200 < x3 then (some (h, 0, 0)) else (if x2 = 0 then (some (h, 0, 0)) else (oB (fX10_skipBlanks h x0) (fun h9 => oC (decide (hT h9 x0 = 11)) (oN (hR h9 1282 x0) (fun a11 => oC (decide (hT h9 a11 = 101)) (oC (ix x3 (hN h9 a11)) (oL (sA h9 a11 (Int32.toNatClampNeg x3) (hI h9 1286 x0)) (fun h14 => oN (hR h14 1283 x0) (fun a16 => oC (decide (hT h14 a16 = 102)) (oC (ix x3 (hN h14 a16)) (oL (sB h14 a16 (Int32.toNatClampNeg x3) 0) (fun h19 => oB2 (fX10_next h19 x0 x3) (fun h23 r22 => oN (hR h19 1281 x0) (fun a24 => oC (decide (hT h23 a24 = 101)) (oC (ix x3 (hN h23 a24)) (oL (sA h23 a24 (Int32.toNatClampNeg x3) r22) (fun h27 => oC (decide (hT h27 x0 = 11)) (oL (sI h27 1284 x0 (x3 + 1)) (fun h29 => oN (hR h29 1281 x0) (fun a31 => oC (decide (hT h29 a31 = 101)) (oC (ix x3 (hN h29 a31)) (if (hA h29 a31 (Int32.toNatClampNeg x3)) = 263 then (fX10_scan_123 k35 h29 x0 x3 0) else (oC (ix x3 (hN h29 a31)) (if (hA h29 a31 (Int32.toNatClampNeg x3)) = 264 then (fX10_scan_123 k35 h29 x0 x3 0) else (fX10_scan_123 k35 h29 x0 x3 1)))))))))))))))))))))))))))))
set_option maxHeartbeats 4000000 in
theorem wfX10_scan_35F {mc ms cells slots : Nat} {args : Array Value} (b : Bd p s m c cX10_scan 4 RX10 D aC) (hlk : meth.locks = false) (hr : meth.sig.returnType = none) {Z : State → Prop} (zs : Z s) (zk : ZOK Z (Rg ad)) {hz : PH} {k35 : PH → Nat → Int32 → Int32 → Option (PH × Nat × Nat)} (H35 : ∀ (h : PH) (x0 : Nat) (x2 : Int32) (x3 : Int32), ∀ (cells slots kz mz : Nat) (H : Heap) (locs : List Loc) (ls : Array Slot), k35 h x0 x2 x3 = some (hz, kz, mz) → cells + kz ≤ mc → slots + mz ≤ ms → CE (EX D aC ad h) (Rg ad) s H locs → lv_has ls 4 [(0, .ref (ad x0)), (2, .int x2), (3, .int x3)] → W p l e (RM 3 68 mc ms) s m args below meth c H locs cells slots (MQ below (PQ (EX D aC ad hz) (Rg ad) none) args s mc ms (Rg ad)) (F0 m 35 ls [])) {h : PH} {x0 : Nat} {x2 : Int32} {x3 : Int32} {kz : Nat} {mz : Nat}  {H : Heap} {locs : List Loc} {ls : Array Slot} (hf : fX10_scan_35F k35 h x0 x2 x3 = some (hz, kz, mz)) (hk : cells + kz ≤ mc) (hs : slots + mz ≤ ms) (hE : CE (EX D aC ad h) (Rg ad) s H locs) (hl : lv_has ls 4 [(0, .ref (ad x0)), (2, .int x2), (3, .int x3)]) : W p l e (RM 3 68 mc ms) s m args below meth c H locs cells slots (MQ below (PQ (EX D aC ad hz) (Rg ad) none) args s mc ms (Rg ad)) (F0 m 35 ls []) := by
  unfold fX10_scan_35F at hf
  refine lv_iload_n b.1 b.2.1 dX10_scan_35 rfl (lv_at hl 2 rfl) ?_
  refine lv_aload_n b.1 b.2.1 dX10_scan_36 rfl (lv_at hl 0 rfl) ?_
  obtain ⟨t2, hf⟩ := oC_s hf
  have t2 := of_decide_eq_true t2
  refine gX10_15 (x := (some x0)) b hE rfl t2 dX10_scan_37 ?_
  obtain ⟨a3, ea3, hf⟩ := oN_s hf
  obtain ⟨t4, hf⟩ := oC_s hf
  have t4 := of_decide_eq_true t4
  refine q_alen (x := (hR h 1281 x0)) (k := 1) b hE ea3 (by decide) t4 dX10_scan_40 ?_
  refine lv_icmp_ge (tgt := 130) b.1 b.2.1 dX10_scan_41 (by decide) (fun c5 => ?_) (fun c5 => ?_)
  · have hf := oI_t c5 hf
    cases hf
    exact k_vret b hlk hr hE (le_c hk) (le_c hs) dX10_scan_130
  · have hf := oI_f c5 hf
    refine lv_iload_n b.1 b.2.1 dX10_scan_44 rfl (lv_at hl 2 rfl) ?_
    refine lv_sipush (v := 1200) b.1 b.2.1 dX10_scan_45 (by decide) ?_
    refine lv_icmp_gt (tgt := 130) b.1 b.2.1 dX10_scan_48 (by decide) (fun c6 => ?_) (fun c6 => ?_)
    · have hf := oI_t c6 hf
      cases hf
      exact k_vret b hlk hr hE (le_c hk) (le_c hs) dX10_scan_130
    · have hf := oI_f c6 hf
      refine lv_iload_n b.1 b.2.1 dX10_scan_51 rfl (lv_at hl 1 rfl) ?_
      refine lv_if_eq (tgt := 130) b.1 b.2.1 dX10_scan_52 (by decide) (fun c7 => ?_) (fun c7 => ?_)
      · have hf := oI_t c7 hf
        cases hf
        exact k_vret b hlk hr hE (le_c hk) (le_c hs) dX10_scan_130
      · have hf := oI_f c7 hf
        refine lv_aload_n b.1 b.2.1 dX10_scan_55 rfl (lv_at hl 0 rfl) ?_
        obtain ⟨h9, hc8, hf⟩ := oB_s hf
        refine k_callV0 (C := RX10) b zs zk hE (CX10_skipBlanks l D aC ad zk hc8) mc_X10_skipBlanks (in2 125 rfl rfl) mi_X10_skipBlanks ms_X10_skipBlanks ini_RX10 ok_X10_skipBlanks (x_recv b hE (ci := 10) rfl (by decide) t2) ⟨Nat.le_of_ble_eq_true rfl, Nat.le_of_ble_eq_true rfl⟩ rfl hl.1 rfl (k_room _ (by exact Nat.le_of_ble_eq_true rfl)) ⟨le_0 hk, le_0 hs⟩ dX10_scan_56 (fun H locs hE => ?_)
        refine lv_aload_n b.1 b.2.1 dX10_scan_59 rfl (lv_at hl 0 rfl) ?_
        obtain ⟨t10, hf⟩ := oC_s hf
        have t10 := of_decide_eq_true t10
        refine gX10_19 (x := (some x0)) b hE rfl t10 dX10_scan_60 ?_
        refine lv_iload_n b.1 b.2.1 dX10_scan_63 rfl (lv_at hl 2 rfl) ?_
        refine lv_aload_n b.1 b.2.1 dX10_scan_64 rfl (lv_at hl 0 rfl) ?_
        refine gX10_41 (x := (some x0)) b hE rfl t10 dX10_scan_65 ?_
        obtain ⟨a11, ea11, hf⟩ := oN_s hf
        obtain ⟨t12, hf⟩ := oC_s hf
        have t12 := of_decide_eq_true t12
        obtain ⟨g13, hf⟩ := oC_s hf
        obtain ⟨h14, eh14, hf⟩ := oL_s hf
        refine q_iast (x := (hR h9 1282 x0)) b hE ea11 t12 g13 eh14 dX10_scan_68 (fun H locs hE => ?_)
        refine lv_aload_n b.1 b.2.1 dX10_scan_69 rfl (lv_at hl 0 rfl) ?_
        have t15 := tg_sA eh14 t10
        refine gX10_22 (x := (some x0)) b hE rfl t15 dX10_scan_70 ?_
        refine lv_iload_n b.1 b.2.1 dX10_scan_73 rfl (lv_at hl 2 rfl) ?_
        refine lv_lconst (v := 0) b.1 b.2.1 dX10_scan_74 rfl ?_
        obtain ⟨a16, ea16, hf⟩ := oN_s hf
        obtain ⟨t17, hf⟩ := oC_s hf
        have t17 := of_decide_eq_true t17
        obtain ⟨g18, hf⟩ := oC_s hf
        obtain ⟨h19, eh19, hf⟩ := oL_s hf
        refine q_last (x := (hR h14 1283 x0)) b hE ea16 t17 g18 eh19 dX10_scan_75 (fun H locs hE => ?_)
        refine lv_aload_n b.1 b.2.1 dX10_scan_76 rfl (lv_at hl 0 rfl) ?_
        have t20 := tg_sB eh19 t15
        refine gX10_15 (x := (some x0)) b hE rfl t20 dX10_scan_77 ?_
        refine lv_iload_n b.1 b.2.1 dX10_scan_80 rfl (lv_at hl 2 rfl) ?_
        refine lv_aload_n b.1 b.2.1 dX10_scan_81 rfl (lv_at hl 0 rfl) ?_
        refine lv_iload_n b.1 b.2.1 dX10_scan_82 rfl (lv_at hl 2 rfl) ?_
        obtain ⟨h23, r22, hc21, hf⟩ := oB2_s hf
        refine k_callV0 (C := RX10) b zs zk hE (CX10_next l D aC ad zk hc21) mc_X10_next (in2 136 rfl rfl) mi_X10_next ms_X10_next ini_RX10 ok_X10_next (x_recv b hE (ci := 10) rfl (by decide) t20) ⟨Nat.le_of_ble_eq_true rfl, Nat.le_of_ble_eq_true rfl⟩ rfl hl.1 rfl (k_room _ (by exact Nat.le_of_ble_eq_true rfl)) ⟨le_0 hk, le_0 hs⟩ dX10_scan_83 (fun H locs hE => ?_)
        obtain ⟨a24, ea24, hf⟩ := oN_s hf
        obtain ⟨t25, hf⟩ := oC_s hf
        have t25 := of_decide_eq_true t25
        obtain ⟨g26, hf⟩ := oC_s hf
        obtain ⟨h27, eh27, hf⟩ := oL_s hf
        refine q_iast (x := (hR h19 1281 x0)) b hE ea24 t25 g26 eh27 dX10_scan_86 (fun H locs hE => ?_)
        refine lv_aload_n b.1 b.2.1 dX10_scan_87 rfl (lv_at hl 0 rfl) ?_
        refine lv_iload_n b.1 b.2.1 dX10_scan_88 rfl (lv_at hl 2 rfl) ?_
        refine lv_iconst (v := 1) b.1 b.2.1 dX10_scan_89 (by decide) ?_
        refine lv_iadd b.1 b.2.1 dX10_scan_90 ?_
        obtain ⟨t28, hf⟩ := oC_s hf
        have t28 := of_decide_eq_true t28
        obtain ⟨h29, eh29, hf⟩ := oL_s hf
        refine pX10_45 (x := (some x0)) b hE rfl t28 eh29 dX10_scan_91 (fun H locs hE => ?_)
        refine lv_aload_n b.1 b.2.1 dX10_scan_94 rfl (lv_at hl 0 rfl) ?_
        have t30 := tg_sI eh29 t28
        refine gX10_15 (x := (some x0)) b hE rfl t30 dX10_scan_95 ?_
        refine lv_iload_n b.1 b.2.1 dX10_scan_98 rfl (lv_at hl 2 rfl) ?_
        obtain ⟨a31, ea31, hf⟩ := oN_s hf
        obtain ⟨t32, hf⟩ := oC_s hf
        have t32 := of_decide_eq_true t32
        obtain ⟨g33, hf⟩ := oC_s hf
        refine q_iald (x := (hR h29 1281 x0)) b hE ea31 t32 g33 dX10_scan_99 ?_
        refine lv_sipush (v := 263) b.1 b.2.1 dX10_scan_100 (by decide) ?_
        refine lv_icmp_eq (tgt := 122) b.1 b.2.1 dX10_scan_103 (by decide) (fun c34 => ?_) (fun c34 => ?_)
        · have hf := oI_t c34 hf
          refine lv_iconst (v := 0) b.1 b.2.1 dX10_scan_122 (by decide) ?_
          exact wfX10_scan_123 b hlk hr zs zk H35 hf hk hs hE (lv_sub hl [0, 2] rfl)
        · have hf := oI_f c34 hf
          refine lv_aload_n b.1 b.2.1 dX10_scan_106 rfl (lv_at hl 0 rfl) ?_
          refine gX10_15 (x := (some x0)) b hE rfl t30 dX10_scan_107 ?_
          refine lv_iload_n b.1 b.2.1 dX10_scan_110 rfl (lv_at hl 2 rfl) ?_
          obtain ⟨g35, hf⟩ := oC_s hf
          refine q_iald (x := (hR h29 1281 x0)) b hE ea31 t32 g35 dX10_scan_111 ?_
          refine lv_sipush (v := 264) b.1 b.2.1 dX10_scan_112 (by decide) ?_
          refine lv_icmp_eq (tgt := 122) b.1 b.2.1 dX10_scan_115 (by decide) (fun c36 => ?_) (fun c36 => ?_)
          · have hf := oI_t c36 hf
            refine lv_iconst (v := 0) b.1 b.2.1 dX10_scan_122 (by decide) ?_
            exact wfX10_scan_123 b hlk hr zs zk H35 hf hk hs hE (lv_sub hl [0, 2] rfl)
          · have hf := oI_f c36 hf
            refine lv_iconst (v := 1) b.1 b.2.1 dX10_scan_118 (by decide) ?_
            refine lv_goto (tgt := 123) b.1 b.2.1 dX10_scan_119 (by decide) ?_
            exact wfX10_scan_123 b hlk hr zs zk H35 hf hk hs hE (lv_sub hl [0, 2] rfl)
def fX10_scan_35  : Nat → PH → Nat → Int32 → Int32 → Option (PH × Nat × Nat)
  | 0 => fun _ _ _ _ => none
  | n + 1 => fX10_scan_35F  (fX10_scan_35  n)
set_option maxHeartbeats 4000000 in
theorem wfX10_scan_35 {mc ms : Nat} {args : Array Value} (b : Bd p s m c cX10_scan 4 RX10 D aC) (hlk : meth.locks = false) (hr : meth.sig.returnType = none) {Z : State → Prop} (zs : Z s) (zk : ZOK Z (Rg ad)) {hz : PH} : ∀ n : Nat, ∀ (h : PH) (x0 : Nat) (x2 : Int32) (x3 : Int32), ∀ (cells slots kz mz : Nat) (H : Heap) (locs : List Loc) (ls : Array Slot), fX10_scan_35  n h x0 x2 x3 = some (hz, kz, mz) → cells + kz ≤ mc → slots + mz ≤ ms → CE (EX D aC ad h) (Rg ad) s H locs → lv_has ls 4 [(0, .ref (ad x0)), (2, .int x2), (3, .int x3)] → W p l e (RM 3 68 mc ms) s m args below meth c H locs cells slots (MQ below (PQ (EX D aC ad hz) (Rg ad) none) args s mc ms (Rg ad)) (F0 m 35 ls []) := by
  intro n
  induction n with
  | zero =>
    intro h x0 x2 x3 cells slots kz mz H locs ls hf
    have hf : (none : Option (PH × Nat × Nat)) = some _ := hf
    cases hf
  | succ n ih =>
    intro h x0 x2 x3 cells slots kz mz H locs ls hf hk hs hE hl
    exact wfX10_scan_35F b hlk hr zs zk  ih hf hk hs hE hl
def fX10_scan_0  (h : PH) (x0 : Nat) (x1 : Option Nat) : Option (PH × Nat × Nat) :=
  oC (decide (hT h x0 = 11)) (oL (sR h 1285 x0 x1) (fun h38 => oL (sI h38 1286 x0 0) (fun h40 => oL (sI h40 1284 x0 0) (fun h42 => oN x1 (fun a43 => oC (decide (hT h42 a43 = 1)) (oB3 (fX10_makeRoom h42 x0 ((if 1200 < (hI h42 1 a43) then 1200 else (hI h42 1 a43)) + 1)) (fun h47 i48 j49 => oK3 i48 j49 (fX10_scan_35  FU h47 x0 1 0))))))))
set_option maxHeartbeats 4000000 in
theorem wfX10_scan_0 {mc ms cells slots : Nat} {args : Array Value} (b : Bd p s m c cX10_scan 4 RX10 D aC) (hlk : meth.locks = false) (hr : meth.sig.returnType = none) {Z : State → Prop} (zs : Z s) (zk : ZOK Z (Rg ad)) {hz : PH} {h : PH} {x0 : Nat} {x1 : Option Nat} {kz : Nat} {mz : Nat}  {H : Heap} {locs : List Loc} {ls : Array Slot} (hf : fX10_scan_0 h x0 x1 = some (hz, kz, mz)) (hk : cells + kz ≤ mc) (hs : slots + mz ≤ ms) (hE : CE (EX D aC ad h) (Rg ad) s H locs) (hl : lv_has ls 4 [(0, .ref (ad x0)), (1, va_rf (Option.map ad x1))]) : W p l e (RM 3 68 mc ms) s m args below meth c H locs cells slots (MQ below (PQ (EX D aC ad hz) (Rg ad) none) args s mc ms (Rg ad)) (F0 m 0 ls []) := by
  unfold fX10_scan_0 at hf
  refine lv_aload_n b.1 b.2.1 dX10_scan_0 rfl (lv_at hl 0 rfl) ?_
  refine k_aload_n (x := Option.map ad x1) b dX10_scan_1 rfl (lv_at hl 1 rfl) ?_
  obtain ⟨t37, hf⟩ := oC_s hf
  have t37 := of_decide_eq_true t37
  obtain ⟨h38, eh38, hf⟩ := oL_s hf
  refine pX10_37 (x := (some x0)) (v := x1) b hE rfl t37 eh38 dX10_scan_2 (fun H locs hE => ?_)
  refine lv_aload_n b.1 b.2.1 dX10_scan_5 rfl (lv_at hl 0 rfl) ?_
  refine lv_iconst (v := 0) b.1 b.2.1 dX10_scan_6 (by decide) ?_
  have t39 := tg_sR eh38 t37
  obtain ⟨h40, eh40, hf⟩ := oL_s hf
  refine pX10_41 (x := (some x0)) b hE rfl t39 eh40 dX10_scan_7 (fun H locs hE => ?_)
  refine lv_aload_n b.1 b.2.1 dX10_scan_10 rfl (lv_at hl 0 rfl) ?_
  refine lv_iconst (v := 0) b.1 b.2.1 dX10_scan_11 (by decide) ?_
  have t41 := tg_sI eh40 t39
  obtain ⟨h42, eh42, hf⟩ := oL_s hf
  refine pX10_45 (x := (some x0)) b hE rfl t41 eh42 dX10_scan_12 (fun H locs hE => ?_)
  refine lv_aload_n b.1 b.2.1 dX10_scan_15 rfl (lv_at hl 0 rfl) ?_
  refine k_aload_n (x := Option.map ad x1) b dX10_scan_16 rfl (lv_at hl 1 rfl) ?_
  obtain ⟨a43, ea43, hf⟩ := oN_s hf
  obtain ⟨t44, hf⟩ := oC_s hf
  have t44 := of_decide_eq_true t44
  refine gX10_48 (x := x1) b hE ea43 t44 dX10_scan_17 ?_
  refine lv_sipush (v := 1200) b.1 b.2.1 dX10_scan_20 (by decide) ?_
  refine k_min b (in2 120 rfl rfl) mthmin_s mth_i mthmin_c hl.1 ⟨Nat.le_of_ble_eq_true rfl, Nat.le_of_ble_eq_true rfl⟩ (Nat.le_of_ble_eq_true rfl) ⟨le_c hk, le_c hs⟩ dX10_scan_23 ?_
  refine lv_iconst (v := 1) b.1 b.2.1 dX10_scan_26 (by decide) ?_
  refine lv_iadd b.1 b.2.1 dX10_scan_27 ?_
  have t45 := tg_sI eh42 t41
  obtain ⟨h47, i48, j49, hc46, hf⟩ := oB3_s hf
  obtain ⟨i50, j51, ei50, ej51, hf⟩ := oK3_s hf
  refine k_callV (C := RX10) b zs zk hE (CX10_makeRoom l D aC ad zk hc46) mc_X10_makeRoom (in2 121 rfl rfl) mi_X10_makeRoom ms_X10_makeRoom ini_RX10 ok_X10_makeRoom (x_recv b hE (ci := 10) rfl (by decide) t45) ⟨Nat.le_of_ble_eq_true rfl, Nat.le_of_ble_eq_true rfl⟩ rfl hl.1 rfl (k_room _ (by exact Nat.le_of_ble_eq_true rfl)) ⟨le_room hk ei50, le_room hs ej51⟩ dX10_scan_28 (fun H locs hE => ?_)
  have hk := le_step hk ei50
  have hs := le_step hs ej51
  refine lv_iconst (v := 1) b.1 b.2.1 dX10_scan_31 (by decide) ?_
  refine lv_istore_n (lv' := [(2, .int 1), (0, .ref (ad x0)), (1, va_rf (Option.map ad x1))]) b.1 b.2.1 dX10_scan_32 rfl hl (by decide) (by cases x1 <;> rfl) (fun ls hl => ?_)
  have hl := lv_sub (l' := [(2, .int 1), (0, .ref (ad x0))]) hl [0, 1] rfl
  refine lv_iconst (v := 0) b.1 b.2.1 dX10_scan_33 (by decide) ?_
  refine lv_istore_n (lv' := [(3, .int 0), (2, .int 1), (0, .ref (ad x0))]) b.1 b.2.1 dX10_scan_34 rfl hl (by decide) rfl (fun ls hl => ?_)
  exact wfX10_scan_35 b hlk hr zs zk  FU h47 x0 1 0 _ _ _ _ _ _ _ hf hk hs hE (lv_sub hl [2, 1, 0] rfl)
def fX10_scan (h : PH) (x0 : Nat) (x1 : Option Nat) : Option (PH × Nat × Nat) := fX10_scan_0 h x0 x1
set_option maxHeartbeats 4000000 in
theorem CX10_scan (l : Launch) (D : va_G) (aC : Nat → ClassId) (ad : Nat → Nat) {Z : State → Prop} (zk : ZOK Z (Rg ad)) {h : PH} {x0 : Nat} {x1 : Option Nat} {hz : PH} {kz : Nat} {mz : Nat} (hf : fX10_scan h x0 x1 = some (hz, kz, mz)) : CM l D aC Z yX10_scan cX10_scan 4 (none) 3 68 kz mz (EX D aC ad h) [.ref (ad x0), va_rf (Option.map ad x1)] (EX D aC ad hz) none (Rg ad) := by
  refine CM.of rfl ?_
  intro p e s m below meth c b hr hlk hin2 zs hE
  cases x1 <;> (
    refine k_ent (Nat.le_of_ble_eq_true rfl) (fun ls hl => ?_)
    exact wfX10_scan_0 b hlk hr zs zk hf (by omega) (by omega) hE (lv_sub hl [0, 1] rfl))
theorem dX4_lookAt_0 : decode cX4_lookAt 0 = .ok (.iload_n 1, 1) := by decide +kernel
theorem dX4_lookAt_1 : decode cX4_lookAt 1 = .ok (.ifCond .lt 18, 3) := by decide +kernel
theorem dX4_lookAt_4 : decode cX4_lookAt 4 = .ok (.iload_n 1, 1) := by decide +kernel
theorem dX4_lookAt_5 : decode cX4_lookAt 5 = .ok (.aload_n 0, 1) := by decide +kernel
theorem dX4_lookAt_6 : decode cX4_lookAt 6 = .ok (.getfield 12, 3) := by decide +kernel
theorem dX4_lookAt_9 : decode cX4_lookAt 9 = .ok (.getfield 143, 3) := by decide +kernel
theorem dX4_lookAt_12 : decode cX4_lookAt 12 = .ok (.if_icmp .ge 7, 3) := by decide +kernel
theorem dX4_lookAt_15 : decode cX4_lookAt 15 = .ok (.iconst 1, 1) := by decide +kernel
theorem dX4_lookAt_16 : decode cX4_lookAt 16 = .ok (.goto 4, 3) := by decide +kernel
theorem dX4_lookAt_19 : decode cX4_lookAt 19 = .ok (.iconst 0, 1) := by decide +kernel
theorem dX4_lookAt_20 : decode cX4_lookAt 20 = .ok (.istore_n 2, 1) := by decide +kernel
theorem dX4_lookAt_21 : decode cX4_lookAt 21 = .ok (.aload_n 0, 1) := by decide +kernel
theorem dX4_lookAt_22 : decode cX4_lookAt 22 = .ok (.iload_n 1, 1) := by decide +kernel
theorem dX4_lookAt_23 : decode cX4_lookAt 23 = .ok (.putfield 146, 3) := by decide +kernel
theorem dX4_lookAt_26 : decode cX4_lookAt 26 = .ok (.aload_n 0, 1) := by decide +kernel
theorem dX4_lookAt_27 : decode cX4_lookAt 27 = .ok (.iload_n 2, 1) := by decide +kernel
theorem dX4_lookAt_28 : decode cX4_lookAt 28 = .ok (.ifCond .eq 15, 3) := by decide +kernel
theorem dX4_lookAt_31 : decode cX4_lookAt 31 = .ok (.aload_n 0, 1) := by decide +kernel
theorem dX4_lookAt_32 : decode cX4_lookAt 32 = .ok (.getfield 12, 3) := by decide +kernel
theorem dX4_lookAt_35 : decode cX4_lookAt 35 = .ok (.getfield 149, 3) := by decide +kernel
theorem dX4_lookAt_38 : decode cX4_lookAt 38 = .ok (.iload_n 1, 1) := by decide +kernel
theorem dX4_lookAt_39 : decode cX4_lookAt 39 = .ok (.iaload, 1) := by decide +kernel
theorem dX4_lookAt_40 : decode cX4_lookAt 40 = .ok (.goto 6, 3) := by decide +kernel
theorem dX4_lookAt_43 : decode cX4_lookAt 43 = .ok (.sipush 264, 3) := by decide +kernel
theorem dX4_lookAt_46 : decode cX4_lookAt 46 = .ok (.putfield 60, 3) := by decide +kernel
theorem dX4_lookAt_49 : decode cX4_lookAt 49 = .ok (.aload_n 0, 1) := by decide +kernel
theorem dX4_lookAt_50 : decode cX4_lookAt 50 = .ok (.iload_n 2, 1) := by decide +kernel
theorem dX4_lookAt_51 : decode cX4_lookAt 51 = .ok (.ifCond .eq 15, 3) := by decide +kernel
theorem dX4_lookAt_54 : decode cX4_lookAt 54 = .ok (.aload_n 0, 1) := by decide +kernel
theorem dX4_lookAt_55 : decode cX4_lookAt 55 = .ok (.getfield 12, 3) := by decide +kernel
theorem dX4_lookAt_58 : decode cX4_lookAt 58 = .ok (.getfield 152, 3) := by decide +kernel
theorem dX4_lookAt_61 : decode cX4_lookAt 61 = .ok (.iload_n 1, 1) := by decide +kernel
theorem dX4_lookAt_62 : decode cX4_lookAt 62 = .ok (.iaload, 1) := by decide +kernel
theorem dX4_lookAt_63 : decode cX4_lookAt 63 = .ok (.goto 4, 3) := by decide +kernel
theorem dX4_lookAt_66 : decode cX4_lookAt 66 = .ok (.iconst (-1), 1) := by decide +kernel
theorem dX4_lookAt_67 : decode cX4_lookAt 67 = .ok (.putfield 155, 3) := by decide +kernel
theorem dX4_lookAt_70 : decode cX4_lookAt 70 = .ok (.aload_n 0, 1) := by decide +kernel
theorem dX4_lookAt_71 : decode cX4_lookAt 71 = .ok (.iload_n 2, 1) := by decide +kernel
theorem dX4_lookAt_72 : decode cX4_lookAt 72 = .ok (.ifCond .eq 15, 3) := by decide +kernel
theorem dX4_lookAt_75 : decode cX4_lookAt 75 = .ok (.aload_n 0, 1) := by decide +kernel
theorem dX4_lookAt_76 : decode cX4_lookAt 76 = .ok (.getfield 12, 3) := by decide +kernel
theorem dX4_lookAt_79 : decode cX4_lookAt 79 = .ok (.getfield 158, 3) := by decide +kernel
theorem dX4_lookAt_82 : decode cX4_lookAt 82 = .ok (.iload_n 1, 1) := by decide +kernel
theorem dX4_lookAt_83 : decode cX4_lookAt 83 = .ok (.laload, 1) := by decide +kernel
theorem dX4_lookAt_84 : decode cX4_lookAt 84 = .ok (.goto 4, 3) := by decide +kernel
theorem dX4_lookAt_87 : decode cX4_lookAt 87 = .ok (.lconst 0, 1) := by decide +kernel
theorem dX4_lookAt_88 : decode cX4_lookAt 88 = .ok (.putfield 162, 3) := by decide +kernel
theorem dX4_lookAt_91 : decode cX4_lookAt 91 = .ok (.return_, 1) := by decide +kernel
def fX4_lookAt_88  (h : PH) (s0 : Int64) (s1 : Nat) : Option (PH) :=
  oC (decide (hT h s1 = 5)) (oL (sL h 523 s1 s0) (fun h2 => some (h2)))
set_option maxHeartbeats 4000000 in
theorem wfX4_lookAt_88 {args : Array Value} (b : Bd p s m c cX4_lookAt 3 RX4 D aC) (hlk : meth.locks = false) (hr : meth.sig.returnType = none) {Z : State → Prop} (zs : Z s) (zk : ZOK Z (Rg ad)) {hz : PH} {h : PH} {s0 : Int64} {s1 : Nat}  {H : Heap} {locs : List Loc} {ls : Array Slot} (hf : fX4_lookAt_88 h s0 s1 = some hz) (hE : CE (EX D aC ad h) (Rg ad) s H locs) (hl : lv_has ls 3 []) : W p l e (RM 0 0 0 0) s m args below meth c H locs 0 0 (MQ below (PQ (EX D aC ad hz) (Rg ad) none) args s 0 0 (Rg ad)) (F0 m 88 ls [.long s0, .ref (ad s1)]) := by
  unfold fX4_lookAt_88 at hf
  obtain ⟨t1, hf⟩ := oC_s hf
  have t1 := of_decide_eq_true t1
  obtain ⟨h2, eh2, hf⟩ := oL_s hf
  refine pX4_162 (x := (some s1)) b hE rfl t1 eh2 dX4_lookAt_88 (fun H locs hE => ?_)
  cases hf
  exact k_vret b hlk hr hE (Nat.le_refl _) (Nat.le_refl _) dX4_lookAt_91
def fX4_lookAt_67  (h : PH) (x0 : Nat) (x1 : Int32) (x2 : Int32) (s0 : Int32) (s1 : Nat) : Option (PH) :=
  oC (decide (hT h s1 = 5)) (oL (sI h 522 s1 s0) (fun h4 => if x2 = 0 then (fX4_lookAt_88  h4 0 x0) else (oC (decide (hT h4 x0 = 5)) (oN (hR h4 513 x0) (fun a7 => oC (decide (hT h4 a7 = 11)) (oN (hR h4 1283 a7) (fun a9 => oC (decide (hT h4 a9 = 102)) (oC (ix x1 (hN h4 a9)) (fX4_lookAt_88  h4 (hB h4 a9 (Int32.toNatClampNeg x1)) x0)))))))))
set_option maxHeartbeats 4000000 in
theorem wfX4_lookAt_67 {args : Array Value} (b : Bd p s m c cX4_lookAt 3 RX4 D aC) (hlk : meth.locks = false) (hr : meth.sig.returnType = none) {Z : State → Prop} (zs : Z s) (zk : ZOK Z (Rg ad)) {hz : PH} {h : PH} {x0 : Nat} {x1 : Int32} {x2 : Int32} {s0 : Int32} {s1 : Nat}  {H : Heap} {locs : List Loc} {ls : Array Slot} (hf : fX4_lookAt_67 h x0 x1 x2 s0 s1 = some hz) (hE : CE (EX D aC ad h) (Rg ad) s H locs) (hl : lv_has ls 3 [(0, .ref (ad x0)), (1, .int x1), (2, .int x2)]) : W p l e (RM 0 0 0 0) s m args below meth c H locs 0 0 (MQ below (PQ (EX D aC ad hz) (Rg ad) none) args s 0 0 (Rg ad)) (F0 m 67 ls [.int s0, .ref (ad s1)]) := by
  unfold fX4_lookAt_67 at hf
  obtain ⟨t3, hf⟩ := oC_s hf
  have t3 := of_decide_eq_true t3
  obtain ⟨h4, eh4, hf⟩ := oL_s hf
  refine pX4_155 (x := (some s1)) b hE rfl t3 eh4 dX4_lookAt_67 (fun H locs hE => ?_)
  refine lv_aload_n b.1 b.2.1 dX4_lookAt_70 rfl (lv_at hl 0 rfl) ?_
  refine lv_iload_n b.1 b.2.1 dX4_lookAt_71 rfl (lv_at hl 2 rfl) ?_
  refine lv_if_eq (tgt := 87) b.1 b.2.1 dX4_lookAt_72 (by decide) (fun c5 => ?_) (fun c5 => ?_)
  · have hf := oI_t c5 hf
    refine lv_lconst (v := 0) b.1 b.2.1 dX4_lookAt_87 rfl ?_
    exact wfX4_lookAt_88 b hlk hr zs zk  hf hE (lv_sub hl [] rfl)
  · have hf := oI_f c5 hf
    refine lv_aload_n b.1 b.2.1 dX4_lookAt_75 rfl (lv_at hl 0 rfl) ?_
    obtain ⟨t6, hf⟩ := oC_s hf
    have t6 := of_decide_eq_true t6
    refine gX4_12 (x := (some x0)) b hE rfl t6 dX4_lookAt_76 ?_
    obtain ⟨a7, ea7, hf⟩ := oN_s hf
    obtain ⟨t8, hf⟩ := oC_s hf
    have t8 := of_decide_eq_true t8
    refine gX4_158 (x := (hR h4 513 x0)) b hE ea7 t8 dX4_lookAt_79 ?_
    refine lv_iload_n b.1 b.2.1 dX4_lookAt_82 rfl (lv_at hl 1 rfl) ?_
    obtain ⟨a9, ea9, hf⟩ := oN_s hf
    obtain ⟨t10, hf⟩ := oC_s hf
    have t10 := of_decide_eq_true t10
    obtain ⟨g11, hf⟩ := oC_s hf
    refine q_lald (x := (hR h4 1283 a7)) b hE ea9 t10 g11 dX4_lookAt_83 ?_
    refine lv_goto (tgt := 88) b.1 b.2.1 dX4_lookAt_84 (by decide) ?_
    exact wfX4_lookAt_88 b hlk hr zs zk  hf hE (lv_sub hl [] rfl)
def fX4_lookAt_46  (h : PH) (x0 : Nat) (x1 : Int32) (x2 : Int32) (s0 : Int32) (s1 : Nat) : Option (PH) :=
  oC (decide (hT h s1 = 5)) (oL (sI h 521 s1 s0) (fun h13 => if x2 = 0 then (fX4_lookAt_67  h13 x0 x1 x2 (-1) x0) else (oC (decide (hT h13 x0 = 5)) (oN (hR h13 513 x0) (fun a16 => oC (decide (hT h13 a16 = 11)) (oN (hR h13 1282 a16) (fun a18 => oC (decide (hT h13 a18 = 101)) (oC (ix x1 (hN h13 a18)) (fX4_lookAt_67  h13 x0 x1 x2 (hA h13 a18 (Int32.toNatClampNeg x1)) x0)))))))))
set_option maxHeartbeats 4000000 in
theorem wfX4_lookAt_46 {args : Array Value} (b : Bd p s m c cX4_lookAt 3 RX4 D aC) (hlk : meth.locks = false) (hr : meth.sig.returnType = none) {Z : State → Prop} (zs : Z s) (zk : ZOK Z (Rg ad)) {hz : PH} {h : PH} {x0 : Nat} {x1 : Int32} {x2 : Int32} {s0 : Int32} {s1 : Nat}  {H : Heap} {locs : List Loc} {ls : Array Slot} (hf : fX4_lookAt_46 h x0 x1 x2 s0 s1 = some hz) (hE : CE (EX D aC ad h) (Rg ad) s H locs) (hl : lv_has ls 3 [(0, .ref (ad x0)), (1, .int x1), (2, .int x2)]) : W p l e (RM 0 0 0 0) s m args below meth c H locs 0 0 (MQ below (PQ (EX D aC ad hz) (Rg ad) none) args s 0 0 (Rg ad)) (F0 m 46 ls [.int s0, .ref (ad s1)]) := by
  unfold fX4_lookAt_46 at hf
  obtain ⟨t12, hf⟩ := oC_s hf
  have t12 := of_decide_eq_true t12
  obtain ⟨h13, eh13, hf⟩ := oL_s hf
  refine pX4_60 (x := (some s1)) b hE rfl t12 eh13 dX4_lookAt_46 (fun H locs hE => ?_)
  refine lv_aload_n b.1 b.2.1 dX4_lookAt_49 rfl (lv_at hl 0 rfl) ?_
  refine lv_iload_n b.1 b.2.1 dX4_lookAt_50 rfl (lv_at hl 2 rfl) ?_
  refine lv_if_eq (tgt := 66) b.1 b.2.1 dX4_lookAt_51 (by decide) (fun c14 => ?_) (fun c14 => ?_)
  · have hf := oI_t c14 hf
    refine lv_iconst (v := (-1)) b.1 b.2.1 dX4_lookAt_66 (by decide) ?_
    exact wfX4_lookAt_67 b hlk hr zs zk  hf hE (lv_sub hl [0, 1, 2] rfl)
  · have hf := oI_f c14 hf
    refine lv_aload_n b.1 b.2.1 dX4_lookAt_54 rfl (lv_at hl 0 rfl) ?_
    obtain ⟨t15, hf⟩ := oC_s hf
    have t15 := of_decide_eq_true t15
    refine gX4_12 (x := (some x0)) b hE rfl t15 dX4_lookAt_55 ?_
    obtain ⟨a16, ea16, hf⟩ := oN_s hf
    obtain ⟨t17, hf⟩ := oC_s hf
    have t17 := of_decide_eq_true t17
    refine gX4_152 (x := (hR h13 513 x0)) b hE ea16 t17 dX4_lookAt_58 ?_
    refine lv_iload_n b.1 b.2.1 dX4_lookAt_61 rfl (lv_at hl 1 rfl) ?_
    obtain ⟨a18, ea18, hf⟩ := oN_s hf
    obtain ⟨t19, hf⟩ := oC_s hf
    have t19 := of_decide_eq_true t19
    obtain ⟨g20, hf⟩ := oC_s hf
    refine q_iald (x := (hR h13 1282 a16)) b hE ea18 t19 g20 dX4_lookAt_62 ?_
    refine lv_goto (tgt := 67) b.1 b.2.1 dX4_lookAt_63 (by decide) ?_
    exact wfX4_lookAt_67 b hlk hr zs zk  hf hE (lv_sub hl [0, 1, 2] rfl)
def fX4_lookAt_20  (h : PH) (x0 : Nat) (x1 : Int32) (s0 : Int32) : Option (PH) :=
  oC (decide (hT h x0 = 5)) (oL (sI h 520 x0 x1) (fun h22 => if s0 = 0 then (fX4_lookAt_46  h22 x0 x1 s0 264 x0) else (oN (hR h22 513 x0) (fun a25 => oC (decide (hT h22 a25 = 11)) (oN (hR h22 1281 a25) (fun a27 => oC (decide (hT h22 a27 = 101)) (oC (ix x1 (hN h22 a27)) (fX4_lookAt_46  h22 x0 x1 s0 (hA h22 a27 (Int32.toNatClampNeg x1)) x0))))))))
set_option maxHeartbeats 4000000 in
theorem wfX4_lookAt_20 {args : Array Value} (b : Bd p s m c cX4_lookAt 3 RX4 D aC) (hlk : meth.locks = false) (hr : meth.sig.returnType = none) {Z : State → Prop} (zs : Z s) (zk : ZOK Z (Rg ad)) {hz : PH} {h : PH} {x0 : Nat} {x1 : Int32} {s0 : Int32}  {H : Heap} {locs : List Loc} {ls : Array Slot} (hf : fX4_lookAt_20 h x0 x1 s0 = some hz) (hE : CE (EX D aC ad h) (Rg ad) s H locs) (hl : lv_has ls 3 [(0, .ref (ad x0)), (1, .int x1)]) : W p l e (RM 0 0 0 0) s m args below meth c H locs 0 0 (MQ below (PQ (EX D aC ad hz) (Rg ad) none) args s 0 0 (Rg ad)) (F0 m 20 ls [.int s0]) := by
  unfold fX4_lookAt_20 at hf
  refine lv_istore_n (lv' := [(2, .int s0), (0, .ref (ad x0)), (1, .int x1)]) b.1 b.2.1 dX4_lookAt_20 rfl hl (by decide) rfl (fun ls hl => ?_)
  refine lv_aload_n b.1 b.2.1 dX4_lookAt_21 rfl (lv_at hl 1 rfl) ?_
  refine lv_iload_n b.1 b.2.1 dX4_lookAt_22 rfl (lv_at hl 2 rfl) ?_
  obtain ⟨t21, hf⟩ := oC_s hf
  have t21 := of_decide_eq_true t21
  obtain ⟨h22, eh22, hf⟩ := oL_s hf
  refine pX4_146 (x := (some x0)) b hE rfl t21 eh22 dX4_lookAt_23 (fun H locs hE => ?_)
  refine lv_aload_n b.1 b.2.1 dX4_lookAt_26 rfl (lv_at hl 1 rfl) ?_
  refine lv_iload_n b.1 b.2.1 dX4_lookAt_27 rfl (lv_at hl 0 rfl) ?_
  refine lv_if_eq (tgt := 43) b.1 b.2.1 dX4_lookAt_28 (by decide) (fun c23 => ?_) (fun c23 => ?_)
  · have hf := oI_t c23 hf
    refine lv_sipush (v := 264) b.1 b.2.1 dX4_lookAt_43 (by decide) ?_
    exact wfX4_lookAt_46 b hlk hr zs zk  hf hE (lv_sub hl [1, 2, 0] rfl)
  · have hf := oI_f c23 hf
    refine lv_aload_n b.1 b.2.1 dX4_lookAt_31 rfl (lv_at hl 1 rfl) ?_
    have t24 := tg_sI eh22 t21
    refine gX4_12 (x := (some x0)) b hE rfl t24 dX4_lookAt_32 ?_
    obtain ⟨a25, ea25, hf⟩ := oN_s hf
    obtain ⟨t26, hf⟩ := oC_s hf
    have t26 := of_decide_eq_true t26
    refine gX4_149 (x := (hR h22 513 x0)) b hE ea25 t26 dX4_lookAt_35 ?_
    refine lv_iload_n b.1 b.2.1 dX4_lookAt_38 rfl (lv_at hl 2 rfl) ?_
    obtain ⟨a27, ea27, hf⟩ := oN_s hf
    obtain ⟨t28, hf⟩ := oC_s hf
    have t28 := of_decide_eq_true t28
    obtain ⟨g29, hf⟩ := oC_s hf
    refine q_iald (x := (hR h22 1281 a25)) b hE ea27 t28 g29 dX4_lookAt_39 ?_
    refine lv_goto (tgt := 46) b.1 b.2.1 dX4_lookAt_40 (by decide) ?_
    exact wfX4_lookAt_46 b hlk hr zs zk  hf hE (lv_sub hl [1, 2, 0] rfl)
def fX4_lookAt_0  (h : PH) (x0 : Nat) (x1 : Int32) : Option (PH) :=
  if x1 < 0 then (fX4_lookAt_20  h x0 x1 0) else (oC (decide (hT h x0 = 5)) (oN (hR h 513 x0) (fun a32 => oC (decide (hT h a32 = 11)) (if (hI h 1284 a32) ≤ x1 then (fX4_lookAt_20  h x0 x1 0) else (fX4_lookAt_20  h x0 x1 1)))))
set_option maxHeartbeats 4000000 in
theorem wfX4_lookAt_0 {args : Array Value} (b : Bd p s m c cX4_lookAt 3 RX4 D aC) (hlk : meth.locks = false) (hr : meth.sig.returnType = none) {Z : State → Prop} (zs : Z s) (zk : ZOK Z (Rg ad)) {hz : PH} {h : PH} {x0 : Nat} {x1 : Int32}  {H : Heap} {locs : List Loc} {ls : Array Slot} (hf : fX4_lookAt_0 h x0 x1 = some hz) (hE : CE (EX D aC ad h) (Rg ad) s H locs) (hl : lv_has ls 3 [(0, .ref (ad x0)), (1, .int x1)]) : W p l e (RM 0 0 0 0) s m args below meth c H locs 0 0 (MQ below (PQ (EX D aC ad hz) (Rg ad) none) args s 0 0 (Rg ad)) (F0 m 0 ls []) := by
  unfold fX4_lookAt_0 at hf
  refine lv_iload_n b.1 b.2.1 dX4_lookAt_0 rfl (lv_at hl 1 rfl) ?_
  refine lv_if_lt (tgt := 19) b.1 b.2.1 dX4_lookAt_1 (by decide) (fun c30 => ?_) (fun c30 => ?_)
  · have hf := oI_t c30 hf
    refine lv_iconst (v := 0) b.1 b.2.1 dX4_lookAt_19 (by decide) ?_
    exact wfX4_lookAt_20 b hlk hr zs zk  hf hE (lv_sub hl [0, 1] rfl)
  · have hf := oI_f c30 hf
    refine lv_iload_n b.1 b.2.1 dX4_lookAt_4 rfl (lv_at hl 1 rfl) ?_
    refine lv_aload_n b.1 b.2.1 dX4_lookAt_5 rfl (lv_at hl 0 rfl) ?_
    obtain ⟨t31, hf⟩ := oC_s hf
    have t31 := of_decide_eq_true t31
    refine gX4_12 (x := (some x0)) b hE rfl t31 dX4_lookAt_6 ?_
    obtain ⟨a32, ea32, hf⟩ := oN_s hf
    obtain ⟨t33, hf⟩ := oC_s hf
    have t33 := of_decide_eq_true t33
    refine gX4_143 (x := (hR h 513 x0)) b hE ea32 t33 dX4_lookAt_9 ?_
    refine lv_icmp_ge (tgt := 19) b.1 b.2.1 dX4_lookAt_12 (by decide) (fun c34 => ?_) (fun c34 => ?_)
    · have hf := oI_t c34 hf
      refine lv_iconst (v := 0) b.1 b.2.1 dX4_lookAt_19 (by decide) ?_
      exact wfX4_lookAt_20 b hlk hr zs zk  hf hE (lv_sub hl [0, 1] rfl)
    · have hf := oI_f c34 hf
      refine lv_iconst (v := 1) b.1 b.2.1 dX4_lookAt_15 (by decide) ?_
      refine lv_goto (tgt := 20) b.1 b.2.1 dX4_lookAt_16 (by decide) ?_
      exact wfX4_lookAt_20 b hlk hr zs zk  hf hE (lv_sub hl [0, 1] rfl)
def fX4_lookAt (h : PH) (x0 : Nat) (x1 : Int32) : Option (PH) := fX4_lookAt_0 h x0 x1
set_option maxHeartbeats 4000000 in
theorem CX4_lookAt (l : Launch) (D : va_G) (aC : Nat → ClassId) (ad : Nat → Nat) {Z : State → Prop} (zk : ZOK Z (Rg ad)) {h : PH} {x0 : Nat} {x1 : Int32} {hz : PH} (hf : fX4_lookAt h x0 x1 = some hz) : CM l D aC Z yX4_lookAt cX4_lookAt 3 (none) 0 0 0 0 (EX D aC ad h) [.ref (ad x0), .int x1] (EX D aC ad hz) none (Rg ad) := by
  refine CM.of rfl ?_
  intro p e s m below meth c b hr hlk hin2 zs hE
  refine k_ent (Nat.le_of_ble_eq_true rfl) (fun ls hl => ?_)
  exact wfX4_lookAt_0 b hlk hr zs zk hf hE (lv_sub hl [0, 1] rfl)
theorem dX4_begin_0 : decode cX4_begin 0 = .ok (.aload_n 0, 1) := by decide +kernel
theorem dX4_begin_1 : decode cX4_begin 1 = .ok (.getfield 12, 3) := by decide +kernel
theorem dX4_begin_4 : decode cX4_begin 4 = .ok (.aload_n 1, 1) := by decide +kernel
theorem dX4_begin_5 : decode cX4_begin 5 = .ok (.invokevirtual 29, 3) := by decide +kernel
theorem dX4_begin_8 : decode cX4_begin 8 = .ok (.aload_n 0, 1) := by decide +kernel
theorem dX4_begin_9 : decode cX4_begin 9 = .ok (.iload_n 2, 1) := by decide +kernel
theorem dX4_begin_10 : decode cX4_begin 10 = .ok (.putfield 33, 3) := by decide +kernel
theorem dX4_begin_13 : decode cX4_begin 13 = .ok (.aload_n 0, 1) := by decide +kernel
theorem dX4_begin_14 : decode cX4_begin 14 = .ok (.iconst 0, 1) := by decide +kernel
theorem dX4_begin_15 : decode cX4_begin 15 = .ok (.putfield 37, 3) := by decide +kernel
theorem dX4_begin_18 : decode cX4_begin 18 = .ok (.aload_n 0, 1) := by decide +kernel
theorem dX4_begin_19 : decode cX4_begin 19 = .ok (.iconst 0, 1) := by decide +kernel
theorem dX4_begin_20 : decode cX4_begin 20 = .ok (.putfield 40, 3) := by decide +kernel
theorem dX4_begin_23 : decode cX4_begin 23 = .ok (.aload_n 0, 1) := by decide +kernel
theorem dX4_begin_24 : decode cX4_begin 24 = .ok (.iconst 0, 1) := by decide +kernel
theorem dX4_begin_25 : decode cX4_begin 25 = .ok (.putfield 44, 3) := by decide +kernel
theorem dX4_begin_28 : decode cX4_begin 28 = .ok (.aload_n 0, 1) := by decide +kernel
theorem dX4_begin_29 : decode cX4_begin 29 = .ok (.iconst (-1), 1) := by decide +kernel
theorem dX4_begin_30 : decode cX4_begin 30 = .ok (.putfield 47, 3) := by decide +kernel
theorem dX4_begin_33 : decode cX4_begin 33 = .ok (.aload_n 0, 1) := by decide +kernel
theorem dX4_begin_34 : decode cX4_begin 34 = .ok (.iconst 0, 1) := by decide +kernel
theorem dX4_begin_35 : decode cX4_begin 35 = .ok (.putfield 50, 3) := by decide +kernel
theorem dX4_begin_38 : decode cX4_begin 38 = .ok (.aload_n 0, 1) := by decide +kernel
theorem dX4_begin_39 : decode cX4_begin 39 = .ok (.iconst (-1), 1) := by decide +kernel
theorem dX4_begin_40 : decode cX4_begin 40 = .ok (.putfield 53, 3) := by decide +kernel
theorem dX4_begin_43 : decode cX4_begin 43 = .ok (.aload_n 0, 1) := by decide +kernel
theorem dX4_begin_44 : decode cX4_begin 44 = .ok (.iconst 0, 1) := by decide +kernel
theorem dX4_begin_45 : decode cX4_begin 45 = .ok (.invokevirtual 56, 3) := by decide +kernel
theorem dX4_begin_48 : decode cX4_begin 48 = .ok (.return_, 1) := by decide +kernel
def fX4_begin_0  (h : PH) (x0 : Nat) (x1 : Option Nat) (x2 : Int32) : Option (PH × Nat × Nat) :=
  oC (decide (hT h x0 = 5)) (oN (hR h 513 x0) (fun a2 => oC (decide (hT h a2 = 11)) (oB3 (fX10_scan h a2 x1) (fun h5 i6 j7 => oK3 i6 j7 (oC (decide (hT h5 x0 = 5)) (oL (sI h5 518 x0 x2) (fun h11 => oL (sI h11 517 x0 0) (fun h13 => oL (sI h13 519 x0 0) (fun h15 => oL (sI h15 524 x0 0) (fun h17 => oL (sI h17 525 x0 (-1)) (fun h19 => oL (sI h19 526 x0 0) (fun h21 => oL (sI h21 527 x0 (-1)) (fun h23 => oB (fX4_lookAt h23 x0 0) (fun h26 => some (h26, 0, 0)))))))))))))))
set_option maxHeartbeats 4000000 in
theorem wfX4_begin_0 {mc ms cells slots : Nat} {args : Array Value} (b : Bd p s m c cX4_begin 3 RX4 D aC) (hlk : meth.locks = false) (hr : meth.sig.returnType = none) {Z : State → Prop} (zs : Z s) (zk : ZOK Z (Rg ad)) {hz : PH} {h : PH} {x0 : Nat} {x1 : Option Nat} {x2 : Int32} {kz : Nat} {mz : Nat}  {H : Heap} {locs : List Loc} {ls : Array Slot} (hf : fX4_begin_0 h x0 x1 x2 = some (hz, kz, mz)) (hk : cells + kz ≤ mc) (hs : slots + mz ≤ ms) (hE : CE (EX D aC ad h) (Rg ad) s H locs) (hl : lv_has ls 3 [(0, .ref (ad x0)), (1, va_rf (Option.map ad x1)), (2, .int x2)]) : W p l e (RM 4 91 mc ms) s m args below meth c H locs cells slots (MQ below (PQ (EX D aC ad hz) (Rg ad) none) args s mc ms (Rg ad)) (F0 m 0 ls []) := by
  unfold fX4_begin_0 at hf
  refine lv_aload_n b.1 b.2.1 dX4_begin_0 rfl (lv_at hl 0 rfl) ?_
  obtain ⟨t1, hf⟩ := oC_s hf
  have t1 := of_decide_eq_true t1
  refine gX4_12 (x := (some x0)) b hE rfl t1 dX4_begin_1 ?_
  refine k_aload_n (x := Option.map ad x1) b dX4_begin_4 rfl (lv_at hl 1 rfl) ?_
  obtain ⟨a2, ea2, hf⟩ := oN_s hf
  obtain ⟨t3, hf⟩ := oC_s hf
  have t3 := of_decide_eq_true t3
  obtain ⟨h5, i6, j7, hc4, hf⟩ := oB3_s hf
  obtain ⟨i8, j9, ei8, ej9, hf⟩ := oK3_s hf
  refine k_stk [va_rf (Option.map ad x1)] ea2 ?_
  refine k_callV (C := RX10) b zs zk hE (CX10_scan l D aC ad zk hc4) mc_X10_scan (in2 116 rfl rfl) mi_X10_scan ms_X10_scan ini_RX10 ok_X10_scan (x_recv b hE (ci := 10) rfl (by decide) t3) ⟨Nat.le_of_ble_eq_true rfl, Nat.le_of_ble_eq_true rfl⟩ rfl hl.1 rfl (k_room _ (by exact Nat.le_of_ble_eq_true rfl)) ⟨le_room hk ei8, le_room hs ej9⟩ dX4_begin_5 (fun H locs hE => ?_)
  have hk := le_step hk ei8
  have hs := le_step hs ej9
  refine lv_aload_n b.1 b.2.1 dX4_begin_8 rfl (lv_at hl 0 rfl) ?_
  refine lv_iload_n b.1 b.2.1 dX4_begin_9 rfl (lv_at hl 2 rfl) ?_
  obtain ⟨t10, hf⟩ := oC_s hf
  have t10 := of_decide_eq_true t10
  obtain ⟨h11, eh11, hf⟩ := oL_s hf
  refine pX4_33 (x := (some x0)) b hE rfl t10 eh11 dX4_begin_10 (fun H locs hE => ?_)
  refine lv_aload_n b.1 b.2.1 dX4_begin_13 rfl (lv_at hl 0 rfl) ?_
  refine lv_iconst (v := 0) b.1 b.2.1 dX4_begin_14 (by decide) ?_
  have t12 := tg_sI eh11 t10
  obtain ⟨h13, eh13, hf⟩ := oL_s hf
  refine pX4_37 (x := (some x0)) b hE rfl t12 eh13 dX4_begin_15 (fun H locs hE => ?_)
  refine lv_aload_n b.1 b.2.1 dX4_begin_18 rfl (lv_at hl 0 rfl) ?_
  refine lv_iconst (v := 0) b.1 b.2.1 dX4_begin_19 (by decide) ?_
  have t14 := tg_sI eh13 t12
  obtain ⟨h15, eh15, hf⟩ := oL_s hf
  refine pX4_40 (x := (some x0)) b hE rfl t14 (by decide) eh15 dX4_begin_20 (fun H locs hE => ?_)
  refine lv_aload_n b.1 b.2.1 dX4_begin_23 rfl (lv_at hl 0 rfl) ?_
  refine lv_iconst (v := 0) b.1 b.2.1 dX4_begin_24 (by decide) ?_
  have t16 := tg_sI eh15 t14
  obtain ⟨h17, eh17, hf⟩ := oL_s hf
  refine pX4_44 (x := (some x0)) b hE rfl t16 eh17 dX4_begin_25 (fun H locs hE => ?_)
  refine lv_aload_n b.1 b.2.1 dX4_begin_28 rfl (lv_at hl 0 rfl) ?_
  refine lv_iconst (v := (-1)) b.1 b.2.1 dX4_begin_29 (by decide) ?_
  have t18 := tg_sI eh17 t16
  obtain ⟨h19, eh19, hf⟩ := oL_s hf
  refine pX4_47 (x := (some x0)) b hE rfl t18 eh19 dX4_begin_30 (fun H locs hE => ?_)
  refine lv_aload_n b.1 b.2.1 dX4_begin_33 rfl (lv_at hl 0 rfl) ?_
  refine lv_iconst (v := 0) b.1 b.2.1 dX4_begin_34 (by decide) ?_
  have t20 := tg_sI eh19 t18
  obtain ⟨h21, eh21, hf⟩ := oL_s hf
  refine pX4_50 (x := (some x0)) b hE rfl t20 eh21 dX4_begin_35 (fun H locs hE => ?_)
  refine lv_aload_n b.1 b.2.1 dX4_begin_38 rfl (lv_at hl 0 rfl) ?_
  refine lv_iconst (v := (-1)) b.1 b.2.1 dX4_begin_39 (by decide) ?_
  have t22 := tg_sI eh21 t20
  obtain ⟨h23, eh23, hf⟩ := oL_s hf
  refine pX4_53 (x := (some x0)) b hE rfl t22 eh23 dX4_begin_40 (fun H locs hE => ?_)
  refine lv_aload_n b.1 b.2.1 dX4_begin_43 rfl (lv_at hl 0 rfl) ?_
  refine lv_iconst (v := 0) b.1 b.2.1 dX4_begin_44 (by decide) ?_
  have t24 := tg_sI eh23 t22
  obtain ⟨h26, hc25, hf⟩ := oB_s hf
  refine k_callV0 (C := RX4) b zs zk hE (CX4_lookAt l D aC ad zk hc25) mc_X4_lookAt (in2 163 rfl rfl) mi_X4_lookAt ms_X4_lookAt ini_RX4 ok_X4_lookAt (x_recv b hE (ci := 4) rfl (by decide) t24) ⟨Nat.le_of_ble_eq_true rfl, Nat.le_of_ble_eq_true rfl⟩ rfl hl.1 rfl (k_room _ (by exact Nat.le_of_ble_eq_true rfl)) ⟨le_0 hk, le_0 hs⟩ dX4_begin_45 (fun H locs hE => ?_)
  cases hf
  exact k_vret b hlk hr hE (le_c hk) (le_c hs) dX4_begin_48
def fX4_begin (h : PH) (x0 : Nat) (x1 : Option Nat) (x2 : Int32) : Option (PH × Nat × Nat) := fX4_begin_0 h x0 x1 x2
set_option maxHeartbeats 4000000 in
theorem CX4_begin (l : Launch) (D : va_G) (aC : Nat → ClassId) (ad : Nat → Nat) {Z : State → Prop} (zk : ZOK Z (Rg ad)) {h : PH} {x0 : Nat} {x1 : Option Nat} {x2 : Int32} {hz : PH} {kz : Nat} {mz : Nat} (hf : fX4_begin h x0 x1 x2 = some (hz, kz, mz)) : CM l D aC Z yX4_begin cX4_begin 3 (none) 4 91 kz mz (EX D aC ad h) [.ref (ad x0), va_rf (Option.map ad x1), .int x2] (EX D aC ad hz) none (Rg ad) := by
  refine CM.of rfl ?_
  intro p e s m below meth c b hr hlk hin2 zs hE
  cases x1 <;> (
    refine k_ent (Nat.le_of_ble_eq_true rfl) (fun ls hl => ?_)
    exact wfX4_begin_0 b hlk hr zs zk hf (by omega) (by omega) hE (lv_sub hl [0, 1, 2] rfl))
theorem dX4_goesOn_0 : decode cX4_goesOn 0 = .ok (.aload_n 0, 1) := by decide +kernel
theorem dX4_goesOn_1 : decode cX4_goesOn 1 = .ok (.getfield 44, 3) := by decide +kernel
theorem dX4_goesOn_4 : decode cX4_goesOn 4 = .ok (.ifCond .ne 24, 3) := by decide +kernel
theorem dX4_goesOn_7 : decode cX4_goesOn 7 = .ok (.aload_n 0, 1) := by decide +kernel
theorem dX4_goesOn_8 : decode cX4_goesOn 8 = .ok (.getfield 40, 3) := by decide +kernel
theorem dX4_goesOn_11 : decode cX4_goesOn 11 = .ok (.ifCond .ne 13, 3) := by decide +kernel
theorem dX4_goesOn_14 : decode cX4_goesOn 14 = .ok (.aload_n 0, 1) := by decide +kernel
theorem dX4_goesOn_15 : decode cX4_goesOn 15 = .ok (.getfield 60, 3) := by decide +kernel
theorem dX4_goesOn_18 : decode cX4_goesOn 18 = .ok (.sipush 263, 3) := by decide +kernel
theorem dX4_goesOn_21 : decode cX4_goesOn 21 = .ok (.if_icmp .eq 7, 3) := by decide +kernel
theorem dX4_goesOn_24 : decode cX4_goesOn 24 = .ok (.iconst 1, 1) := by decide +kernel
theorem dX4_goesOn_25 : decode cX4_goesOn 25 = .ok (.goto 4, 3) := by decide +kernel
theorem dX4_goesOn_28 : decode cX4_goesOn 28 = .ok (.iconst 0, 1) := by decide +kernel
theorem dX4_goesOn_29 : decode cX4_goesOn 29 = .ok (.ireturn, 1) := by decide +kernel
def fX4_goesOn_0  (h : PH) (x0 : Nat) : Option (Int32) :=
  oC (decide (hT h x0 = 5)) (if (hI h 524 x0) = 0 then (if (hI h 519 x0) = 0 then (if (hI h 521 x0) = 263 then (some (0)) else (some (1))) else (some (1))) else (some (0)))
set_option maxHeartbeats 4000000 in
theorem wfX4_goesOn_0 {args : Array Value} (b : Bd p s m c cX4_goesOn 1 RX4 D aC) (hlk : meth.locks = false) (hr : meth.sig.returnType = some .boolean) {Z : State → Prop} (zs : Z s) (zk : ZOK Z (Rg ad)) {rz : Int32} {h : PH} {x0 : Nat}  {H : Heap} {locs : List Loc} {ls : Array Slot} (hf : fX4_goesOn_0 h x0 = some rz) (hE : CE (EX D aC ad h) (Rg ad) s H locs) (hl : lv_has ls 1 [(0, .ref (ad x0))]) : W p l e (RM 0 0 0 0) s m args below meth c H locs 0 0 (MQ below (PQ (EX D aC ad h) (Rg ad) (some (.int rz))) args s 0 0 (Rg ad)) (F0 m 0 ls []) := by
  unfold fX4_goesOn_0 at hf
  refine lv_aload_n b.1 b.2.1 dX4_goesOn_0 rfl (lv_at hl 0 rfl) ?_
  obtain ⟨t1, hf⟩ := oC_s hf
  have t1 := of_decide_eq_true t1
  refine gX4_44 (x := (some x0)) b hE rfl t1 dX4_goesOn_1 ?_
  refine lv_if_ne (tgt := 28) b.1 b.2.1 dX4_goesOn_4 (by decide) (fun c2 => ?_) (fun c2 => ?_)
  · have hf := oI_f c2 hf
    refine lv_iconst (v := 0) b.1 b.2.1 dX4_goesOn_28 (by decide) ?_
    cases hf
    exact k_zret b hlk hr (by decide) hE (Nat.le_refl _) (Nat.le_refl _) dX4_goesOn_29
  · have hf := oI_t c2 hf
    refine lv_aload_n b.1 b.2.1 dX4_goesOn_7 rfl (lv_at hl 0 rfl) ?_
    refine gX4_40 (x := (some x0)) b hE rfl t1 dX4_goesOn_8 ?_
    refine lv_if_ne (tgt := 24) b.1 b.2.1 dX4_goesOn_11 (by decide) (fun c3 => ?_) (fun c3 => ?_)
    · have hf := oI_f c3 hf
      refine lv_iconst (v := 1) b.1 b.2.1 dX4_goesOn_24 (by decide) ?_
      refine lv_goto (tgt := 29) b.1 b.2.1 dX4_goesOn_25 (by decide) ?_
      cases hf
      exact k_zret b hlk hr (by decide) hE (Nat.le_refl _) (Nat.le_refl _) dX4_goesOn_29
    · have hf := oI_t c3 hf
      refine lv_aload_n b.1 b.2.1 dX4_goesOn_14 rfl (lv_at hl 0 rfl) ?_
      refine gX4_60 (x := (some x0)) b hE rfl t1 dX4_goesOn_15 ?_
      refine lv_sipush (v := 263) b.1 b.2.1 dX4_goesOn_18 (by decide) ?_
      refine lv_icmp_eq (tgt := 28) b.1 b.2.1 dX4_goesOn_21 (by decide) (fun c4 => ?_) (fun c4 => ?_)
      · have hf := oI_t c4 hf
        refine lv_iconst (v := 0) b.1 b.2.1 dX4_goesOn_28 (by decide) ?_
        cases hf
        exact k_zret b hlk hr (by decide) hE (Nat.le_refl _) (Nat.le_refl _) dX4_goesOn_29
      · have hf := oI_f c4 hf
        refine lv_iconst (v := 1) b.1 b.2.1 dX4_goesOn_24 (by decide) ?_
        refine lv_goto (tgt := 29) b.1 b.2.1 dX4_goesOn_25 (by decide) ?_
        cases hf
        exact k_zret b hlk hr (by decide) hE (Nat.le_refl _) (Nat.le_refl _) dX4_goesOn_29
def fX4_goesOn (h : PH) (x0 : Nat) : Option (Int32) := fX4_goesOn_0 h x0
set_option maxHeartbeats 4000000 in
theorem CX4_goesOn (l : Launch) (D : va_G) (aC : Nat → ClassId) (ad : Nat → Nat) {Z : State → Prop} (zk : ZOK Z (Rg ad)) {h : PH} {x0 : Nat} {rz : Int32} (hf : fX4_goesOn h x0 = some rz) : CM l D aC Z yX4_goesOn cX4_goesOn 1 (some .boolean) 0 0 0 0 (EX D aC ad h) [.ref (ad x0)] (EX D aC ad h) (some (.int rz)) (Rg ad) := by
  refine CM.of rfl ?_
  intro p e s m below meth c b hr hlk hin2 zs hE
  refine k_ent (Nat.le_of_ble_eq_true rfl) (fun ls hl => ?_)
  exact wfX4_goesOn_0 b hlk hr zs zk hf hE (lv_sub hl [0] rfl)
theorem dX4_isAtRule_0 : decode cX4_isAtRule 0 = .ok (.aload_n 0, 1) := by decide +kernel
theorem dX4_isAtRule_1 : decode cX4_isAtRule 1 = .ok (.getfield 40, 3) := by decide +kernel
theorem dX4_isAtRule_4 : decode cX4_isAtRule 4 = .ok (.ifCond .eq 37, 3) := by decide +kernel
theorem dX4_isAtRule_7 : decode cX4_isAtRule 7 = .ok (.aload_n 0, 1) := by decide +kernel
theorem dX4_isAtRule_8 : decode cX4_isAtRule 8 = .ok (.getfield 60, 3) := by decide +kernel
theorem dX4_isAtRule_11 : decode cX4_isAtRule 11 = .ok (.sipush 309, 3) := by decide +kernel
theorem dX4_isAtRule_14 : decode cX4_isAtRule 14 = .ok (.if_icmp .eq 23, 3) := by decide +kernel
theorem dX4_isAtRule_17 : decode cX4_isAtRule 17 = .ok (.aload_n 0, 1) := by decide +kernel
theorem dX4_isAtRule_18 : decode cX4_isAtRule 18 = .ok (.getfield 60, 3) := by decide +kernel
theorem dX4_isAtRule_21 : decode cX4_isAtRule 21 = .ok (.sipush 310, 3) := by decide +kernel
theorem dX4_isAtRule_24 : decode cX4_isAtRule 24 = .ok (.if_icmp .eq 13, 3) := by decide +kernel
theorem dX4_isAtRule_27 : decode cX4_isAtRule 27 = .ok (.aload_n 0, 1) := by decide +kernel
theorem dX4_isAtRule_28 : decode cX4_isAtRule 28 = .ok (.getfield 60, 3) := by decide +kernel
theorem dX4_isAtRule_31 : decode cX4_isAtRule 31 = .ok (.sipush 311, 3) := by decide +kernel
theorem dX4_isAtRule_34 : decode cX4_isAtRule 34 = .ok (.if_icmp .ne 7, 3) := by decide +kernel
theorem dX4_isAtRule_37 : decode cX4_isAtRule 37 = .ok (.iconst 1, 1) := by decide +kernel
theorem dX4_isAtRule_38 : decode cX4_isAtRule 38 = .ok (.goto 4, 3) := by decide +kernel
theorem dX4_isAtRule_41 : decode cX4_isAtRule 41 = .ok (.iconst 0, 1) := by decide +kernel
theorem dX4_isAtRule_42 : decode cX4_isAtRule 42 = .ok (.ireturn, 1) := by decide +kernel
def fX4_isAtRule_0  (h : PH) (x0 : Nat) : Option (Int32) :=
  oC (decide (hT h x0 = 5)) (if (hI h 519 x0) = 0 then (some (0)) else (if (hI h 521 x0) = 309 then (some (1)) else (if (hI h 521 x0) = 310 then (some (1)) else (if (hI h 521 x0) = 311 then (some (1)) else (some (0))))))
set_option maxHeartbeats 4000000 in
theorem wfX4_isAtRule_0 {args : Array Value} (b : Bd p s m c cX4_isAtRule 1 RX4 D aC) (hlk : meth.locks = false) (hr : meth.sig.returnType = some .boolean) {Z : State → Prop} (zs : Z s) (zk : ZOK Z (Rg ad)) {rz : Int32} {h : PH} {x0 : Nat}  {H : Heap} {locs : List Loc} {ls : Array Slot} (hf : fX4_isAtRule_0 h x0 = some rz) (hE : CE (EX D aC ad h) (Rg ad) s H locs) (hl : lv_has ls 1 [(0, .ref (ad x0))]) : W p l e (RM 0 0 0 0) s m args below meth c H locs 0 0 (MQ below (PQ (EX D aC ad h) (Rg ad) (some (.int rz))) args s 0 0 (Rg ad)) (F0 m 0 ls []) := by
  unfold fX4_isAtRule_0 at hf
  refine lv_aload_n b.1 b.2.1 dX4_isAtRule_0 rfl (lv_at hl 0 rfl) ?_
  obtain ⟨t1, hf⟩ := oC_s hf
  have t1 := of_decide_eq_true t1
  refine gX4_40 (x := (some x0)) b hE rfl t1 dX4_isAtRule_1 ?_
  refine lv_if_eq (tgt := 41) b.1 b.2.1 dX4_isAtRule_4 (by decide) (fun c2 => ?_) (fun c2 => ?_)
  · have hf := oI_t c2 hf
    refine lv_iconst (v := 0) b.1 b.2.1 dX4_isAtRule_41 (by decide) ?_
    cases hf
    exact k_zret b hlk hr (by decide) hE (Nat.le_refl _) (Nat.le_refl _) dX4_isAtRule_42
  · have hf := oI_f c2 hf
    refine lv_aload_n b.1 b.2.1 dX4_isAtRule_7 rfl (lv_at hl 0 rfl) ?_
    refine gX4_60 (x := (some x0)) b hE rfl t1 dX4_isAtRule_8 ?_
    refine lv_sipush (v := 309) b.1 b.2.1 dX4_isAtRule_11 (by decide) ?_
    refine lv_icmp_eq (tgt := 37) b.1 b.2.1 dX4_isAtRule_14 (by decide) (fun c3 => ?_) (fun c3 => ?_)
    · have hf := oI_t c3 hf
      refine lv_iconst (v := 1) b.1 b.2.1 dX4_isAtRule_37 (by decide) ?_
      refine lv_goto (tgt := 42) b.1 b.2.1 dX4_isAtRule_38 (by decide) ?_
      cases hf
      exact k_zret b hlk hr (by decide) hE (Nat.le_refl _) (Nat.le_refl _) dX4_isAtRule_42
    · have hf := oI_f c3 hf
      refine lv_aload_n b.1 b.2.1 dX4_isAtRule_17 rfl (lv_at hl 0 rfl) ?_
      refine gX4_60 (x := (some x0)) b hE rfl t1 dX4_isAtRule_18 ?_
      refine lv_sipush (v := 310) b.1 b.2.1 dX4_isAtRule_21 (by decide) ?_
      refine lv_icmp_eq (tgt := 37) b.1 b.2.1 dX4_isAtRule_24 (by decide) (fun c4 => ?_) (fun c4 => ?_)
      · have hf := oI_t c4 hf
        refine lv_iconst (v := 1) b.1 b.2.1 dX4_isAtRule_37 (by decide) ?_
        refine lv_goto (tgt := 42) b.1 b.2.1 dX4_isAtRule_38 (by decide) ?_
        cases hf
        exact k_zret b hlk hr (by decide) hE (Nat.le_refl _) (Nat.le_refl _) dX4_isAtRule_42
      · have hf := oI_f c4 hf
        refine lv_aload_n b.1 b.2.1 dX4_isAtRule_27 rfl (lv_at hl 0 rfl) ?_
        refine gX4_60 (x := (some x0)) b hE rfl t1 dX4_isAtRule_28 ?_
        refine lv_sipush (v := 311) b.1 b.2.1 dX4_isAtRule_31 (by decide) ?_
        refine lv_icmp_ne (tgt := 41) b.1 b.2.1 dX4_isAtRule_34 (by decide) (fun c5 => ?_) (fun c5 => ?_)
        · have hf := oI_f c5 hf
          refine lv_iconst (v := 0) b.1 b.2.1 dX4_isAtRule_41 (by decide) ?_
          cases hf
          exact k_zret b hlk hr (by decide) hE (Nat.le_refl _) (Nat.le_refl _) dX4_isAtRule_42
        · have hf := oI_t c5 hf
          refine lv_iconst (v := 1) b.1 b.2.1 dX4_isAtRule_37 (by decide) ?_
          refine lv_goto (tgt := 42) b.1 b.2.1 dX4_isAtRule_38 (by decide) ?_
          cases hf
          exact k_zret b hlk hr (by decide) hE (Nat.le_refl _) (Nat.le_refl _) dX4_isAtRule_42
def fX4_isAtRule (h : PH) (x0 : Nat) : Option (Int32) := fX4_isAtRule_0 h x0
set_option maxHeartbeats 4000000 in
theorem CX4_isAtRule (l : Launch) (D : va_G) (aC : Nat → ClassId) (ad : Nat → Nat) {Z : State → Prop} (zk : ZOK Z (Rg ad)) {h : PH} {x0 : Nat} {rz : Int32} (hf : fX4_isAtRule h x0 = some rz) : CM l D aC Z yX4_isAtRule cX4_isAtRule 1 (some .boolean) 0 0 0 0 (EX D aC ad h) [.ref (ad x0)] (EX D aC ad h) (some (.int rz)) (Rg ad) := by
  refine CM.of rfl ?_
  intro p e s m below meth c b hr hlk hin2 zs hE
  refine k_ent (Nat.le_of_ble_eq_true rfl) (fun ls hl => ?_)
  exact wfX4_isAtRule_0 b hlk hr zs zk hf hE (lv_sub hl [0] rfl)
theorem dX4_stopAt_0 : decode cX4_stopAt 0 = .ok (.aload_n 0, 1) := by decide +kernel
theorem dX4_stopAt_1 : decode cX4_stopAt 1 = .ok (.getfield 44, 3) := by decide +kernel
theorem dX4_stopAt_4 : decode cX4_stopAt 4 = .ok (.ifCond .ne 23, 3) := by decide +kernel
theorem dX4_stopAt_7 : decode cX4_stopAt 7 = .ok (.aload_n 0, 1) := by decide +kernel
theorem dX4_stopAt_8 : decode cX4_stopAt 8 = .ok (.iload_n 1, 1) := by decide +kernel
theorem dX4_stopAt_9 : decode cX4_stopAt 9 = .ok (.putfield 44, 3) := by decide +kernel
theorem dX4_stopAt_12 : decode cX4_stopAt 12 = .ok (.aload_n 0, 1) := by decide +kernel
theorem dX4_stopAt_13 : decode cX4_stopAt 13 = .ok (.aload_n 0, 1) := by decide +kernel
theorem dX4_stopAt_14 : decode cX4_stopAt 14 = .ok (.getfield 155, 3) := by decide +kernel
theorem dX4_stopAt_17 : decode cX4_stopAt 17 = .ok (.putfield 47, 3) := by decide +kernel
theorem dX4_stopAt_20 : decode cX4_stopAt 20 = .ok (.aload_n 0, 1) := by decide +kernel
theorem dX4_stopAt_21 : decode cX4_stopAt 21 = .ok (.sipush 264, 3) := by decide +kernel
theorem dX4_stopAt_24 : decode cX4_stopAt 24 = .ok (.putfield 60, 3) := by decide +kernel
theorem dX4_stopAt_27 : decode cX4_stopAt 27 = .ok (.return_, 1) := by decide +kernel
def fX4_stopAt_0  (h : PH) (x0 : Nat) (x1 : Int32) : Option (PH) :=
  oC (decide (hT h x0 = 5)) (if (hI h 524 x0) = 0 then (oL (sI h 524 x0 x1) (fun h3 => oL (sI h3 525 x0 (hI h3 522 x0)) (fun h5 => oL (sI h5 521 x0 264) (fun h7 => some (h7))))) else (some (h)))
set_option maxHeartbeats 4000000 in
theorem wfX4_stopAt_0 {args : Array Value} (b : Bd p s m c cX4_stopAt 2 RX4 D aC) (hlk : meth.locks = false) (hr : meth.sig.returnType = none) {Z : State → Prop} (zs : Z s) (zk : ZOK Z (Rg ad)) {hz : PH} {h : PH} {x0 : Nat} {x1 : Int32}  {H : Heap} {locs : List Loc} {ls : Array Slot} (hf : fX4_stopAt_0 h x0 x1 = some hz) (hE : CE (EX D aC ad h) (Rg ad) s H locs) (hl : lv_has ls 2 [(0, .ref (ad x0)), (1, .int x1)]) : W p l e (RM 0 0 0 0) s m args below meth c H locs 0 0 (MQ below (PQ (EX D aC ad hz) (Rg ad) none) args s 0 0 (Rg ad)) (F0 m 0 ls []) := by
  unfold fX4_stopAt_0 at hf
  refine lv_aload_n b.1 b.2.1 dX4_stopAt_0 rfl (lv_at hl 0 rfl) ?_
  obtain ⟨t1, hf⟩ := oC_s hf
  have t1 := of_decide_eq_true t1
  refine gX4_44 (x := (some x0)) b hE rfl t1 dX4_stopAt_1 ?_
  refine lv_if_ne (tgt := 27) b.1 b.2.1 dX4_stopAt_4 (by decide) (fun c2 => ?_) (fun c2 => ?_)
  · have hf := oI_f c2 hf
    cases hf
    exact k_vret b hlk hr hE (Nat.le_refl _) (Nat.le_refl _) dX4_stopAt_27
  · have hf := oI_t c2 hf
    refine lv_aload_n b.1 b.2.1 dX4_stopAt_7 rfl (lv_at hl 0 rfl) ?_
    refine lv_iload_n b.1 b.2.1 dX4_stopAt_8 rfl (lv_at hl 1 rfl) ?_
    obtain ⟨h3, eh3, hf⟩ := oL_s hf
    refine pX4_44 (x := (some x0)) b hE rfl t1 eh3 dX4_stopAt_9 (fun H locs hE => ?_)
    refine lv_aload_n b.1 b.2.1 dX4_stopAt_12 rfl (lv_at hl 0 rfl) ?_
    refine lv_aload_n b.1 b.2.1 dX4_stopAt_13 rfl (lv_at hl 0 rfl) ?_
    have t4 := tg_sI eh3 t1
    refine gX4_155 (x := (some x0)) b hE rfl t4 dX4_stopAt_14 ?_
    obtain ⟨h5, eh5, hf⟩ := oL_s hf
    refine pX4_47 (x := (some x0)) b hE rfl t4 eh5 dX4_stopAt_17 (fun H locs hE => ?_)
    refine lv_aload_n b.1 b.2.1 dX4_stopAt_20 rfl (lv_at hl 0 rfl) ?_
    refine lv_sipush (v := 264) b.1 b.2.1 dX4_stopAt_21 (by decide) ?_
    have t6 := tg_sI eh5 t4
    obtain ⟨h7, eh7, hf⟩ := oL_s hf
    refine pX4_60 (x := (some x0)) b hE rfl t6 eh7 dX4_stopAt_24 (fun H locs hE => ?_)
    cases hf
    exact k_vret b hlk hr hE (Nat.le_refl _) (Nat.le_refl _) dX4_stopAt_27
def fX4_stopAt (h : PH) (x0 : Nat) (x1 : Int32) : Option (PH) := fX4_stopAt_0 h x0 x1
set_option maxHeartbeats 4000000 in
theorem CX4_stopAt (l : Launch) (D : va_G) (aC : Nat → ClassId) (ad : Nat → Nat) {Z : State → Prop} (zk : ZOK Z (Rg ad)) {h : PH} {x0 : Nat} {x1 : Int32} {hz : PH} (hf : fX4_stopAt h x0 x1 = some hz) : CM l D aC Z yX4_stopAt cX4_stopAt 2 (none) 0 0 0 0 (EX D aC ad h) [.ref (ad x0), .int x1] (EX D aC ad hz) none (Rg ad) := by
  refine CM.of rfl ?_
  intro p e s m below meth c b hr hlk hin2 zs hE
  refine k_ent (Nat.le_of_ble_eq_true rfl) (fun ls hl => ?_)
  exact wfX4_stopAt_0 b hlk hr zs zk hf hE (lv_sub hl [0, 1] rfl)
end
