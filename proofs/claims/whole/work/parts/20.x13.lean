section
variable {p : Program} {l : Launch} {e : Env} {s : State} {m : MethodId} {below : List Frame} {meth : Method} {c : Code} {D : va_G} {aC : Nat → ClassId} {ad : Nat → Nat}
theorem dX5_list_0 : decode cX5_list 0 = .ok (.aload_n 0, 1) := by decide +kernel
theorem dX5_list_1 : decode cX5_list 1 = .ok (.getfield 90, 3) := by decide +kernel
theorem dX5_list_4 : decode cX5_list 4 = .ok (.aload_n 0, 1) := by decide +kernel
theorem dX5_list_5 : decode cX5_list 5 = .ok (.getfield 31, 3) := by decide +kernel
theorem dX5_list_8 : decode cX5_list 8 = .ok (.arraylength, 1) := by decide +kernel
theorem dX5_list_9 : decode cX5_list 9 = .ok (.if_icmp .lt 54, 3) := by decide +kernel
theorem dX5_list_12 : decode cX5_list 12 = .ok (.aload_n 0, 1) := by decide +kernel
theorem dX5_list_13 : decode cX5_list 13 = .ok (.aload_n 0, 1) := by decide +kernel
theorem dX5_list_14 : decode cX5_list 14 = .ok (.getfield 31, 3) := by decide +kernel
theorem dX5_list_17 : decode cX5_list 17 = .ok (.aload_n 0, 1) := by decide +kernel
theorem dX5_list_18 : decode cX5_list 18 = .ok (.getfield 90, 3) := by decide +kernel
theorem dX5_list_21 : decode cX5_list 21 = .ok (.iconst 2, 1) := by decide +kernel
theorem dX5_list_22 : decode cX5_list 22 = .ok (.imul, 1) := by decide +kernel
theorem dX5_list_23 : decode cX5_list 23 = .ok (.invokestatic 270, 3) := by decide +kernel
theorem dX5_list_26 : decode cX5_list 26 = .ok (.putfield 31, 3) := by decide +kernel
theorem dX5_list_29 : decode cX5_list 29 = .ok (.aload_n 0, 1) := by decide +kernel
theorem dX5_list_30 : decode cX5_list 30 = .ok (.aload_n 0, 1) := by decide +kernel
theorem dX5_list_31 : decode cX5_list 31 = .ok (.getfield 34, 3) := by decide +kernel
theorem dX5_list_34 : decode cX5_list 34 = .ok (.aload_n 0, 1) := by decide +kernel
theorem dX5_list_35 : decode cX5_list 35 = .ok (.getfield 90, 3) := by decide +kernel
theorem dX5_list_38 : decode cX5_list 38 = .ok (.iconst 2, 1) := by decide +kernel
theorem dX5_list_39 : decode cX5_list 39 = .ok (.imul, 1) := by decide +kernel
theorem dX5_list_40 : decode cX5_list 40 = .ok (.invokestatic 270, 3) := by decide +kernel
theorem dX5_list_43 : decode cX5_list 43 = .ok (.putfield 34, 3) := by decide +kernel
theorem dX5_list_46 : decode cX5_list 46 = .ok (.aload_n 0, 1) := by decide +kernel
theorem dX5_list_47 : decode cX5_list 47 = .ok (.aload_n 0, 1) := by decide +kernel
theorem dX5_list_48 : decode cX5_list 48 = .ok (.getfield 37, 3) := by decide +kernel
theorem dX5_list_51 : decode cX5_list 51 = .ok (.aload_n 0, 1) := by decide +kernel
theorem dX5_list_52 : decode cX5_list 52 = .ok (.getfield 90, 3) := by decide +kernel
theorem dX5_list_55 : decode cX5_list 55 = .ok (.iconst 2, 1) := by decide +kernel
theorem dX5_list_56 : decode cX5_list 56 = .ok (.imul, 1) := by decide +kernel
theorem dX5_list_57 : decode cX5_list 57 = .ok (.invokestatic 274, 3) := by decide +kernel
theorem dX5_list_60 : decode cX5_list 60 = .ok (.putfield 37, 3) := by decide +kernel
theorem dX5_list_63 : decode cX5_list 63 = .ok (.aload_n 0, 1) := by decide +kernel
theorem dX5_list_64 : decode cX5_list 64 = .ok (.getfield 31, 3) := by decide +kernel
theorem dX5_list_67 : decode cX5_list 67 = .ok (.aload_n 0, 1) := by decide +kernel
theorem dX5_list_68 : decode cX5_list 68 = .ok (.getfield 90, 3) := by decide +kernel
theorem dX5_list_71 : decode cX5_list 71 = .ok (.iload_n 1, 1) := by decide +kernel
theorem dX5_list_72 : decode cX5_list 72 = .ok (.iastore, 1) := by decide +kernel
theorem dX5_list_73 : decode cX5_list 73 = .ok (.aload_n 0, 1) := by decide +kernel
theorem dX5_list_74 : decode cX5_list 74 = .ok (.getfield 34, 3) := by decide +kernel
theorem dX5_list_77 : decode cX5_list 77 = .ok (.aload_n 0, 1) := by decide +kernel
theorem dX5_list_78 : decode cX5_list 78 = .ok (.getfield 90, 3) := by decide +kernel
theorem dX5_list_81 : decode cX5_list 81 = .ok (.iload_n 2, 1) := by decide +kernel
theorem dX5_list_82 : decode cX5_list 82 = .ok (.iastore, 1) := by decide +kernel
theorem dX5_list_83 : decode cX5_list 83 = .ok (.aload_n 0, 1) := by decide +kernel
theorem dX5_list_84 : decode cX5_list 84 = .ok (.getfield 37, 3) := by decide +kernel
theorem dX5_list_87 : decode cX5_list 87 = .ok (.aload_n 0, 1) := by decide +kernel
theorem dX5_list_88 : decode cX5_list 88 = .ok (.getfield 90, 3) := by decide +kernel
theorem dX5_list_91 : decode cX5_list 91 = .ok (.iconst 0, 1) := by decide +kernel
theorem dX5_list_92 : decode cX5_list 92 = .ok (.bastore, 1) := by decide +kernel
theorem dX5_list_93 : decode cX5_list 93 = .ok (.aload_n 0, 1) := by decide +kernel
theorem dX5_list_94 : decode cX5_list 94 = .ok (.dup, 1) := by decide +kernel
theorem dX5_list_95 : decode cX5_list 95 = .ok (.getfield 90, 3) := by decide +kernel
theorem dX5_list_98 : decode cX5_list 98 = .ok (.iconst 1, 1) := by decide +kernel
theorem dX5_list_99 : decode cX5_list 99 = .ok (.iadd, 1) := by decide +kernel
theorem dX5_list_100 : decode cX5_list 100 = .ok (.putfield 90, 3) := by decide +kernel
theorem dX5_list_103 : decode cX5_list 103 = .ok (.return_, 1) := by decide +kernel
def fX5_list_63  (h : PH) (x0 : Nat) (x1 : Int32) (x2 : Int32) : Option (PH × Nat × Nat) :=
  oC (decide (hT h x0 = 6)) (oN (hR h 652 x0) (fun a2 => oC (decide (hT h a2 = 101)) (oC (ix (hI h 655 x0) (hN h a2)) (oL (sA h a2 (Int32.toNatClampNeg (hI h 655 x0)) x1) (fun h5 => oN (hR h5 653 x0) (fun a7 => oC (decide (hT h5 a7 = 101)) (oC (ix (hI h5 655 x0) (hN h5 a7)) (oL (sA h5 a7 (Int32.toNatClampNeg (hI h5 655 x0)) x2) (fun h10 => oN (hR h10 654 x0) (fun a12 => oC (decide (hT h10 a12 = 100)) (oC (ix (hI h10 655 x0) (hN h10 a12)) (oL (sA h10 a12 (Int32.toNatClampNeg (hI h10 655 x0)) (Int8.toInt32 (Int32.toInt8 0))) (fun h15 => oL (sI h15 655 x0 ((hI h15 655 x0) + 1)) (fun h17 => some (h17, 0, 0)))))))))))))))
set_option maxHeartbeats 4000000 in
theorem wfX5_list_63 {mc ms cells slots : Nat} {args : Array Value} (b : Bd p s m c cX5_list 3 RX5 D aC) (hlk : meth.locks = false) (hr : meth.sig.returnType = none) {Z : State → Prop} (zs : Z s) (zk : ZOK Z (Rg ad)) {hz : PH} {h : PH} {x0 : Nat} {x1 : Int32} {x2 : Int32} {kz : Nat} {mz : Nat}  {H : Heap} {locs : List Loc} {ls : Array Slot} (hf : fX5_list_63 h x0 x1 x2 = some (hz, kz, mz)) (hk : cells + kz ≤ mc) (hs : slots + mz ≤ ms) (hE : CE (EX D aC ad h) (Rg ad) s H locs) (hl : lv_has ls 3 [(0, .ref (ad x0)), (1, .int x1), (2, .int x2)]) : W p l e (RM 2 82 mc ms) s m args below meth c H locs cells slots (MQ below (PQ (EX D aC ad hz) (Rg ad) none) args s mc ms (Rg ad)) (F0 m 63 ls []) := by
  unfold fX5_list_63 at hf
  refine lv_aload_n b.1 b.2.1 dX5_list_63 rfl (lv_at hl 0 rfl) ?_
  obtain ⟨t1, hf⟩ := oC_s hf
  have t1 := of_decide_eq_true t1
  refine gX5_31 (x := (some x0)) b hE rfl t1 dX5_list_64 ?_
  refine lv_aload_n b.1 b.2.1 dX5_list_67 rfl (lv_at hl 0 rfl) ?_
  refine gX5_90 (x := (some x0)) b hE rfl t1 dX5_list_68 ?_
  refine lv_iload_n b.1 b.2.1 dX5_list_71 rfl (lv_at hl 1 rfl) ?_
  obtain ⟨a2, ea2, hf⟩ := oN_s hf
  obtain ⟨t3, hf⟩ := oC_s hf
  have t3 := of_decide_eq_true t3
  obtain ⟨g4, hf⟩ := oC_s hf
  obtain ⟨h5, eh5, hf⟩ := oL_s hf
  refine q_iast (x := (hR h 652 x0)) b hE ea2 t3 g4 eh5 dX5_list_72 (fun H locs hE => ?_)
  refine lv_aload_n b.1 b.2.1 dX5_list_73 rfl (lv_at hl 0 rfl) ?_
  have t6 := tg_sA eh5 t1
  refine gX5_34 (x := (some x0)) b hE rfl t6 dX5_list_74 ?_
  refine lv_aload_n b.1 b.2.1 dX5_list_77 rfl (lv_at hl 0 rfl) ?_
  refine gX5_90 (x := (some x0)) b hE rfl t6 dX5_list_78 ?_
  refine lv_iload_n b.1 b.2.1 dX5_list_81 rfl (lv_at hl 2 rfl) ?_
  obtain ⟨a7, ea7, hf⟩ := oN_s hf
  obtain ⟨t8, hf⟩ := oC_s hf
  have t8 := of_decide_eq_true t8
  obtain ⟨g9, hf⟩ := oC_s hf
  obtain ⟨h10, eh10, hf⟩ := oL_s hf
  refine q_iast (x := (hR h5 653 x0)) b hE ea7 t8 g9 eh10 dX5_list_82 (fun H locs hE => ?_)
  refine lv_aload_n b.1 b.2.1 dX5_list_83 rfl (lv_at hl 0 rfl) ?_
  have t11 := tg_sA eh10 t6
  refine gX5_37 (x := (some x0)) b hE rfl t11 dX5_list_84 ?_
  refine lv_aload_n b.1 b.2.1 dX5_list_87 rfl (lv_at hl 0 rfl) ?_
  refine gX5_90 (x := (some x0)) b hE rfl t11 dX5_list_88 ?_
  refine lv_iconst (v := 0) b.1 b.2.1 dX5_list_91 (by decide) ?_
  obtain ⟨a12, ea12, hf⟩ := oN_s hf
  obtain ⟨t13, hf⟩ := oC_s hf
  have t13 := of_decide_eq_true t13
  obtain ⟨g14, hf⟩ := oC_s hf
  obtain ⟨h15, eh15, hf⟩ := oL_s hf
  refine q_bast (x := (hR h10 654 x0)) b hE ea12 t13 g14 eh15 dX5_list_92 (fun H locs hE => ?_)
  refine lv_aload_n b.1 b.2.1 dX5_list_93 rfl (lv_at hl 0 rfl) ?_
  refine lv_dup b.1 b.2.1 dX5_list_94 rfl ?_
  have t16 := tg_sA eh15 t11
  refine gX5_90 (x := (some x0)) b hE rfl t16 dX5_list_95 ?_
  refine lv_iconst (v := 1) b.1 b.2.1 dX5_list_98 (by decide) ?_
  refine lv_iadd b.1 b.2.1 dX5_list_99 ?_
  obtain ⟨h17, eh17, hf⟩ := oL_s hf
  refine pX5_90 (x := (some x0)) b hE rfl t16 eh17 dX5_list_100 (fun H locs hE => ?_)
  cases hf
  exact k_vret b hlk hr hE (le_c hk) (le_c hs) dX5_list_103
def fX5_list_0  (h : PH) (x0 : Nat) (x1 : Int32) (x2 : Int32) : Option (PH × Nat × Nat) :=
  oC (decide (hT h x0 = 6)) (oN (hR h 652 x0) (fun a19 => oC (decide (hT h a19 = 101)) (if (hI h 655 x0) < (nI (hN h a19)) then (fX5_list_63  h x0 x1 x2) else (oB4 (fJ7_copyOf_59c91 h (hR h 652 x0) ((hI h 655 x0) * 2)) (fun h24 r23 i25 j26 => oK3 i25 j26 (oC (decide (hT h24 x0 = 6)) (oL (sR h24 652 x0 r23) (fun h30 => oB4 (fJ7_copyOf_59c91 h30 (hR h30 653 x0) ((hI h30 655 x0) * 2)) (fun h34 r33 i35 j36 => oK3 i35 j36 (oC (decide (hT h34 x0 = 6)) (oL (sR h34 653 x0 r33) (fun h40 => oB4 (fJ7_copyOf_9075b h40 (hR h40 654 x0) ((hI h40 655 x0) * 2)) (fun h44 r43 i45 j46 => oK3 i45 j46 (oC (decide (hT h44 x0 = 6)) (oL (sR h44 654 x0 r43) (fun h50 => fX5_list_63  h50 x0 x1 x2))))))))))))))))
set_option maxHeartbeats 4000000 in
theorem wfX5_list_0 {mc ms cells slots : Nat} {args : Array Value} (b : Bd p s m c cX5_list 3 RX5 D aC) (hlk : meth.locks = false) (hr : meth.sig.returnType = none) {Z : State → Prop} (zs : Z s) (zk : ZOK Z (Rg ad)) {hz : PH} {h : PH} {x0 : Nat} {x1 : Int32} {x2 : Int32} {kz : Nat} {mz : Nat}  {H : Heap} {locs : List Loc} {ls : Array Slot} (hf : fX5_list_0 h x0 x1 x2 = some (hz, kz, mz)) (hk : cells + kz ≤ mc) (hs : slots + mz ≤ ms) (hE : CE (EX D aC ad h) (Rg ad) s H locs) (hl : lv_has ls 3 [(0, .ref (ad x0)), (1, .int x1), (2, .int x2)]) : W p l e (RM 2 82 mc ms) s m args below meth c H locs cells slots (MQ below (PQ (EX D aC ad hz) (Rg ad) none) args s mc ms (Rg ad)) (F0 m 0 ls []) := by
  unfold fX5_list_0 at hf
  refine lv_aload_n b.1 b.2.1 dX5_list_0 rfl (lv_at hl 0 rfl) ?_
  obtain ⟨t18, hf⟩ := oC_s hf
  have t18 := of_decide_eq_true t18
  refine gX5_90 (x := (some x0)) b hE rfl t18 dX5_list_1 ?_
  refine lv_aload_n b.1 b.2.1 dX5_list_4 rfl (lv_at hl 0 rfl) ?_
  refine gX5_31 (x := (some x0)) b hE rfl t18 dX5_list_5 ?_
  obtain ⟨a19, ea19, hf⟩ := oN_s hf
  obtain ⟨t20, hf⟩ := oC_s hf
  have t20 := of_decide_eq_true t20
  refine q_alen (x := (hR h 652 x0)) (k := 1) b hE ea19 (by decide) t20 dX5_list_8 ?_
  refine lv_icmp_lt (tgt := 63) b.1 b.2.1 dX5_list_9 (by decide) (fun c21 => ?_) (fun c21 => ?_)
  · have hf := oI_t c21 hf
    exact wfX5_list_63 b hlk hr zs zk  hf hk hs hE (lv_sub hl [0, 1, 2] rfl)
  · have hf := oI_f c21 hf
    refine lv_aload_n b.1 b.2.1 dX5_list_12 rfl (lv_at hl 0 rfl) ?_
    refine lv_aload_n b.1 b.2.1 dX5_list_13 rfl (lv_at hl 0 rfl) ?_
    refine gX5_31 (x := (some x0)) b hE rfl t18 dX5_list_14 ?_
    refine lv_aload_n b.1 b.2.1 dX5_list_17 rfl (lv_at hl 0 rfl) ?_
    refine gX5_90 (x := (some x0)) b hE rfl t18 dX5_list_18 ?_
    refine lv_iconst (v := 2) b.1 b.2.1 dX5_list_21 (by decide) ?_
    refine lv_imul b.1 b.2.1 dX5_list_22 ?_
    obtain ⟨h24, r23, i25, j26, hc22, hf⟩ := oB4_s hf
    obtain ⟨i27, j28, ei27, ej28, hf⟩ := oK3_s hf
    refine k_callS b zs zk hE (CJ7_copyOf_59c91 l D aC ad zk hc22) mc_J7_copyOf_59c91 (in5 25 rfl rfl) mt_J7_copyOf_59c91 ini_RJ7 ok_J7_copyOf_59c91 ⟨Nat.le_of_ble_eq_true rfl, Nat.le_of_ble_eq_true rfl⟩ rfl hl.1 rfl (k_room _ (by exact Nat.le_of_ble_eq_true rfl)) ⟨le_room hk ei27, le_room hs ej28⟩ dX5_list_23 (fun H locs hE => ?_)
    have hk := le_step hk ei27
    have hs := le_step hs ej28
    obtain ⟨t29, hf⟩ := oC_s hf
    have t29 := of_decide_eq_true t29
    obtain ⟨h30, eh30, hf⟩ := oL_s hf
    refine pX5_31 (x := (some x0)) (v := r23) b hE rfl t29 eh30 dX5_list_26 (fun H locs hE => ?_)
    refine lv_aload_n b.1 b.2.1 dX5_list_29 rfl (lv_at hl 0 rfl) ?_
    refine lv_aload_n b.1 b.2.1 dX5_list_30 rfl (lv_at hl 0 rfl) ?_
    have t31 := tg_sR eh30 t29
    refine gX5_34 (x := (some x0)) b hE rfl t31 dX5_list_31 ?_
    refine lv_aload_n b.1 b.2.1 dX5_list_34 rfl (lv_at hl 0 rfl) ?_
    refine gX5_90 (x := (some x0)) b hE rfl t31 dX5_list_35 ?_
    refine lv_iconst (v := 2) b.1 b.2.1 dX5_list_38 (by decide) ?_
    refine lv_imul b.1 b.2.1 dX5_list_39 ?_
    obtain ⟨h34, r33, i35, j36, hc32, hf⟩ := oB4_s hf
    obtain ⟨i37, j38, ei37, ej38, hf⟩ := oK3_s hf
    refine k_callS b zs zk hE (CJ7_copyOf_59c91 l D aC ad zk hc32) mc_J7_copyOf_59c91 (in5 25 rfl rfl) mt_J7_copyOf_59c91 ini_RJ7 ok_J7_copyOf_59c91 ⟨Nat.le_of_ble_eq_true rfl, Nat.le_of_ble_eq_true rfl⟩ rfl hl.1 rfl (k_room _ (by exact Nat.le_of_ble_eq_true rfl)) ⟨le_room hk ei37, le_room hs ej38⟩ dX5_list_40 (fun H locs hE => ?_)
    have hk := le_step hk ei37
    have hs := le_step hs ej38
    obtain ⟨t39, hf⟩ := oC_s hf
    have t39 := of_decide_eq_true t39
    obtain ⟨h40, eh40, hf⟩ := oL_s hf
    refine pX5_34 (x := (some x0)) (v := r33) b hE rfl t39 eh40 dX5_list_43 (fun H locs hE => ?_)
    refine lv_aload_n b.1 b.2.1 dX5_list_46 rfl (lv_at hl 0 rfl) ?_
    refine lv_aload_n b.1 b.2.1 dX5_list_47 rfl (lv_at hl 0 rfl) ?_
    have t41 := tg_sR eh40 t39
    refine gX5_37 (x := (some x0)) b hE rfl t41 dX5_list_48 ?_
    refine lv_aload_n b.1 b.2.1 dX5_list_51 rfl (lv_at hl 0 rfl) ?_
    refine gX5_90 (x := (some x0)) b hE rfl t41 dX5_list_52 ?_
    refine lv_iconst (v := 2) b.1 b.2.1 dX5_list_55 (by decide) ?_
    refine lv_imul b.1 b.2.1 dX5_list_56 ?_
    obtain ⟨h44, r43, i45, j46, hc42, hf⟩ := oB4_s hf
    obtain ⟨i47, j48, ei47, ej48, hf⟩ := oK3_s hf
    refine k_callS b zs zk hE (CJ7_copyOf_9075b l D aC ad zk hc42) mc_J7_copyOf_9075b (in5 26 rfl rfl) mt_J7_copyOf_9075b ini_RJ7 ok_J7_copyOf_9075b ⟨Nat.le_of_ble_eq_true rfl, Nat.le_of_ble_eq_true rfl⟩ rfl hl.1 rfl (k_room _ (by exact Nat.le_of_ble_eq_true rfl)) ⟨le_room hk ei47, le_room hs ej48⟩ dX5_list_57 (fun H locs hE => ?_)
    have hk := le_step hk ei47
    have hs := le_step hs ej48
    obtain ⟨t49, hf⟩ := oC_s hf
    have t49 := of_decide_eq_true t49
    obtain ⟨h50, eh50, hf⟩ := oL_s hf
    refine pX5_37 (x := (some x0)) (v := r43) b hE rfl t49 eh50 dX5_list_60 (fun H locs hE => ?_)
    exact wfX5_list_63 b hlk hr zs zk  hf hk hs hE (lv_sub hl [0, 1, 2] rfl)
def fX5_list (h : PH) (x0 : Nat) (x1 : Int32) (x2 : Int32) : Option (PH × Nat × Nat) := fX5_list_0 h x0 x1 x2
set_option maxHeartbeats 4000000 in
theorem CX5_list (l : Launch) (D : va_G) (aC : Nat → ClassId) (ad : Nat → Nat) {Z : State → Prop} (zk : ZOK Z (Rg ad)) {h : PH} {x0 : Nat} {x1 : Int32} {x2 : Int32} {hz : PH} {kz : Nat} {mz : Nat} (hf : fX5_list h x0 x1 x2 = some (hz, kz, mz)) : CM l D aC Z yX5_list cX5_list 3 (none) 2 82 kz mz (EX D aC ad h) [.ref (ad x0), .int x1, .int x2] (EX D aC ad hz) none (Rg ad) := by
  refine CM.of rfl ?_
  intro p e s m below meth c b hr hlk hin2 zs hE
  refine k_ent (Nat.le_of_ble_eq_true rfl) (fun ls hl => ?_)
  exact wfX5_list_0 b hlk hr zs zk hf (by omega) (by omega) hE (lv_sub hl [0, 1, 2] rfl)
theorem dX5_gather_0 : decode cX5_gather 0 = .ok (.aload_n 0, 1) := by decide +kernel
theorem dX5_gather_1 : decode cX5_gather 1 = .ok (.getfield 50, 3) := by decide +kernel
theorem dX5_gather_4 : decode cX5_gather 4 = .ok (.iload_n 1, 1) := by decide +kernel
theorem dX5_gather_5 : decode cX5_gather 5 = .ok (.invokevirtual 113, 3) := by decide +kernel
theorem dX5_gather_8 : decode cX5_gather 8 = .ok (.astore 4, 2) := by decide +kernel
theorem dX5_gather_10 : decode cX5_gather 10 = .ok (.aload 4, 2) := by decide +kernel
theorem dX5_gather_12 : decode cX5_gather 12 = .ok (.ifnull 17, 3) := by decide +kernel
theorem dX5_gather_15 : decode cX5_gather 15 = .ok (.aload_n 0, 1) := by decide +kernel
theorem dX5_gather_16 : decode cX5_gather 16 = .ok (.getfield 50, 3) := by decide +kernel
theorem dX5_gather_19 : decode cX5_gather 19 = .ok (.aload 4, 2) := by decide +kernel
theorem dX5_gather_21 : decode cX5_gather 21 = .ok (.iload_n 2, 1) := by decide +kernel
theorem dX5_gather_22 : decode cX5_gather 22 = .ok (.iload_n 3, 1) := by decide +kernel
theorem dX5_gather_23 : decode cX5_gather 23 = .ok (.invokevirtual 117, 3) := by decide +kernel
theorem dX5_gather_26 : decode cX5_gather 26 = .ok (.ifCond .ne 4, 3) := by decide +kernel
theorem dX5_gather_29 : decode cX5_gather 29 = .ok (.return_, 1) := by decide +kernel
theorem dX5_gather_30 : decode cX5_gather 30 = .ok (.aload 4, 2) := by decide +kernel
theorem dX5_gather_32 : decode cX5_gather 32 = .ok (.getfield 121, 3) := by decide +kernel
theorem dX5_gather_35 : decode cX5_gather 35 = .ok (.ifCond .ne 15, 3) := by decide +kernel
theorem dX5_gather_38 : decode cX5_gather 38 = .ok (.aload_n 0, 1) := by decide +kernel
theorem dX5_gather_39 : decode cX5_gather 39 = .ok (.dup, 1) := by decide +kernel
theorem dX5_gather_40 : decode cX5_gather 40 = .ok (.getfield 87, 3) := by decide +kernel
theorem dX5_gather_43 : decode cX5_gather 43 = .ok (.iconst 1, 1) := by decide +kernel
theorem dX5_gather_44 : decode cX5_gather 44 = .ok (.iload_n 1, 1) := by decide +kernel
theorem dX5_gather_45 : decode cX5_gather 45 = .ok (.ishl, 1) := by decide +kernel
theorem dX5_gather_46 : decode cX5_gather 46 = .ok (.ior, 1) := by decide +kernel
theorem dX5_gather_47 : decode cX5_gather 47 = .ok (.putfield 87, 3) := by decide +kernel
theorem dX5_gather_50 : decode cX5_gather 50 = .ok (.aload_n 0, 1) := by decide +kernel
theorem dX5_gather_51 : decode cX5_gather 51 = .ok (.getfield 28, 3) := by decide +kernel
theorem dX5_gather_54 : decode cX5_gather 54 = .ok (.iload_n 1, 1) := by decide +kernel
theorem dX5_gather_55 : decode cX5_gather 55 = .ok (.aload_n 0, 1) := by decide +kernel
theorem dX5_gather_56 : decode cX5_gather 56 = .ok (.iload_n 1, 1) := by decide +kernel
theorem dX5_gather_57 : decode cX5_gather 57 = .ok (.invokevirtual 126, 3) := by decide +kernel
theorem dX5_gather_60 : decode cX5_gather 60 = .ok (.iastore, 1) := by decide +kernel
theorem dX5_gather_61 : decode cX5_gather 61 = .ok (.iconst 1, 1) := by decide +kernel
theorem dX5_gather_62 : decode cX5_gather 62 = .ok (.istore 5, 2) := by decide +kernel
theorem dX5_gather_64 : decode cX5_gather 64 = .ok (.iconst 0, 1) := by decide +kernel
theorem dX5_gather_65 : decode cX5_gather 65 = .ok (.istore 6, 2) := by decide +kernel
theorem dX5_gather_67 : decode cX5_gather 67 = .ok (.iload 6, 2) := by decide +kernel
theorem dX5_gather_69 : decode cX5_gather 69 = .ok (.aload 4, 2) := by decide +kernel
theorem dX5_gather_71 : decode cX5_gather 71 = .ok (.getfield 130, 3) := by decide +kernel
theorem dX5_gather_74 : decode cX5_gather 74 = .ok (.if_icmp .ge 18, 3) := by decide +kernel
theorem dX5_gather_77 : decode cX5_gather 77 = .ok (.iload 5, 2) := by decide +kernel
theorem dX5_gather_79 : decode cX5_gather 79 = .ok (.aload_n 0, 1) := by decide +kernel
theorem dX5_gather_80 : decode cX5_gather 80 = .ok (.getfield 75, 3) := by decide +kernel
theorem dX5_gather_83 : decode cX5_gather 83 = .ok (.imul, 1) := by decide +kernel
theorem dX5_gather_84 : decode cX5_gather 84 = .ok (.istore 5, 2) := by decide +kernel
theorem dX5_gather_86 : decode cX5_gather 86 = .ok (.iinc 6 1, 3) := by decide +kernel
theorem dX5_gather_89 : decode cX5_gather 89 = .ok (.goto (-22), 3) := by decide +kernel
theorem dX5_gather_92 : decode cX5_gather 92 = .ok (.iconst 0, 1) := by decide +kernel
theorem dX5_gather_93 : decode cX5_gather 93 = .ok (.istore 6, 2) := by decide +kernel
theorem dX5_gather_95 : decode cX5_gather 95 = .ok (.iload 6, 2) := by decide +kernel
theorem dX5_gather_97 : decode cX5_gather 97 = .ok (.iload 5, 2) := by decide +kernel
theorem dX5_gather_99 : decode cX5_gather 99 = .ok (.if_icmp .ge 60, 3) := by decide +kernel
theorem dX5_gather_102 : decode cX5_gather 102 = .ok (.iload 6, 2) := by decide +kernel
theorem dX5_gather_104 : decode cX5_gather 104 = .ok (.bipush 125, 2) := by decide +kernel
theorem dX5_gather_106 : decode cX5_gather 106 = .ok (.if_icmp .ge 53, 3) := by decide +kernel
theorem dX5_gather_109 : decode cX5_gather 109 = .ok (.aload_n 0, 1) := by decide +kernel
theorem dX5_gather_110 : decode cX5_gather 110 = .ok (.getfield 59, 3) := by decide +kernel
theorem dX5_gather_113 : decode cX5_gather 113 = .ok (.iload 6, 2) := by decide +kernel
theorem dX5_gather_115 : decode cX5_gather 115 = .ok (.aload 4, 2) := by decide +kernel
theorem dX5_gather_117 : decode cX5_gather 117 = .ok (.getfield 130, 3) := by decide +kernel
theorem dX5_gather_120 : decode cX5_gather 120 = .ok (.aload_n 0, 1) := by decide +kernel
theorem dX5_gather_121 : decode cX5_gather 121 = .ok (.getfield 75, 3) := by decide +kernel
theorem dX5_gather_124 : decode cX5_gather 124 = .ok (.invokevirtual 133, 3) := by decide +kernel
theorem dX5_gather_127 : decode cX5_gather 127 = .ok (.aload_n 0, 1) := by decide +kernel
theorem dX5_gather_128 : decode cX5_gather 128 = .ok (.aload 4, 2) := by decide +kernel
theorem dX5_gather_130 : decode cX5_gather 130 = .ok (.invokevirtual 137, 3) := by decide +kernel
theorem dX5_gather_133 : decode cX5_gather 133 = .ok (.ifCond .eq 20, 3) := by decide +kernel
theorem dX5_gather_136 : decode cX5_gather 136 = .ok (.aload_n 0, 1) := by decide +kernel
theorem dX5_gather_137 : decode cX5_gather 137 = .ok (.iload_n 1, 1) := by decide +kernel
theorem dX5_gather_138 : decode cX5_gather 138 = .ok (.bipush 125, 2) := by decide +kernel
theorem dX5_gather_140 : decode cX5_gather 140 = .ok (.imul, 1) := by decide +kernel
theorem dX5_gather_141 : decode cX5_gather 141 = .ok (.iload 6, 2) := by decide +kernel
theorem dX5_gather_143 : decode cX5_gather 143 = .ok (.iadd, 1) := by decide +kernel
theorem dX5_gather_144 : decode cX5_gather 144 = .ok (.aload_n 0, 1) := by decide +kernel
theorem dX5_gather_145 : decode cX5_gather 145 = .ok (.aload 4, 2) := by decide +kernel
theorem dX5_gather_147 : decode cX5_gather 147 = .ok (.invokevirtual 141, 3) := by decide +kernel
theorem dX5_gather_150 : decode cX5_gather 150 = .ok (.invokevirtual 145, 3) := by decide +kernel
theorem dX5_gather_153 : decode cX5_gather 153 = .ok (.iinc 6 1, 3) := by decide +kernel
theorem dX5_gather_156 : decode cX5_gather 156 = .ok (.goto (-61), 3) := by decide +kernel
theorem dX5_gather_159 : decode cX5_gather 159 = .ok (.return_, 1) := by decide +kernel
def fX5_gather_153 (k95 : PH → Nat → Int32 → Option Nat → Int32 → Int32 → Option (PH × Nat × Nat)) (h : PH) (x0 : Nat) (x1 : Int32) (x4 : Option Nat) (x5 : Int32) (x6 : Int32) : Option (PH × Nat × Nat) :=
  oL (x6 + 1) (fun y1 => k95 h x0 x1 x4 x5 y1)
set_option maxHeartbeats 4000000 in
theorem wfX5_gather_153 {mc ms cells slots : Nat} {args : Array Value} (b : Bd p s m c cX5_gather 7 RX5 D aC) (hlk : meth.locks = false) (hr : meth.sig.returnType = none) {Z : State → Prop} (zs : Z s) (zk : ZOK Z (Rg ad)) {hz : PH} {k95 : PH → Nat → Int32 → Option Nat → Int32 → Int32 → Option (PH × Nat × Nat)} (H95 : ∀ (h : PH) (x0 : Nat) (x1 : Int32) (x4 : Option Nat) (x5 : Int32) (x6 : Int32), ∀ (cells slots kz mz : Nat) (H : Heap) (locs : List Loc) (ls : Array Slot), k95 h x0 x1 x4 x5 x6 = some (hz, kz, mz) → cells + kz ≤ mc → slots + mz ≤ ms → CE (EX D aC ad h) (Rg ad) s H locs → lv_has ls 7 [(0, .ref (ad x0)), (1, .int x1), (4, va_rf (Option.map ad x4)), (5, .int x5), (6, .int x6)] → W p l e (RM 6 152 mc ms) s m args below meth c H locs cells slots (MQ below (PQ (EX D aC ad hz) (Rg ad) none) args s mc ms (Rg ad)) (F0 m 95 ls [])) {h : PH} {x0 : Nat} {x1 : Int32} {x4 : Option Nat} {x5 : Int32} {x6 : Int32} {kz : Nat} {mz : Nat}  {H : Heap} {locs : List Loc} {ls : Array Slot} (hf : fX5_gather_153 k95 h x0 x1 x4 x5 x6 = some (hz, kz, mz)) (hk : cells + kz ≤ mc) (hs : slots + mz ≤ ms) (hE : CE (EX D aC ad h) (Rg ad) s H locs) (hl : lv_has ls 7 [(0, .ref (ad x0)), (1, .int x1), (4, va_rf (Option.map ad x4)), (5, .int x5), (6, .int x6)]) : W p l e (RM 6 152 mc ms) s m args below meth c H locs cells slots (MQ below (PQ (EX D aC ad hz) (Rg ad) none) args s mc ms (Rg ad)) (F0 m 153 ls []) := by
  unfold fX5_gather_153 at hf
  obtain ⟨y1, ey1, hf⟩ := oL_s hf
  refine lv_iinc (v := y1) (lv' := [(6, .int y1), (0, .ref (ad x0)), (1, .int x1), (4, va_rf (Option.map ad x4)), (5, .int x5)]) b.1 b.2.1 dX5_gather_153 hl (k := 4) rfl (by rw [ey1]; rfl) (by decide) rfl (fun ls hl => ?_)
  refine lv_goto (tgt := 95) b.1 b.2.1 dX5_gather_156 (by decide) ?_
  exact H95 h x0 x1 x4 x5 y1 _ _ _ _ _ _ _ hf hk hs hE (lv_sub hl [1, 2, 3, 4, 0] rfl)
def fX5_gather_95F (k95 : PH → Nat → Int32 → Option Nat → Int32 → Int32 → Option (PH × Nat × Nat)) (h : PH) (x0 : Nat) (x1 : Int32) (x4 : Option Nat) (x5 : Int32) (x6 : Int32) : Option (PH × Nat × Nat) :=
  if x5 ≤ x6 then (some (h, 0, 0)) else (if 125 ≤ x6 then (some (h, 0, 0)) else (oC (decide (hT h x0 = 6)) (oN x4 (fun a5 => oC (decide (hT h a5 = 9)) (oN (hR h 641 x0) (fun a7 => oC (decide (hT h a7 = 7)) (oB (fX6_bind h a7 x6 (hI h 1026 a5) (hI h 642 x0)) (fun h10 => oC (decide (hT h10 x0 = 6)) (oB2 (fX5_plainConditionsHold h10 x0 x4) (fun h14 r13 => if r13 = 0 then (fX5_gather_153 k95 h14 x0 x1 x4 x5 x6) else (oC (decide (hT h14 x0 = 6)) (oB (fX5_headOf h14 x0 x4) (fun r18 => oB3 (fX5_list h14 x0 ((x1 * 125) + x6) r18) (fun h20 i21 j22 => oK3 i21 j22 (fX5_gather_153 k95 h20 x0 x1 x4 x5 x6)))))))))))))))
set_option maxHeartbeats 4000000 in
theorem wfX5_gather_95F {mc ms cells slots : Nat} {args : Array Value} (b : Bd p s m c cX5_gather 7 RX5 D aC) (hlk : meth.locks = false) (hr : meth.sig.returnType = none) {Z : State → Prop} (zs : Z s) (zk : ZOK Z (Rg ad)) {hz : PH} {k95 : PH → Nat → Int32 → Option Nat → Int32 → Int32 → Option (PH × Nat × Nat)} (H95 : ∀ (h : PH) (x0 : Nat) (x1 : Int32) (x4 : Option Nat) (x5 : Int32) (x6 : Int32), ∀ (cells slots kz mz : Nat) (H : Heap) (locs : List Loc) (ls : Array Slot), k95 h x0 x1 x4 x5 x6 = some (hz, kz, mz) → cells + kz ≤ mc → slots + mz ≤ ms → CE (EX D aC ad h) (Rg ad) s H locs → lv_has ls 7 [(0, .ref (ad x0)), (1, .int x1), (4, va_rf (Option.map ad x4)), (5, .int x5), (6, .int x6)] → W p l e (RM 6 152 mc ms) s m args below meth c H locs cells slots (MQ below (PQ (EX D aC ad hz) (Rg ad) none) args s mc ms (Rg ad)) (F0 m 95 ls [])) {h : PH} {x0 : Nat} {x1 : Int32} {x4 : Option Nat} {x5 : Int32} {x6 : Int32} {kz : Nat} {mz : Nat}  {H : Heap} {locs : List Loc} {ls : Array Slot} (hf : fX5_gather_95F k95 h x0 x1 x4 x5 x6 = some (hz, kz, mz)) (hk : cells + kz ≤ mc) (hs : slots + mz ≤ ms) (hE : CE (EX D aC ad h) (Rg ad) s H locs) (hl : lv_has ls 7 [(0, .ref (ad x0)), (1, .int x1), (4, va_rf (Option.map ad x4)), (5, .int x5), (6, .int x6)]) : W p l e (RM 6 152 mc ms) s m args below meth c H locs cells slots (MQ below (PQ (EX D aC ad hz) (Rg ad) none) args s mc ms (Rg ad)) (F0 m 95 ls []) := by
  unfold fX5_gather_95F at hf
  refine lv_iload b.1 b.2.1 dX5_gather_95 (lv_at hl 4 rfl) ?_
  refine lv_iload b.1 b.2.1 dX5_gather_97 (lv_at hl 3 rfl) ?_
  refine lv_icmp_ge (tgt := 159) b.1 b.2.1 dX5_gather_99 (by decide) (fun c2 => ?_) (fun c2 => ?_)
  · have hf := oI_t c2 hf
    cases hf
    exact k_vret b hlk hr hE (le_c hk) (le_c hs) dX5_gather_159
  · have hf := oI_f c2 hf
    refine lv_iload b.1 b.2.1 dX5_gather_102 (lv_at hl 4 rfl) ?_
    refine lv_bipush (v := 125) b.1 b.2.1 dX5_gather_104 (by decide) ?_
    refine lv_icmp_ge (tgt := 159) b.1 b.2.1 dX5_gather_106 (by decide) (fun c3 => ?_) (fun c3 => ?_)
    · have hf := oI_t c3 hf
      cases hf
      exact k_vret b hlk hr hE (le_c hk) (le_c hs) dX5_gather_159
    · have hf := oI_f c3 hf
      refine lv_aload_n b.1 b.2.1 dX5_gather_109 rfl (lv_at hl 0 rfl) ?_
      obtain ⟨t4, hf⟩ := oC_s hf
      have t4 := of_decide_eq_true t4
      refine gX5_59 (x := (some x0)) b hE rfl t4 dX5_gather_110 ?_
      refine lv_iload b.1 b.2.1 dX5_gather_113 (lv_at hl 4 rfl) ?_
      refine k_aload (x := Option.map ad x4) b dX5_gather_115 (lv_at hl 2 rfl) ?_
      obtain ⟨a5, ea5, hf⟩ := oN_s hf
      obtain ⟨t6, hf⟩ := oC_s hf
      have t6 := of_decide_eq_true t6
      refine gX5_130 (x := x4) b hE ea5 t6 dX5_gather_117 ?_
      refine lv_aload_n b.1 b.2.1 dX5_gather_120 rfl (lv_at hl 0 rfl) ?_
      refine gX5_75 (x := (some x0)) b hE rfl t4 dX5_gather_121 ?_
      obtain ⟨a7, ea7, hf⟩ := oN_s hf
      obtain ⟨t8, hf⟩ := oC_s hf
      have t8 := of_decide_eq_true t8
      obtain ⟨h10, hc9, hf⟩ := oB_s hf
      refine k_stk [.int (hI h 642 x0), .int (hI h 1026 a5), .int x6] ea7 ?_
      refine k_callV0 (C := RX6) b zs zk hE (CX6_bind l D aC ad zk hc9) mc_X6_bind (in4 191 rfl rfl) mi_X6_bind ms_X6_bind ini_RX6 ok_X6_bind (x_recv b hE (ci := 6) rfl (by decide) t8) ⟨Nat.le_of_ble_eq_true rfl, Nat.le_of_ble_eq_true rfl⟩ rfl hl.1 rfl (k_room _ (by exact Nat.le_of_ble_eq_true rfl)) ⟨le_0 hk, le_0 hs⟩ dX5_gather_124 (fun H locs hE => ?_)
      refine lv_aload_n b.1 b.2.1 dX5_gather_127 rfl (lv_at hl 0 rfl) ?_
      refine k_aload (x := Option.map ad x4) b dX5_gather_128 (lv_at hl 2 rfl) ?_
      obtain ⟨t11, hf⟩ := oC_s hf
      have t11 := of_decide_eq_true t11
      obtain ⟨h14, r13, hc12, hf⟩ := oB2_s hf
      refine k_callV0 (C := RX5) b zs zk hE (CX5_plainConditionsHold l D aC ad zk hc12) mc_X5_plainConditionsHold (in4 196 rfl rfl) mi_X5_plainConditionsHold ms_X5_plainConditionsHold ini_RX5 ok_X5_plainConditionsHold (x_recv b hE (ci := 5) rfl (by decide) t11) ⟨Nat.le_of_ble_eq_true rfl, Nat.le_of_ble_eq_true rfl⟩ rfl hl.1 rfl (k_room _ (by exact Nat.le_of_ble_eq_true rfl)) ⟨le_0 hk, le_0 hs⟩ dX5_gather_130 (fun H locs hE => ?_)
      refine lv_if_eq (tgt := 153) b.1 b.2.1 dX5_gather_133 (by decide) (fun c15 => ?_) (fun c15 => ?_)
      · have hf := oI_t c15 hf
        exact wfX5_gather_153 b hlk hr zs zk H95 hf hk hs hE (lv_sub hl [0, 1, 2, 3, 4] rfl)
      · have hf := oI_f c15 hf
        refine lv_aload_n b.1 b.2.1 dX5_gather_136 rfl (lv_at hl 0 rfl) ?_
        refine lv_iload_n b.1 b.2.1 dX5_gather_137 rfl (lv_at hl 1 rfl) ?_
        refine lv_bipush (v := 125) b.1 b.2.1 dX5_gather_138 (by decide) ?_
        refine lv_imul b.1 b.2.1 dX5_gather_140 ?_
        refine lv_iload b.1 b.2.1 dX5_gather_141 (lv_at hl 4 rfl) ?_
        refine lv_iadd b.1 b.2.1 dX5_gather_143 ?_
        refine lv_aload_n b.1 b.2.1 dX5_gather_144 rfl (lv_at hl 0 rfl) ?_
        refine k_aload (x := Option.map ad x4) b dX5_gather_145 (lv_at hl 2 rfl) ?_
        obtain ⟨t16, hf⟩ := oC_s hf
        have t16 := of_decide_eq_true t16
        obtain ⟨r18, hc17, hf⟩ := oB_s hf
        refine k_callV0 (C := RX5) b zs zk hE (CX5_headOf l D aC ad zk hc17) mc_X5_headOf (in5 11 rfl rfl) mi_X5_headOf ms_X5_headOf ini_RX5 ok_X5_headOf (x_recv b hE (ci := 5) rfl (by decide) t16) ⟨Nat.le_of_ble_eq_true rfl, Nat.le_of_ble_eq_true rfl⟩ rfl hl.1 rfl (k_room _ (by exact Nat.le_of_ble_eq_true rfl)) ⟨le_0 hk, le_0 hs⟩ dX5_gather_147 (fun H locs hE => ?_)
        obtain ⟨h20, i21, j22, hc19, hf⟩ := oB3_s hf
        obtain ⟨i23, j24, ei23, ej24, hf⟩ := oK3_s hf
        refine k_callV (C := RX5) b zs zk hE (CX5_list l D aC ad zk hc19) mc_X5_list (in5 21 rfl rfl) mi_X5_list ms_X5_list ini_RX5 ok_X5_list (x_recv b hE (ci := 5) rfl (by decide) t16) ⟨Nat.le_of_ble_eq_true rfl, Nat.le_of_ble_eq_true rfl⟩ rfl hl.1 rfl (k_room _ (by exact Nat.le_of_ble_eq_true rfl)) ⟨le_room hk ei23, le_room hs ej24⟩ dX5_gather_150 (fun H locs hE => ?_)
        have hk := le_step hk ei23
        have hs := le_step hs ej24
        exact wfX5_gather_153 b hlk hr zs zk H95 hf hk hs hE (lv_sub hl [0, 1, 2, 3, 4] rfl)
def fX5_gather_95  : Nat → PH → Nat → Int32 → Option Nat → Int32 → Int32 → Option (PH × Nat × Nat)
  | 0 => fun _ _ _ _ _ _ => none
  | n + 1 => fX5_gather_95F  (fX5_gather_95  n)
set_option maxHeartbeats 4000000 in
theorem wfX5_gather_95 {mc ms : Nat} {args : Array Value} (b : Bd p s m c cX5_gather 7 RX5 D aC) (hlk : meth.locks = false) (hr : meth.sig.returnType = none) {Z : State → Prop} (zs : Z s) (zk : ZOK Z (Rg ad)) {hz : PH} : ∀ n : Nat, ∀ (h : PH) (x0 : Nat) (x1 : Int32) (x4 : Option Nat) (x5 : Int32) (x6 : Int32), ∀ (cells slots kz mz : Nat) (H : Heap) (locs : List Loc) (ls : Array Slot), fX5_gather_95  n h x0 x1 x4 x5 x6 = some (hz, kz, mz) → cells + kz ≤ mc → slots + mz ≤ ms → CE (EX D aC ad h) (Rg ad) s H locs → lv_has ls 7 [(0, .ref (ad x0)), (1, .int x1), (4, va_rf (Option.map ad x4)), (5, .int x5), (6, .int x6)] → W p l e (RM 6 152 mc ms) s m args below meth c H locs cells slots (MQ below (PQ (EX D aC ad hz) (Rg ad) none) args s mc ms (Rg ad)) (F0 m 95 ls []) := by
  intro n
  induction n with
  | zero =>
    intro h x0 x1 x4 x5 x6 cells slots kz mz H locs ls hf
    have hf : (none : Option (PH × Nat × Nat)) = some _ := hf
    cases hf
  | succ n ih =>
    intro h x0 x1 x4 x5 x6 cells slots kz mz H locs ls hf hk hs hE hl
    exact wfX5_gather_95F b hlk hr zs zk  ih hf hk hs hE hl
def fX5_gather_67F (k67 : PH → Nat → Int32 → Option Nat → Int32 → Int32 → Option (PH × Nat × Nat)) (h : PH) (x0 : Nat) (x1 : Int32) (x4 : Option Nat) (x5 : Int32) (x6 : Int32) : Option (PH × Nat × Nat) :=
  oN x4 (fun a25 => oC (decide (hT h a25 = 9)) (if (hI h 1026 a25) ≤ x6 then (fX5_gather_95  FU h x0 x1 x4 x5 0) else (oC (decide (hT h x0 = 6)) (oL (x5 * (hI h 642 x0)) (fun y29 => oL (x6 + 1) (fun y30 => k67 h x0 x1 x4 y29 y30))))))
set_option maxHeartbeats 4000000 in
theorem wfX5_gather_67F {mc ms cells slots : Nat} {args : Array Value} (b : Bd p s m c cX5_gather 7 RX5 D aC) (hlk : meth.locks = false) (hr : meth.sig.returnType = none) {Z : State → Prop} (zs : Z s) (zk : ZOK Z (Rg ad)) {hz : PH} {k67 : PH → Nat → Int32 → Option Nat → Int32 → Int32 → Option (PH × Nat × Nat)} (H67 : ∀ (h : PH) (x0 : Nat) (x1 : Int32) (x4 : Option Nat) (x5 : Int32) (x6 : Int32), ∀ (cells slots kz mz : Nat) (H : Heap) (locs : List Loc) (ls : Array Slot), k67 h x0 x1 x4 x5 x6 = some (hz, kz, mz) → cells + kz ≤ mc → slots + mz ≤ ms → CE (EX D aC ad h) (Rg ad) s H locs → lv_has ls 7 [(0, .ref (ad x0)), (1, .int x1), (4, va_rf (Option.map ad x4)), (5, .int x5), (6, .int x6)] → W p l e (RM 6 152 mc ms) s m args below meth c H locs cells slots (MQ below (PQ (EX D aC ad hz) (Rg ad) none) args s mc ms (Rg ad)) (F0 m 67 ls [])) {h : PH} {x0 : Nat} {x1 : Int32} {x4 : Option Nat} {x5 : Int32} {x6 : Int32} {kz : Nat} {mz : Nat}  {H : Heap} {locs : List Loc} {ls : Array Slot} (hf : fX5_gather_67F k67 h x0 x1 x4 x5 x6 = some (hz, kz, mz)) (hk : cells + kz ≤ mc) (hs : slots + mz ≤ ms) (hE : CE (EX D aC ad h) (Rg ad) s H locs) (hl : lv_has ls 7 [(0, .ref (ad x0)), (1, .int x1), (4, va_rf (Option.map ad x4)), (5, .int x5), (6, .int x6)]) : W p l e (RM 6 152 mc ms) s m args below meth c H locs cells slots (MQ below (PQ (EX D aC ad hz) (Rg ad) none) args s mc ms (Rg ad)) (F0 m 67 ls []) := by
  unfold fX5_gather_67F at hf
  refine lv_iload b.1 b.2.1 dX5_gather_67 (lv_at hl 4 rfl) ?_
  refine k_aload (x := Option.map ad x4) b dX5_gather_69 (lv_at hl 2 rfl) ?_
  obtain ⟨a25, ea25, hf⟩ := oN_s hf
  obtain ⟨t26, hf⟩ := oC_s hf
  have t26 := of_decide_eq_true t26
  refine gX5_130 (x := x4) b hE ea25 t26 dX5_gather_71 ?_
  refine lv_icmp_ge (tgt := 92) b.1 b.2.1 dX5_gather_74 (by decide) (fun c27 => ?_) (fun c27 => ?_)
  · have hf := oI_t c27 hf
    refine lv_iconst (v := 0) b.1 b.2.1 dX5_gather_92 (by decide) ?_
    refine lv_istore (lv' := [(6, .int 0), (0, .ref (ad x0)), (1, .int x1), (4, va_rf (Option.map ad x4)), (5, .int x5)]) b.1 b.2.1 dX5_gather_93 hl (by decide) rfl (fun ls hl => ?_)
    exact wfX5_gather_95 b hlk hr zs zk  FU h x0 x1 x4 x5 0 _ _ _ _ _ _ _ hf hk hs hE (lv_sub hl [1, 2, 3, 4, 0] rfl)
  · have hf := oI_f c27 hf
    refine lv_iload b.1 b.2.1 dX5_gather_77 (lv_at hl 3 rfl) ?_
    refine lv_aload_n b.1 b.2.1 dX5_gather_79 rfl (lv_at hl 0 rfl) ?_
    obtain ⟨t28, hf⟩ := oC_s hf
    have t28 := of_decide_eq_true t28
    refine gX5_75 (x := (some x0)) b hE rfl t28 dX5_gather_80 ?_
    refine lv_imul b.1 b.2.1 dX5_gather_83 ?_
    obtain ⟨y29, ey29, hf⟩ := oL_s hf
    refine k_nmI ey29 ?_
    refine lv_istore (lv' := [(5, .int y29), (0, .ref (ad x0)), (1, .int x1), (4, va_rf (Option.map ad x4)), (6, .int x6)]) b.1 b.2.1 dX5_gather_84 hl (by decide) (by cases x4 <;> rfl) (fun ls hl => ?_)
    obtain ⟨y30, ey30, hf⟩ := oL_s hf
    refine lv_iinc (v := y30) (lv' := [(6, .int y30), (5, .int y29), (0, .ref (ad x0)), (1, .int x1), (4, va_rf (Option.map ad x4))]) b.1 b.2.1 dX5_gather_86 hl (k := 4) rfl (by rw [ey30]; rfl) (by decide) rfl (fun ls hl => ?_)
    refine lv_goto (tgt := 67) b.1 b.2.1 dX5_gather_89 (by decide) ?_
    exact H67 h x0 x1 x4 y29 y30 _ _ _ _ _ _ _ hf hk hs hE (lv_sub hl [2, 3, 4, 1, 0] rfl)
def fX5_gather_67  : Nat → PH → Nat → Int32 → Option Nat → Int32 → Int32 → Option (PH × Nat × Nat)
  | 0 => fun _ _ _ _ _ _ => none
  | n + 1 => fX5_gather_67F  (fX5_gather_67  n)
set_option maxHeartbeats 4000000 in
theorem wfX5_gather_67 {mc ms : Nat} {args : Array Value} (b : Bd p s m c cX5_gather 7 RX5 D aC) (hlk : meth.locks = false) (hr : meth.sig.returnType = none) {Z : State → Prop} (zs : Z s) (zk : ZOK Z (Rg ad)) {hz : PH} : ∀ n : Nat, ∀ (h : PH) (x0 : Nat) (x1 : Int32) (x4 : Option Nat) (x5 : Int32) (x6 : Int32), ∀ (cells slots kz mz : Nat) (H : Heap) (locs : List Loc) (ls : Array Slot), fX5_gather_67  n h x0 x1 x4 x5 x6 = some (hz, kz, mz) → cells + kz ≤ mc → slots + mz ≤ ms → CE (EX D aC ad h) (Rg ad) s H locs → lv_has ls 7 [(0, .ref (ad x0)), (1, .int x1), (4, va_rf (Option.map ad x4)), (5, .int x5), (6, .int x6)] → W p l e (RM 6 152 mc ms) s m args below meth c H locs cells slots (MQ below (PQ (EX D aC ad hz) (Rg ad) none) args s mc ms (Rg ad)) (F0 m 67 ls []) := by
  intro n
  induction n with
  | zero =>
    intro h x0 x1 x4 x5 x6 cells slots kz mz H locs ls hf
    have hf : (none : Option (PH × Nat × Nat)) = some _ := hf
    cases hf
  | succ n ih =>
    intro h x0 x1 x4 x5 x6 cells slots kz mz H locs ls hf hk hs hE hl
    exact wfX5_gather_67F b hlk hr zs zk  ih hf hk hs hE hl
def fX5_gather_50  (h : PH) (x0 : Nat) (x1 : Int32) (x4 : Option Nat) : Option (PH × Nat × Nat) :=
  oC (decide (hT h x0 = 6)) (oB (fX5_bettersOf h x0 x1) (fun r33 => oN (hR h 650 x0) (fun a34 => oC (decide (hT h a34 = 101)) (oC (ix x1 (hN h a34)) (oL (sA h a34 (Int32.toNatClampNeg x1) r33) (fun h37 => fX5_gather_67  FU h37 x0 x1 x4 1 0))))))
set_option maxHeartbeats 4000000 in
theorem wfX5_gather_50 {mc ms cells slots : Nat} {args : Array Value} (b : Bd p s m c cX5_gather 7 RX5 D aC) (hlk : meth.locks = false) (hr : meth.sig.returnType = none) {Z : State → Prop} (zs : Z s) (zk : ZOK Z (Rg ad)) {hz : PH} {h : PH} {x0 : Nat} {x1 : Int32} {x4 : Option Nat} {kz : Nat} {mz : Nat}  {H : Heap} {locs : List Loc} {ls : Array Slot} (hf : fX5_gather_50 h x0 x1 x4 = some (hz, kz, mz)) (hk : cells + kz ≤ mc) (hs : slots + mz ≤ ms) (hE : CE (EX D aC ad h) (Rg ad) s H locs) (hl : lv_has ls 7 [(0, .ref (ad x0)), (1, .int x1), (4, va_rf (Option.map ad x4))]) : W p l e (RM 6 152 mc ms) s m args below meth c H locs cells slots (MQ below (PQ (EX D aC ad hz) (Rg ad) none) args s mc ms (Rg ad)) (F0 m 50 ls []) := by
  unfold fX5_gather_50 at hf
  refine lv_aload_n b.1 b.2.1 dX5_gather_50 rfl (lv_at hl 0 rfl) ?_
  obtain ⟨t31, hf⟩ := oC_s hf
  have t31 := of_decide_eq_true t31
  refine gX5_28 (x := (some x0)) b hE rfl t31 dX5_gather_51 ?_
  refine lv_iload_n b.1 b.2.1 dX5_gather_54 rfl (lv_at hl 1 rfl) ?_
  refine lv_aload_n b.1 b.2.1 dX5_gather_55 rfl (lv_at hl 0 rfl) ?_
  refine lv_iload_n b.1 b.2.1 dX5_gather_56 rfl (lv_at hl 1 rfl) ?_
  obtain ⟨r33, hc32, hf⟩ := oB_s hf
  refine k_callV0 (C := RX5) b zs zk hE (CX5_bettersOf l D aC ad zk hc32) mc_X5_bettersOf (in4 183 rfl rfl) mi_X5_bettersOf ms_X5_bettersOf ini_RX5 ok_X5_bettersOf (x_recv b hE (ci := 5) rfl (by decide) t31) ⟨Nat.le_of_ble_eq_true rfl, Nat.le_of_ble_eq_true rfl⟩ rfl hl.1 rfl (k_room _ (by exact Nat.le_of_ble_eq_true rfl)) ⟨le_0 hk, le_0 hs⟩ dX5_gather_57 (fun H locs hE => ?_)
  obtain ⟨a34, ea34, hf⟩ := oN_s hf
  obtain ⟨t35, hf⟩ := oC_s hf
  have t35 := of_decide_eq_true t35
  obtain ⟨g36, hf⟩ := oC_s hf
  obtain ⟨h37, eh37, hf⟩ := oL_s hf
  refine q_iast (x := (hR h 650 x0)) b hE ea34 t35 g36 eh37 dX5_gather_60 (fun H locs hE => ?_)
  refine lv_iconst (v := 1) b.1 b.2.1 dX5_gather_61 (by decide) ?_
  refine lv_istore (lv' := [(5, .int 1), (0, .ref (ad x0)), (1, .int x1), (4, va_rf (Option.map ad x4))]) b.1 b.2.1 dX5_gather_62 hl (by decide) (by cases x4 <;> rfl) (fun ls hl => ?_)
  refine lv_iconst (v := 0) b.1 b.2.1 dX5_gather_64 (by decide) ?_
  refine lv_istore (lv' := [(6, .int 0), (5, .int 1), (0, .ref (ad x0)), (1, .int x1), (4, va_rf (Option.map ad x4))]) b.1 b.2.1 dX5_gather_65 hl (by decide) rfl (fun ls hl => ?_)
  exact wfX5_gather_67 b hlk hr zs zk  FU h37 x0 x1 x4 1 0 _ _ _ _ _ _ _ hf hk hs hE (lv_sub hl [2, 3, 4, 1, 0] rfl)
def fX5_gather_0  (h : PH) (x0 : Nat) (x1 : Int32) (x2 : Int32) (x3 : Int32) : Option (PH × Nat × Nat) :=
  oC (decide (hT h x0 = 6)) (oN (hR h 640 x0) (fun a39 => oC (decide (hT h a39 = 2)) (oB (fX1_ruleAt h a39 x1) (fun r42 => if r42 = none then (some (h, 0, 0)) else (oB (fX1_isInForce h a39 r42 x2 x3) (fun r45 => if r45 = 0 then (some (h, 0, 0)) else (oN r42 (fun a47 => oC (decide (hT h a47 = 9)) (if (hI h 1025 a47) = 0 then (oL (sI h 651 x0 ((hI h 651 x0) ||| (1 <<< (x1 &&& 31)))) (fun h50 => fX5_gather_50  h50 x0 x1 r42)) else (fX5_gather_50  h x0 x1 r42))))))))))
set_option maxHeartbeats 4000000 in
theorem wfX5_gather_0 {mc ms cells slots : Nat} {args : Array Value} (b : Bd p s m c cX5_gather 7 RX5 D aC) (hlk : meth.locks = false) (hr : meth.sig.returnType = none) {Z : State → Prop} (zs : Z s) (zk : ZOK Z (Rg ad)) {hz : PH} {h : PH} {x0 : Nat} {x1 : Int32} {x2 : Int32} {x3 : Int32} {kz : Nat} {mz : Nat}  {H : Heap} {locs : List Loc} {ls : Array Slot} (hf : fX5_gather_0 h x0 x1 x2 x3 = some (hz, kz, mz)) (hk : cells + kz ≤ mc) (hs : slots + mz ≤ ms) (hE : CE (EX D aC ad h) (Rg ad) s H locs) (hl : lv_has ls 7 [(0, .ref (ad x0)), (1, .int x1), (2, .int x2), (3, .int x3)]) : W p l e (RM 6 152 mc ms) s m args below meth c H locs cells slots (MQ below (PQ (EX D aC ad hz) (Rg ad) none) args s mc ms (Rg ad)) (F0 m 0 ls []) := by
  unfold fX5_gather_0 at hf
  refine lv_aload_n b.1 b.2.1 dX5_gather_0 rfl (lv_at hl 0 rfl) ?_
  obtain ⟨t38, hf⟩ := oC_s hf
  have t38 := of_decide_eq_true t38
  refine gX5_50 (x := (some x0)) b hE rfl t38 dX5_gather_1 ?_
  refine lv_iload_n b.1 b.2.1 dX5_gather_4 rfl (lv_at hl 1 rfl) ?_
  obtain ⟨a39, ea39, hf⟩ := oN_s hf
  obtain ⟨t40, hf⟩ := oC_s hf
  have t40 := of_decide_eq_true t40
  obtain ⟨r42, hc41, hf⟩ := oB_s hf
  refine k_stk [.int x1] ea39 ?_
  refine k_callV0 (C := RX1) b zs zk hE (CX1_ruleAt l D aC ad zk hc41) mc_X1_ruleAt (in4 174 rfl rfl) mi_X1_ruleAt ms_X1_ruleAt ini_RX1 ok_X1_ruleAt (x_recv b hE (ci := 1) rfl (by decide) t40) ⟨Nat.le_of_ble_eq_true rfl, Nat.le_of_ble_eq_true rfl⟩ rfl hl.1 rfl (k_room _ (by exact Nat.le_of_ble_eq_true rfl)) ⟨le_0 hk, le_0 hs⟩ dX5_gather_5 (fun H locs hE => ?_)
  refine k_astore (x := Option.map ad r42) (lv' := [(4, va_rf (Option.map ad r42)), (0, .ref (ad x0)), (1, .int x1), (2, .int x2), (3, .int x3)]) b dX5_gather_8 hl (by decide) rfl (fun ls hl => ?_)
  refine k_aload (x := Option.map ad r42) b dX5_gather_10 (lv_at hl 0 rfl) ?_
  refine k_ifnull (x := Option.map ad r42) b dX5_gather_12 (tgt := 29) (by decide) (fun c43 => ?_) (fun c43 => ?_)
  · have hf := oI_t (Option.map_eq_none_iff.mp c43) hf
    cases hf
    exact k_vret b hlk hr hE (le_c hk) (le_c hs) dX5_gather_29
  · have hf := oI_f (fun z => c43 (Option.map_eq_none_iff.mpr z)) hf
    refine lv_aload_n b.1 b.2.1 dX5_gather_15 rfl (lv_at hl 1 rfl) ?_
    refine gX5_50 (x := (some x0)) b hE rfl t38 dX5_gather_16 ?_
    refine k_aload (x := Option.map ad r42) b dX5_gather_19 (lv_at hl 0 rfl) ?_
    refine lv_iload_n b.1 b.2.1 dX5_gather_21 rfl (lv_at hl 3 rfl) ?_
    refine lv_iload_n b.1 b.2.1 dX5_gather_22 rfl (lv_at hl 4 rfl) ?_
    obtain ⟨r45, hc44, hf⟩ := oB_s hf
    refine k_stk [.int x3, .int x2, va_rf (Option.map ad r42)] ea39 ?_
    refine k_callV0 (C := RX1) b zs zk hE (CX1_isInForce l D aC ad zk hc44) mc_X1_isInForce (in4 175 rfl rfl) mi_X1_isInForce ms_X1_isInForce ini_RX1 ok_X1_isInForce (x_recv b hE (ci := 1) rfl (by decide) t40) ⟨Nat.le_of_ble_eq_true rfl, Nat.le_of_ble_eq_true rfl⟩ rfl hl.1 rfl (k_room _ (by exact Nat.le_of_ble_eq_true rfl)) ⟨le_0 hk, le_0 hs⟩ dX5_gather_23 (fun H locs hE => ?_)
    refine lv_if_ne (tgt := 30) b.1 b.2.1 dX5_gather_26 (by decide) (fun c46 => ?_) (fun c46 => ?_)
    · have hf := oI_f c46 hf
      refine k_aload (x := Option.map ad r42) b dX5_gather_30 (lv_at hl 0 rfl) ?_
      obtain ⟨a47, ea47, hf⟩ := oN_s hf
      obtain ⟨t48, hf⟩ := oC_s hf
      have t48 := of_decide_eq_true t48
      refine gX5_121 (x := r42) b hE ea47 t48 dX5_gather_32 ?_
      refine lv_if_ne (tgt := 50) b.1 b.2.1 dX5_gather_35 (by decide) (fun c49 => ?_) (fun c49 => ?_)
      · have hf := oI_f c49 hf
        exact wfX5_gather_50 b hlk hr zs zk  hf hk hs hE (lv_sub hl [1, 2, 0] rfl)
      · have hf := oI_t c49 hf
        refine lv_aload_n b.1 b.2.1 dX5_gather_38 rfl (lv_at hl 1 rfl) ?_
        refine lv_dup b.1 b.2.1 dX5_gather_39 rfl ?_
        refine gX5_87 (x := (some x0)) b hE rfl t38 dX5_gather_40 ?_
        refine lv_iconst (v := 1) b.1 b.2.1 dX5_gather_43 (by decide) ?_
        refine lv_iload_n b.1 b.2.1 dX5_gather_44 rfl (lv_at hl 2 rfl) ?_
        refine lv_ishl b.1 b.2.1 dX5_gather_45 ?_
        refine lv_ior b.1 b.2.1 dX5_gather_46 ?_
        obtain ⟨h50, eh50, hf⟩ := oL_s hf
        refine pX5_87 (x := (some x0)) b hE rfl t38 eh50 dX5_gather_47 (fun H locs hE => ?_)
        exact wfX5_gather_50 b hlk hr zs zk  hf hk hs hE (lv_sub hl [1, 2, 0] rfl)
    · have hf := oI_t c46 hf
      cases hf
      exact k_vret b hlk hr hE (le_c hk) (le_c hs) dX5_gather_29
def fX5_gather (h : PH) (x0 : Nat) (x1 : Int32) (x2 : Int32) (x3 : Int32) : Option (PH × Nat × Nat) := fX5_gather_0 h x0 x1 x2 x3
set_option maxHeartbeats 4000000 in
theorem CX5_gather (l : Launch) (D : va_G) (aC : Nat → ClassId) (ad : Nat → Nat) {Z : State → Prop} (zk : ZOK Z (Rg ad)) {h : PH} {x0 : Nat} {x1 : Int32} {x2 : Int32} {x3 : Int32} {hz : PH} {kz : Nat} {mz : Nat} (hf : fX5_gather h x0 x1 x2 x3 = some (hz, kz, mz)) : CM l D aC Z yX5_gather cX5_gather 7 (none) 6 152 kz mz (EX D aC ad h) [.ref (ad x0), .int x1, .int x2, .int x3] (EX D aC ad hz) none (Rg ad) := by
  refine CM.of rfl ?_
  intro p e s m below meth c b hr hlk hin2 zs hE
  refine k_ent (Nat.le_of_ble_eq_true rfl) (fun ls hl => ?_)
  exact wfX5_gather_0 b hlk hr zs zk hf (by omega) (by omega) hE (lv_sub hl [0, 1, 2, 3] rfl)
theorem dX5_bound_0 : decode cX5_bound 0 = .ok (.iload_n 1, 1) := by decide +kernel
theorem dX5_bound_1 : decode cX5_bound 1 = .ok (.ifCond .ge 7, 3) := by decide +kernel
theorem dX5_bound_4 : decode cX5_bound 4 = .ok (.aconst_null, 1) := by decide +kernel
theorem dX5_bound_5 : decode cX5_bound 5 = .ok (.goto 14, 3) := by decide +kernel
theorem dX5_bound_8 : decode cX5_bound 8 = .ok (.aload_n 0, 1) := by decide +kernel
theorem dX5_bound_9 : decode cX5_bound 9 = .ok (.getfield 50, 3) := by decide +kernel
theorem dX5_bound_12 : decode cX5_bound 12 = .ok (.iload_n 1, 1) := by decide +kernel
theorem dX5_bound_13 : decode cX5_bound 13 = .ok (.bipush 125, 2) := by decide +kernel
theorem dX5_bound_15 : decode cX5_bound 15 = .ok (.idiv, 1) := by decide +kernel
theorem dX5_bound_16 : decode cX5_bound 16 = .ok (.invokevirtual 113, 3) := by decide +kernel
theorem dX5_bound_19 : decode cX5_bound 19 = .ok (.astore_n 2, 1) := by decide +kernel
theorem dX5_bound_20 : decode cX5_bound 20 = .ok (.aload_n 2, 1) := by decide +kernel
theorem dX5_bound_21 : decode cX5_bound 21 = .ok (.ifnull 22, 3) := by decide +kernel
theorem dX5_bound_24 : decode cX5_bound 24 = .ok (.aload_n 0, 1) := by decide +kernel
theorem dX5_bound_25 : decode cX5_bound 25 = .ok (.getfield 59, 3) := by decide +kernel
theorem dX5_bound_28 : decode cX5_bound 28 = .ok (.iload_n 1, 1) := by decide +kernel
theorem dX5_bound_29 : decode cX5_bound 29 = .ok (.bipush 125, 2) := by decide +kernel
theorem dX5_bound_31 : decode cX5_bound 31 = .ok (.irem, 1) := by decide +kernel
theorem dX5_bound_32 : decode cX5_bound 32 = .ok (.aload_n 2, 1) := by decide +kernel
theorem dX5_bound_33 : decode cX5_bound 33 = .ok (.getfield 130, 3) := by decide +kernel
theorem dX5_bound_36 : decode cX5_bound 36 = .ok (.aload_n 0, 1) := by decide +kernel
theorem dX5_bound_37 : decode cX5_bound 37 = .ok (.getfield 75, 3) := by decide +kernel
theorem dX5_bound_40 : decode cX5_bound 40 = .ok (.invokevirtual 133, 3) := by decide +kernel
theorem dX5_bound_43 : decode cX5_bound 43 = .ok (.aload_n 2, 1) := by decide +kernel
theorem dX5_bound_44 : decode cX5_bound 44 = .ok (.areturn, 1) := by decide +kernel
def fX5_bound_19  (h : PH) (x0 : Nat) (x1 : Int32) (s0 : Option Nat) : Option (PH × Option Nat) :=
  if s0 = none then (some (h, s0)) else (oC (decide (hT h x0 = 6)) (oN s0 (fun a3 => oC (decide (hT h a3 = 9)) (oN (hR h 641 x0) (fun a5 => oC (decide (hT h a5 = 7)) (oB (fX6_bind h a5 (x1 - x1 / 125 * 125) (hI h 1026 a3) (hI h 642 x0)) (fun h8 => some (h8, s0))))))))
set_option maxHeartbeats 4000000 in
theorem wfX5_bound_19 {args : Array Value} (b : Bd p s m c cX5_bound 3 RX5 D aC) (hlk : meth.locks = false) (hr : meth.sig.returnType = some (.object "StatuteBench$Rule")) {Z : State → Prop} (zs : Z s) (zk : ZOK Z (Rg ad)) {hz : PH} {rz : Option Nat} {h : PH} {x0 : Nat} {x1 : Int32} {s0 : Option Nat}  {H : Heap} {locs : List Loc} {ls : Array Slot} (hf : fX5_bound_19 h x0 x1 s0 = some (hz, rz)) (hE : CE (EX D aC ad h) (Rg ad) s H locs) (hl : lv_has ls 3 [(0, .ref (ad x0)), (1, .int x1)]) : W p l e (RM 2 49 0 0) s m args below meth c H locs 0 0 (MQ below (PQ (EX D aC ad hz) (Rg ad) (some (va_rf (Option.map ad rz)))) args s 0 0 (Rg ad)) (F0 m 19 ls [va_rf (Option.map ad s0)]) := by
  unfold fX5_bound_19 at hf
  refine k_astore_n (x := Option.map ad s0) (lv' := [(2, va_rf (Option.map ad s0)), (0, .ref (ad x0)), (1, .int x1)]) b dX5_bound_19 rfl hl (by decide) rfl (fun ls hl => ?_)
  refine k_aload_n (x := Option.map ad s0) b dX5_bound_20 rfl (lv_at hl 0 rfl) ?_
  refine k_ifnull (x := Option.map ad s0) b dX5_bound_21 (tgt := 43) (by decide) (fun c1 => ?_) (fun c1 => ?_)
  · have hf := oI_t (Option.map_eq_none_iff.mp c1) hf
    refine k_aload_n (x := Option.map ad s0) b dX5_bound_43 rfl (lv_at hl 0 rfl) ?_
    cases hf
    exact k_aret b hlk hr hE (Nat.le_refl _) (Nat.le_refl _) dX5_bound_44
  · have hf := oI_f (fun z => c1 (Option.map_eq_none_iff.mpr z)) hf
    refine lv_aload_n b.1 b.2.1 dX5_bound_24 rfl (lv_at hl 1 rfl) ?_
    obtain ⟨t2, hf⟩ := oC_s hf
    have t2 := of_decide_eq_true t2
    refine gX5_59 (x := (some x0)) b hE rfl t2 dX5_bound_25 ?_
    refine lv_iload_n b.1 b.2.1 dX5_bound_28 rfl (lv_at hl 2 rfl) ?_
    refine lv_bipush (v := 125) b.1 b.2.1 dX5_bound_29 (by decide) ?_
    refine lv_irem b.1 b.2.1 dX5_bound_31 (by decide) ?_
    refine k_aload_n (x := Option.map ad s0) b dX5_bound_32 rfl (lv_at hl 0 rfl) ?_
    obtain ⟨a3, ea3, hf⟩ := oN_s hf
    obtain ⟨t4, hf⟩ := oC_s hf
    have t4 := of_decide_eq_true t4
    refine gX5_130 (x := s0) b hE ea3 t4 dX5_bound_33 ?_
    refine lv_aload_n b.1 b.2.1 dX5_bound_36 rfl (lv_at hl 1 rfl) ?_
    refine gX5_75 (x := (some x0)) b hE rfl t2 dX5_bound_37 ?_
    obtain ⟨a5, ea5, hf⟩ := oN_s hf
    obtain ⟨t6, hf⟩ := oC_s hf
    have t6 := of_decide_eq_true t6
    obtain ⟨h8, hc7, hf⟩ := oB_s hf
    refine k_stk [.int (hI h 642 x0), .int (hI h 1026 a3), .int (x1 - x1 / 125 * 125)] ea5 ?_
    refine k_callV0 (C := RX6) b zs zk hE (CX6_bind l D aC ad zk hc7) mc_X6_bind (in4 191 rfl rfl) mi_X6_bind ms_X6_bind ini_RX6 ok_X6_bind (x_recv b hE (ci := 6) rfl (by decide) t6) ⟨Nat.le_of_ble_eq_true rfl, Nat.le_of_ble_eq_true rfl⟩ rfl hl.1 rfl (k_room _ (by exact Nat.le_of_ble_eq_true rfl)) ⟨Nat.le_refl _, Nat.le_refl _⟩ dX5_bound_40 (fun H locs hE => ?_)
    refine k_aload_n (x := Option.map ad s0) b dX5_bound_43 rfl (lv_at hl 0 rfl) ?_
    cases hf
    exact k_aret b hlk hr hE (Nat.le_refl _) (Nat.le_refl _) dX5_bound_44
def fX5_bound_0  (h : PH) (x0 : Nat) (x1 : Int32) : Option (PH × Option Nat) :=
  if 0 ≤ x1 then (oC (decide (hT h x0 = 6)) (oN (hR h 640 x0) (fun a11 => oC (decide (hT h a11 = 2)) (oB (fX1_ruleAt h a11 (x1 / 125)) (fun r14 => fX5_bound_19  h x0 x1 r14))))) else (fX5_bound_19  h x0 x1 none)
set_option maxHeartbeats 4000000 in
theorem wfX5_bound_0 {args : Array Value} (b : Bd p s m c cX5_bound 3 RX5 D aC) (hlk : meth.locks = false) (hr : meth.sig.returnType = some (.object "StatuteBench$Rule")) {Z : State → Prop} (zs : Z s) (zk : ZOK Z (Rg ad)) {hz : PH} {rz : Option Nat} {h : PH} {x0 : Nat} {x1 : Int32}  {H : Heap} {locs : List Loc} {ls : Array Slot} (hf : fX5_bound_0 h x0 x1 = some (hz, rz)) (hE : CE (EX D aC ad h) (Rg ad) s H locs) (hl : lv_has ls 3 [(0, .ref (ad x0)), (1, .int x1)]) : W p l e (RM 2 49 0 0) s m args below meth c H locs 0 0 (MQ below (PQ (EX D aC ad hz) (Rg ad) (some (va_rf (Option.map ad rz)))) args s 0 0 (Rg ad)) (F0 m 0 ls []) := by
  unfold fX5_bound_0 at hf
  refine lv_iload_n b.1 b.2.1 dX5_bound_0 rfl (lv_at hl 1 rfl) ?_
  refine lv_if_ge (tgt := 8) b.1 b.2.1 dX5_bound_1 (by decide) (fun c9 => ?_) (fun c9 => ?_)
  · have hf := oI_t c9 hf
    refine lv_aload_n b.1 b.2.1 dX5_bound_8 rfl (lv_at hl 0 rfl) ?_
    obtain ⟨t10, hf⟩ := oC_s hf
    have t10 := of_decide_eq_true t10
    refine gX5_50 (x := (some x0)) b hE rfl t10 dX5_bound_9 ?_
    refine lv_iload_n b.1 b.2.1 dX5_bound_12 rfl (lv_at hl 1 rfl) ?_
    refine lv_bipush (v := 125) b.1 b.2.1 dX5_bound_13 (by decide) ?_
    refine lv_idiv b.1 b.2.1 dX5_bound_15 (by decide) ?_
    obtain ⟨a11, ea11, hf⟩ := oN_s hf
    obtain ⟨t12, hf⟩ := oC_s hf
    have t12 := of_decide_eq_true t12
    obtain ⟨r14, hc13, hf⟩ := oB_s hf
    refine k_stk [.int (x1 / 125)] ea11 ?_
    refine k_callV0 (C := RX1) b zs zk hE (CX1_ruleAt l D aC ad zk hc13) mc_X1_ruleAt (in4 174 rfl rfl) mi_X1_ruleAt ms_X1_ruleAt ini_RX1 ok_X1_ruleAt (x_recv b hE (ci := 1) rfl (by decide) t12) ⟨Nat.le_of_ble_eq_true rfl, Nat.le_of_ble_eq_true rfl⟩ rfl hl.1 rfl (k_room _ (by exact Nat.le_of_ble_eq_true rfl)) ⟨Nat.le_refl _, Nat.le_refl _⟩ dX5_bound_16 (fun H locs hE => ?_)
    exact wfX5_bound_19 b hlk hr zs zk  hf hE (lv_sub hl [0, 1] rfl)
  · have hf := oI_f c9 hf
    refine lv_null b.1 b.2.1 dX5_bound_4 ?_
    refine lv_goto (tgt := 19) b.1 b.2.1 dX5_bound_5 (by decide) ?_
    exact wfX5_bound_19 b hlk hr zs zk  hf hE (lv_sub hl [0, 1] rfl)
def fX5_bound (h : PH) (x0 : Nat) (x1 : Int32) : Option (PH × Option Nat) := fX5_bound_0 h x0 x1
set_option maxHeartbeats 4000000 in
theorem CX5_bound (l : Launch) (D : va_G) (aC : Nat → ClassId) (ad : Nat → Nat) {Z : State → Prop} (zk : ZOK Z (Rg ad)) {h : PH} {x0 : Nat} {x1 : Int32} {hz : PH} {rz : Option Nat} (hf : fX5_bound h x0 x1 = some (hz, rz)) : CM l D aC Z yX5_bound cX5_bound 3 (some (.object "StatuteBench$Rule")) 2 49 0 0 (EX D aC ad h) [.ref (ad x0), .int x1] (EX D aC ad hz) (some (va_rf (Option.map ad rz))) (Rg ad) := by
  refine CM.of rfl ?_
  intro p e s m below meth c b hr hlk hin2 zs hE
  refine k_ent (Nat.le_of_ble_eq_true rfl) (fun ls hl => ?_)
  exact wfX5_bound_0 b hlk hr zs zk hf hE (lv_sub hl [0, 1] rfl)
theorem dX5_stateOf_0 : decode cX5_stateOf 0 = .ok (.aload_n 0, 1) := by decide +kernel
theorem dX5_stateOf_1 : decode cX5_stateOf 1 = .ok (.iload_n 1, 1) := by decide +kernel
theorem dX5_stateOf_2 : decode cX5_stateOf 2 = .ok (.invokevirtual 161, 3) := by decide +kernel
theorem dX5_stateOf_5 : decode cX5_stateOf 5 = .ok (.astore_n 2, 1) := by decide +kernel
theorem dX5_stateOf_6 : decode cX5_stateOf 6 = .ok (.aload_n 2, 1) := by decide +kernel
theorem dX5_stateOf_7 : decode cX5_stateOf 7 = .ok (.ifnonnull 5, 3) := by decide +kernel
theorem dX5_stateOf_10 : decode cX5_stateOf 10 = .ok (.iconst 2, 1) := by decide +kernel
theorem dX5_stateOf_11 : decode cX5_stateOf 11 = .ok (.ireturn, 1) := by decide +kernel
theorem dX5_stateOf_12 : decode cX5_stateOf 12 = .ok (.iconst 1, 1) := by decide +kernel
theorem dX5_stateOf_13 : decode cX5_stateOf 13 = .ok (.istore_n 3, 1) := by decide +kernel
theorem dX5_stateOf_14 : decode cX5_stateOf 14 = .ok (.iconst 0, 1) := by decide +kernel
theorem dX5_stateOf_15 : decode cX5_stateOf 15 = .ok (.istore 4, 2) := by decide +kernel
theorem dX5_stateOf_17 : decode cX5_stateOf 17 = .ok (.iload 4, 2) := by decide +kernel
theorem dX5_stateOf_19 : decode cX5_stateOf 19 = .ok (.aload_n 2, 1) := by decide +kernel
theorem dX5_stateOf_20 : decode cX5_stateOf 20 = .ok (.getfield 248, 3) := by decide +kernel
theorem dX5_stateOf_23 : decode cX5_stateOf 23 = .ok (.if_icmp .ge 85, 3) := by decide +kernel
theorem dX5_stateOf_26 : decode cX5_stateOf 26 = .ok (.aload_n 2, 1) := by decide +kernel
theorem dX5_stateOf_27 : decode cX5_stateOf 27 = .ok (.getfield 249, 3) := by decide +kernel
theorem dX5_stateOf_30 : decode cX5_stateOf 30 = .ok (.iload 4, 2) := by decide +kernel
theorem dX5_stateOf_32 : decode cX5_stateOf 32 = .ok (.aaload, 1) := by decide +kernel
theorem dX5_stateOf_33 : decode cX5_stateOf 33 = .ok (.astore 5, 2) := by decide +kernel
theorem dX5_stateOf_35 : decode cX5_stateOf 35 = .ok (.aload 5, 2) := by decide +kernel
theorem dX5_stateOf_37 : decode cX5_stateOf 37 = .ok (.ifnull 18, 3) := by decide +kernel
theorem dX5_stateOf_40 : decode cX5_stateOf 40 = .ok (.aload 5, 2) := by decide +kernel
theorem dX5_stateOf_42 : decode cX5_stateOf 42 = .ok (.getfield 253, 3) := by decide +kernel
theorem dX5_stateOf_45 : decode cX5_stateOf 45 = .ok (.sipush 260, 3) := by decide +kernel
theorem dX5_stateOf_48 : decode cX5_stateOf 48 = .ok (.if_icmp .ne 7, 3) := by decide +kernel
theorem dX5_stateOf_51 : decode cX5_stateOf 51 = .ok (.iconst 1, 1) := by decide +kernel
theorem dX5_stateOf_52 : decode cX5_stateOf 52 = .ok (.goto 4, 3) := by decide +kernel
theorem dX5_stateOf_55 : decode cX5_stateOf 55 = .ok (.iconst 0, 1) := by decide +kernel
theorem dX5_stateOf_56 : decode cX5_stateOf 56 = .ok (.istore 6, 2) := by decide +kernel
theorem dX5_stateOf_58 : decode cX5_stateOf 58 = .ok (.iload 6, 2) := by decide +kernel
theorem dX5_stateOf_60 : decode cX5_stateOf 60 = .ok (.ifCond .eq 20, 3) := by decide +kernel
theorem dX5_stateOf_63 : decode cX5_stateOf 63 = .ok (.aload_n 0, 1) := by decide +kernel
theorem dX5_stateOf_64 : decode cX5_stateOf 64 = .ok (.getfield 15, 3) := by decide +kernel
theorem dX5_stateOf_67 : decode cX5_stateOf 67 = .ok (.aload_n 0, 1) := by decide +kernel
theorem dX5_stateOf_68 : decode cX5_stateOf 68 = .ok (.getfield 59, 3) := by decide +kernel
theorem dX5_stateOf_71 : decode cX5_stateOf 71 = .ok (.aload 5, 2) := by decide +kernel
theorem dX5_stateOf_73 : decode cX5_stateOf 73 = .ok (.invokevirtual 266, 3) := by decide +kernel
theorem dX5_stateOf_76 : decode cX5_stateOf 76 = .ok (.baload, 1) := by decide +kernel
theorem dX5_stateOf_77 : decode cX5_stateOf 77 = .ok (.goto 4, 3) := by decide +kernel
theorem dX5_stateOf_80 : decode cX5_stateOf 80 = .ok (.iconst 1, 1) := by decide +kernel
theorem dX5_stateOf_81 : decode cX5_stateOf 81 = .ok (.istore 7, 2) := by decide +kernel
theorem dX5_stateOf_83 : decode cX5_stateOf 83 = .ok (.iload 7, 2) := by decide +kernel
theorem dX5_stateOf_85 : decode cX5_stateOf 85 = .ok (.ifCond .ne 5, 3) := by decide +kernel
theorem dX5_stateOf_88 : decode cX5_stateOf 88 = .ok (.iconst 2, 1) := by decide +kernel
theorem dX5_stateOf_89 : decode cX5_stateOf 89 = .ok (.ireturn, 1) := by decide +kernel
theorem dX5_stateOf_90 : decode cX5_stateOf 90 = .ok (.iload 7, 2) := by decide +kernel
theorem dX5_stateOf_92 : decode cX5_stateOf 92 = .ok (.iconst 1, 1) := by decide +kernel
theorem dX5_stateOf_93 : decode cX5_stateOf 93 = .ok (.if_icmp .ne 7, 3) := by decide +kernel
theorem dX5_stateOf_96 : decode cX5_stateOf 96 = .ok (.iload_n 3, 1) := by decide +kernel
theorem dX5_stateOf_97 : decode cX5_stateOf 97 = .ok (.goto 4, 3) := by decide +kernel
theorem dX5_stateOf_100 : decode cX5_stateOf 100 = .ok (.iconst 0, 1) := by decide +kernel
theorem dX5_stateOf_101 : decode cX5_stateOf 101 = .ok (.istore_n 3, 1) := by decide +kernel
theorem dX5_stateOf_102 : decode cX5_stateOf 102 = .ok (.iinc 4 1, 3) := by decide +kernel
theorem dX5_stateOf_105 : decode cX5_stateOf 105 = .ok (.goto (-88), 3) := by decide +kernel
theorem dX5_stateOf_108 : decode cX5_stateOf 108 = .ok (.iload_n 3, 1) := by decide +kernel
theorem dX5_stateOf_109 : decode cX5_stateOf 109 = .ok (.ireturn, 1) := by decide +kernel
def fX5_stateOf_101 (k17 : PH → Nat → Option Nat → Int32 → Int32 → Option (PH × Int32)) (h : PH) (x0 : Nat) (x2 : Option Nat) (x4 : Int32) (s0 : Int32) : Option (PH × Int32) :=
  oL (x4 + 1) (fun y1 => k17 h x0 x2 s0 y1)
set_option maxHeartbeats 4000000 in
theorem wfX5_stateOf_101 {args : Array Value} (b : Bd p s m c cX5_stateOf 8 RX5 D aC) (hlk : meth.locks = false) (hr : meth.sig.returnType = some .int) {Z : State → Prop} (zs : Z s) (zk : ZOK Z (Rg ad)) {hz : PH} {rz : Int32} {k17 : PH → Nat → Option Nat → Int32 → Int32 → Option (PH × Int32)} (H17 : ∀ (h : PH) (x0 : Nat) (x2 : Option Nat) (x3 : Int32) (x4 : Int32), ∀ (H : Heap) (locs : List Loc) (ls : Array Slot), k17 h x0 x2 x3 x4 = some (hz, rz) → CE (EX D aC ad h) (Rg ad) s H locs → lv_has ls 8 [(0, .ref (ad x0)), (2, va_rf (Option.map ad x2)), (3, .int x3), (4, .int x4)] → W p l e (RM 3 71 0 0) s m args below meth c H locs 0 0 (MQ below (PQ (EX D aC ad hz) (Rg ad) (some (.int rz))) args s 0 0 (Rg ad)) (F0 m 17 ls [])) {h : PH} {x0 : Nat} {x2 : Option Nat} {x4 : Int32} {s0 : Int32}  {H : Heap} {locs : List Loc} {ls : Array Slot} (hf : fX5_stateOf_101 k17 h x0 x2 x4 s0 = some (hz, rz)) (hE : CE (EX D aC ad h) (Rg ad) s H locs) (hl : lv_has ls 8 [(0, .ref (ad x0)), (2, va_rf (Option.map ad x2)), (4, .int x4)]) : W p l e (RM 3 71 0 0) s m args below meth c H locs 0 0 (MQ below (PQ (EX D aC ad hz) (Rg ad) (some (.int rz))) args s 0 0 (Rg ad)) (F0 m 101 ls [.int s0]) := by
  unfold fX5_stateOf_101 at hf
  refine lv_istore_n (lv' := [(3, .int s0), (0, .ref (ad x0)), (2, va_rf (Option.map ad x2)), (4, .int x4)]) b.1 b.2.1 dX5_stateOf_101 rfl hl (by decide) (by cases x2 <;> rfl) (fun ls hl => ?_)
  obtain ⟨y1, ey1, hf⟩ := oL_s hf
  refine lv_iinc (v := y1) (lv' := [(4, .int y1), (3, .int s0), (0, .ref (ad x0)), (2, va_rf (Option.map ad x2))]) b.1 b.2.1 dX5_stateOf_102 hl (k := 3) rfl (by rw [ey1]; rfl) (by decide) rfl (fun ls hl => ?_)
  refine lv_goto (tgt := 17) b.1 b.2.1 dX5_stateOf_105 (by decide) ?_
  exact H17 h x0 x2 s0 y1 _ _ _ hf hE (lv_sub hl [2, 3, 1, 0] rfl)
def fX5_stateOf_81 (k17 : PH → Nat → Option Nat → Int32 → Int32 → Option (PH × Int32)) (h : PH) (x0 : Nat) (x2 : Option Nat) (x3 : Int32) (x4 : Int32) (s0 : Int32) : Option (PH × Int32) :=
  if s0 = 0 then (some (h, 2)) else (if s0 = 1 then (fX5_stateOf_101 k17 h x0 x2 x4 x3) else (fX5_stateOf_101 k17 h x0 x2 x4 0))
set_option maxHeartbeats 4000000 in
theorem wfX5_stateOf_81 {args : Array Value} (b : Bd p s m c cX5_stateOf 8 RX5 D aC) (hlk : meth.locks = false) (hr : meth.sig.returnType = some .int) {Z : State → Prop} (zs : Z s) (zk : ZOK Z (Rg ad)) {hz : PH} {rz : Int32} {k17 : PH → Nat → Option Nat → Int32 → Int32 → Option (PH × Int32)} (H17 : ∀ (h : PH) (x0 : Nat) (x2 : Option Nat) (x3 : Int32) (x4 : Int32), ∀ (H : Heap) (locs : List Loc) (ls : Array Slot), k17 h x0 x2 x3 x4 = some (hz, rz) → CE (EX D aC ad h) (Rg ad) s H locs → lv_has ls 8 [(0, .ref (ad x0)), (2, va_rf (Option.map ad x2)), (3, .int x3), (4, .int x4)] → W p l e (RM 3 71 0 0) s m args below meth c H locs 0 0 (MQ below (PQ (EX D aC ad hz) (Rg ad) (some (.int rz))) args s 0 0 (Rg ad)) (F0 m 17 ls [])) {h : PH} {x0 : Nat} {x2 : Option Nat} {x3 : Int32} {x4 : Int32} {s0 : Int32}  {H : Heap} {locs : List Loc} {ls : Array Slot} (hf : fX5_stateOf_81 k17 h x0 x2 x3 x4 s0 = some (hz, rz)) (hE : CE (EX D aC ad h) (Rg ad) s H locs) (hl : lv_has ls 8 [(0, .ref (ad x0)), (2, va_rf (Option.map ad x2)), (3, .int x3), (4, .int x4)]) : W p l e (RM 3 71 0 0) s m args below meth c H locs 0 0 (MQ below (PQ (EX D aC ad hz) (Rg ad) (some (.int rz))) args s 0 0 (Rg ad)) (F0 m 81 ls [.int s0]) := by
  unfold fX5_stateOf_81 at hf
  refine lv_istore (lv' := [(7, .int s0), (0, .ref (ad x0)), (2, va_rf (Option.map ad x2)), (3, .int x3), (4, .int x4)]) b.1 b.2.1 dX5_stateOf_81 hl (by decide) rfl (fun ls hl => ?_)
  refine lv_iload b.1 b.2.1 dX5_stateOf_83 (lv_at hl 0 rfl) ?_
  refine lv_if_ne (tgt := 90) b.1 b.2.1 dX5_stateOf_85 (by decide) (fun c2 => ?_) (fun c2 => ?_)
  · have hf := oI_f c2 hf
    refine lv_iload b.1 b.2.1 dX5_stateOf_90 (lv_at hl 0 rfl) ?_
    refine lv_iconst (v := 1) b.1 b.2.1 dX5_stateOf_92 (by decide) ?_
    refine lv_icmp_ne (tgt := 100) b.1 b.2.1 dX5_stateOf_93 (by decide) (fun c3 => ?_) (fun c3 => ?_)
    · have hf := oI_f c3 hf
      refine lv_iconst (v := 0) b.1 b.2.1 dX5_stateOf_100 (by decide) ?_
      exact wfX5_stateOf_101 b hlk hr zs zk H17 hf hE (lv_sub hl [1, 2, 4] rfl)
    · have hf := oI_t c3 hf
      refine lv_iload_n b.1 b.2.1 dX5_stateOf_96 rfl (lv_at hl 3 rfl) ?_
      refine lv_goto (tgt := 101) b.1 b.2.1 dX5_stateOf_97 (by decide) ?_
      exact wfX5_stateOf_101 b hlk hr zs zk H17 hf hE (lv_sub hl [1, 2, 4] rfl)
  · have hf := oI_t c2 hf
    refine lv_iconst (v := 2) b.1 b.2.1 dX5_stateOf_88 (by decide) ?_
    cases hf
    exact k_iret b hlk hr hE (Nat.le_refl _) (Nat.le_refl _) dX5_stateOf_89
def fX5_stateOf_56 (k17 : PH → Nat → Option Nat → Int32 → Int32 → Option (PH × Int32)) (h : PH) (x0 : Nat) (x2 : Option Nat) (x3 : Int32) (x4 : Int32) (x5 : Option Nat) (s0 : Int32) : Option (PH × Int32) :=
  if s0 = 0 then (fX5_stateOf_81 k17 h x0 x2 x3 x4 1) else (oC (decide (hT h x0 = 6)) (oN (hR h 641 x0) (fun a6 => oC (decide (hT h a6 = 7)) (oB (fX6_literalOf h a6 x5) (fun r9 => oN (hR h 646 x0) (fun a10 => oC (decide (hT h a10 = 100)) (oC (ix r9 (hN h a10)) (fX5_stateOf_81 k17 h x0 x2 x3 x4 (hA h a10 (Int32.toNatClampNeg r9))))))))))
set_option maxHeartbeats 4000000 in
theorem wfX5_stateOf_56 {args : Array Value} (b : Bd p s m c cX5_stateOf 8 RX5 D aC) (hlk : meth.locks = false) (hr : meth.sig.returnType = some .int) {Z : State → Prop} (zs : Z s) (zk : ZOK Z (Rg ad)) {hz : PH} {rz : Int32} {k17 : PH → Nat → Option Nat → Int32 → Int32 → Option (PH × Int32)} (H17 : ∀ (h : PH) (x0 : Nat) (x2 : Option Nat) (x3 : Int32) (x4 : Int32), ∀ (H : Heap) (locs : List Loc) (ls : Array Slot), k17 h x0 x2 x3 x4 = some (hz, rz) → CE (EX D aC ad h) (Rg ad) s H locs → lv_has ls 8 [(0, .ref (ad x0)), (2, va_rf (Option.map ad x2)), (3, .int x3), (4, .int x4)] → W p l e (RM 3 71 0 0) s m args below meth c H locs 0 0 (MQ below (PQ (EX D aC ad hz) (Rg ad) (some (.int rz))) args s 0 0 (Rg ad)) (F0 m 17 ls [])) {h : PH} {x0 : Nat} {x2 : Option Nat} {x3 : Int32} {x4 : Int32} {x5 : Option Nat} {s0 : Int32}  {H : Heap} {locs : List Loc} {ls : Array Slot} (hf : fX5_stateOf_56 k17 h x0 x2 x3 x4 x5 s0 = some (hz, rz)) (hE : CE (EX D aC ad h) (Rg ad) s H locs) (hl : lv_has ls 8 [(0, .ref (ad x0)), (2, va_rf (Option.map ad x2)), (3, .int x3), (4, .int x4), (5, va_rf (Option.map ad x5))]) : W p l e (RM 3 71 0 0) s m args below meth c H locs 0 0 (MQ below (PQ (EX D aC ad hz) (Rg ad) (some (.int rz))) args s 0 0 (Rg ad)) (F0 m 56 ls [.int s0]) := by
  unfold fX5_stateOf_56 at hf
  refine lv_istore (lv' := [(6, .int s0), (0, .ref (ad x0)), (2, va_rf (Option.map ad x2)), (3, .int x3), (4, .int x4), (5, va_rf (Option.map ad x5))]) b.1 b.2.1 dX5_stateOf_56 hl (by decide) (by cases x5 <;> rfl) (fun ls hl => ?_)
  refine lv_iload b.1 b.2.1 dX5_stateOf_58 (lv_at hl 0 rfl) ?_
  refine lv_if_eq (tgt := 80) b.1 b.2.1 dX5_stateOf_60 (by decide) (fun c4 => ?_) (fun c4 => ?_)
  · have hf := oI_t c4 hf
    refine lv_iconst (v := 1) b.1 b.2.1 dX5_stateOf_80 (by decide) ?_
    exact wfX5_stateOf_81 b hlk hr zs zk H17 hf hE (lv_sub hl [1, 2, 3, 4] rfl)
  · have hf := oI_f c4 hf
    refine lv_aload_n b.1 b.2.1 dX5_stateOf_63 rfl (lv_at hl 1 rfl) ?_
    obtain ⟨t5, hf⟩ := oC_s hf
    have t5 := of_decide_eq_true t5
    refine gX5_15 (x := (some x0)) b hE rfl t5 dX5_stateOf_64 ?_
    refine lv_aload_n b.1 b.2.1 dX5_stateOf_67 rfl (lv_at hl 1 rfl) ?_
    refine gX5_59 (x := (some x0)) b hE rfl t5 dX5_stateOf_68 ?_
    refine k_aload (x := Option.map ad x5) b dX5_stateOf_71 (lv_at hl 5 rfl) ?_
    obtain ⟨a6, ea6, hf⟩ := oN_s hf
    obtain ⟨t7, hf⟩ := oC_s hf
    have t7 := of_decide_eq_true t7
    obtain ⟨r9, hc8, hf⟩ := oB_s hf
    refine k_stk [va_rf (Option.map ad x5)] ea6 ?_
    refine k_callV0 (C := RX6) b zs zk hE (CX6_literalOf l D aC ad zk hc8) mc_X6_literalOf (in5 16 rfl rfl) mi_X6_literalOf ms_X6_literalOf ini_RX6 ok_X6_literalOf (x_recv b hE (ci := 6) rfl (by decide) t7) ⟨Nat.le_of_ble_eq_true rfl, Nat.le_of_ble_eq_true rfl⟩ rfl hl.1 rfl (k_room _ (by exact Nat.le_of_ble_eq_true rfl)) ⟨Nat.le_refl _, Nat.le_refl _⟩ dX5_stateOf_73 (fun H locs hE => ?_)
    obtain ⟨a10, ea10, hf⟩ := oN_s hf
    obtain ⟨t11, hf⟩ := oC_s hf
    have t11 := of_decide_eq_true t11
    obtain ⟨g12, hf⟩ := oC_s hf
    refine q_bald (x := (hR h 646 x0)) b hE ea10 t11 g12 dX5_stateOf_76 ?_
    refine lv_goto (tgt := 81) b.1 b.2.1 dX5_stateOf_77 (by decide) ?_
    exact wfX5_stateOf_81 b hlk hr zs zk H17 hf hE (lv_sub hl [1, 2, 3, 4] rfl)
def fX5_stateOf_17F (k17 : PH → Nat → Option Nat → Int32 → Int32 → Option (PH × Int32)) (h : PH) (x0 : Nat) (x2 : Option Nat) (x3 : Int32) (x4 : Int32) : Option (PH × Int32) :=
  oN x2 (fun a13 => oC (decide (hT h a13 = 9)) (if (hI h 1027 a13) ≤ x4 then (some (h, x3)) else (oN (hR h 1028 a13) (fun a16 => oC (decide (hT h a16 = 105)) (oC (ix x4 (hN h a16)) (oL (hC h a16 (Int32.toNatClampNeg x4)) (fun y19 => if y19 = none then (fX5_stateOf_56 k17 h x0 x2 x3 x4 y19 0) else (oN y19 (fun a21 => oC (decide (hT h a21 = 3)) (if (hI h 256 a21) = 260 then (fX5_stateOf_56 k17 h x0 x2 x3 x4 y19 1) else (fX5_stateOf_56 k17 h x0 x2 x3 x4 y19 0)))))))))))
set_option maxHeartbeats 4000000 in
theorem wfX5_stateOf_17F {args : Array Value} (b : Bd p s m c cX5_stateOf 8 RX5 D aC) (hlk : meth.locks = false) (hr : meth.sig.returnType = some .int) {Z : State → Prop} (zs : Z s) (zk : ZOK Z (Rg ad)) {hz : PH} {rz : Int32} {k17 : PH → Nat → Option Nat → Int32 → Int32 → Option (PH × Int32)} (H17 : ∀ (h : PH) (x0 : Nat) (x2 : Option Nat) (x3 : Int32) (x4 : Int32), ∀ (H : Heap) (locs : List Loc) (ls : Array Slot), k17 h x0 x2 x3 x4 = some (hz, rz) → CE (EX D aC ad h) (Rg ad) s H locs → lv_has ls 8 [(0, .ref (ad x0)), (2, va_rf (Option.map ad x2)), (3, .int x3), (4, .int x4)] → W p l e (RM 3 71 0 0) s m args below meth c H locs 0 0 (MQ below (PQ (EX D aC ad hz) (Rg ad) (some (.int rz))) args s 0 0 (Rg ad)) (F0 m 17 ls [])) {h : PH} {x0 : Nat} {x2 : Option Nat} {x3 : Int32} {x4 : Int32}  {H : Heap} {locs : List Loc} {ls : Array Slot} (hf : fX5_stateOf_17F k17 h x0 x2 x3 x4 = some (hz, rz)) (hE : CE (EX D aC ad h) (Rg ad) s H locs) (hl : lv_has ls 8 [(0, .ref (ad x0)), (2, va_rf (Option.map ad x2)), (3, .int x3), (4, .int x4)]) : W p l e (RM 3 71 0 0) s m args below meth c H locs 0 0 (MQ below (PQ (EX D aC ad hz) (Rg ad) (some (.int rz))) args s 0 0 (Rg ad)) (F0 m 17 ls []) := by
  unfold fX5_stateOf_17F at hf
  refine lv_iload b.1 b.2.1 dX5_stateOf_17 (lv_at hl 3 rfl) ?_
  refine k_aload_n (x := Option.map ad x2) b dX5_stateOf_19 rfl (lv_at hl 1 rfl) ?_
  obtain ⟨a13, ea13, hf⟩ := oN_s hf
  obtain ⟨t14, hf⟩ := oC_s hf
  have t14 := of_decide_eq_true t14
  refine gX5_248 (x := x2) b hE ea13 t14 dX5_stateOf_20 ?_
  refine lv_icmp_ge (tgt := 108) b.1 b.2.1 dX5_stateOf_23 (by decide) (fun c15 => ?_) (fun c15 => ?_)
  · have hf := oI_t c15 hf
    refine lv_iload_n b.1 b.2.1 dX5_stateOf_108 rfl (lv_at hl 2 rfl) ?_
    cases hf
    exact k_iret b hlk hr hE (Nat.le_refl _) (Nat.le_refl _) dX5_stateOf_109
  · have hf := oI_f c15 hf
    refine k_aload_n (x := Option.map ad x2) b dX5_stateOf_26 rfl (lv_at hl 1 rfl) ?_
    refine gX5_249 (x := x2) b hE ea13 t14 dX5_stateOf_27 ?_
    refine lv_iload b.1 b.2.1 dX5_stateOf_30 (lv_at hl 3 rfl) ?_
    obtain ⟨a16, ea16, hf⟩ := oN_s hf
    obtain ⟨t17, hf⟩ := oC_s hf
    have t17 := of_decide_eq_true t17
    obtain ⟨g18, hf⟩ := oC_s hf
    refine q_aald5 (x := (hR h 1028 a13)) b hE ea16 t17 g18 dX5_stateOf_32 ?_
    obtain ⟨y19, ey19, hf⟩ := oL_s hf
    refine k_nmO ey19 ?_
    refine k_astore (x := Option.map ad y19) (lv' := [(5, va_rf (Option.map ad y19)), (0, .ref (ad x0)), (2, va_rf (Option.map ad x2)), (3, .int x3), (4, .int x4)]) b dX5_stateOf_33 hl (by decide) rfl (fun ls hl => ?_)
    refine k_aload (x := Option.map ad y19) b dX5_stateOf_35 (lv_at hl 0 rfl) ?_
    refine k_ifnull (x := Option.map ad y19) b dX5_stateOf_37 (tgt := 55) (by decide) (fun c20 => ?_) (fun c20 => ?_)
    · have hf := oI_t (Option.map_eq_none_iff.mp c20) hf
      refine lv_iconst (v := 0) b.1 b.2.1 dX5_stateOf_55 (by decide) ?_
      exact wfX5_stateOf_56 b hlk hr zs zk H17 hf hE (lv_sub hl [1, 2, 3, 4, 0] rfl)
    · have hf := oI_f (fun z => c20 (Option.map_eq_none_iff.mpr z)) hf
      refine k_aload (x := Option.map ad y19) b dX5_stateOf_40 (lv_at hl 0 rfl) ?_
      obtain ⟨a21, ea21, hf⟩ := oN_s hf
      obtain ⟨t22, hf⟩ := oC_s hf
      have t22 := of_decide_eq_true t22
      refine gX5_253 (x := y19) b hE ea21 t22 dX5_stateOf_42 ?_
      refine lv_sipush (v := 260) b.1 b.2.1 dX5_stateOf_45 (by decide) ?_
      refine lv_icmp_ne (tgt := 55) b.1 b.2.1 dX5_stateOf_48 (by decide) (fun c23 => ?_) (fun c23 => ?_)
      · have hf := oI_f c23 hf
        refine lv_iconst (v := 0) b.1 b.2.1 dX5_stateOf_55 (by decide) ?_
        exact wfX5_stateOf_56 b hlk hr zs zk H17 hf hE (lv_sub hl [1, 2, 3, 4, 0] rfl)
      · have hf := oI_t c23 hf
        refine lv_iconst (v := 1) b.1 b.2.1 dX5_stateOf_51 (by decide) ?_
        refine lv_goto (tgt := 56) b.1 b.2.1 dX5_stateOf_52 (by decide) ?_
        exact wfX5_stateOf_56 b hlk hr zs zk H17 hf hE (lv_sub hl [1, 2, 3, 4, 0] rfl)
def fX5_stateOf_17  : Nat → PH → Nat → Option Nat → Int32 → Int32 → Option (PH × Int32)
  | 0 => fun _ _ _ _ _ => none
  | n + 1 => fX5_stateOf_17F  (fX5_stateOf_17  n)
set_option maxHeartbeats 4000000 in
theorem wfX5_stateOf_17 {args : Array Value} (b : Bd p s m c cX5_stateOf 8 RX5 D aC) (hlk : meth.locks = false) (hr : meth.sig.returnType = some .int) {Z : State → Prop} (zs : Z s) (zk : ZOK Z (Rg ad)) {hz : PH} {rz : Int32} : ∀ n : Nat, ∀ (h : PH) (x0 : Nat) (x2 : Option Nat) (x3 : Int32) (x4 : Int32), ∀ (H : Heap) (locs : List Loc) (ls : Array Slot), fX5_stateOf_17  n h x0 x2 x3 x4 = some (hz, rz) → CE (EX D aC ad h) (Rg ad) s H locs → lv_has ls 8 [(0, .ref (ad x0)), (2, va_rf (Option.map ad x2)), (3, .int x3), (4, .int x4)] → W p l e (RM 3 71 0 0) s m args below meth c H locs 0 0 (MQ below (PQ (EX D aC ad hz) (Rg ad) (some (.int rz))) args s 0 0 (Rg ad)) (F0 m 17 ls []) := by
  intro n
  induction n with
  | zero =>
    intro h x0 x2 x3 x4 H locs ls hf
    have hf : (none : Option (PH × Int32)) = some _ := hf
    cases hf
  | succ n ih =>
    intro h x0 x2 x3 x4 H locs ls hf hE hl
    exact wfX5_stateOf_17F b hlk hr zs zk  ih hf hE hl
def fX5_stateOf_0  (h : PH) (x0 : Nat) (x1 : Int32) : Option (PH × Int32) :=
  oC (decide (hT h x0 = 6)) (oB2 (fX5_bound h x0 x1) (fun h27 r26 => if r26 = none then (some (h27, 2)) else (fX5_stateOf_17  FU h27 x0 r26 1 0)))
set_option maxHeartbeats 4000000 in
theorem wfX5_stateOf_0 {args : Array Value} (b : Bd p s m c cX5_stateOf 8 RX5 D aC) (hlk : meth.locks = false) (hr : meth.sig.returnType = some .int) {Z : State → Prop} (zs : Z s) (zk : ZOK Z (Rg ad)) {hz : PH} {rz : Int32} {h : PH} {x0 : Nat} {x1 : Int32}  {H : Heap} {locs : List Loc} {ls : Array Slot} (hf : fX5_stateOf_0 h x0 x1 = some (hz, rz)) (hE : CE (EX D aC ad h) (Rg ad) s H locs) (hl : lv_has ls 8 [(0, .ref (ad x0)), (1, .int x1)]) : W p l e (RM 3 71 0 0) s m args below meth c H locs 0 0 (MQ below (PQ (EX D aC ad hz) (Rg ad) (some (.int rz))) args s 0 0 (Rg ad)) (F0 m 0 ls []) := by
  unfold fX5_stateOf_0 at hf
  refine lv_aload_n b.1 b.2.1 dX5_stateOf_0 rfl (lv_at hl 0 rfl) ?_
  refine lv_iload_n b.1 b.2.1 dX5_stateOf_1 rfl (lv_at hl 1 rfl) ?_
  obtain ⟨t24, hf⟩ := oC_s hf
  have t24 := of_decide_eq_true t24
  obtain ⟨h27, r26, hc25, hf⟩ := oB2_s hf
  refine k_callV0 (C := RX5) b zs zk hE (CX5_bound l D aC ad zk hc25) mc_X5_bound (in5 35 rfl rfl) mi_X5_bound ms_X5_bound ini_RX5 ok_X5_bound (x_recv b hE (ci := 5) rfl (by decide) t24) ⟨Nat.le_of_ble_eq_true rfl, Nat.le_of_ble_eq_true rfl⟩ rfl hl.1 rfl (k_room _ (by exact Nat.le_of_ble_eq_true rfl)) ⟨Nat.le_refl _, Nat.le_refl _⟩ dX5_stateOf_2 (fun H locs hE => ?_)
  refine k_astore_n (x := Option.map ad r26) (lv' := [(2, va_rf (Option.map ad r26)), (0, .ref (ad x0)), (1, .int x1)]) b dX5_stateOf_5 rfl hl (by decide) rfl (fun ls hl => ?_)
  have hl := lv_sub (l' := [(2, va_rf (Option.map ad r26)), (0, .ref (ad x0))]) hl [0, 1] rfl
  refine k_aload_n (x := Option.map ad r26) b dX5_stateOf_6 rfl (lv_at hl 0 rfl) ?_
  refine k_ifnonnull (x := Option.map ad r26) b dX5_stateOf_7 (tgt := 12) (by decide) (fun c28 => ?_) (fun c28 => ?_)
  · have hf := oI_f (fun z => c28 (Option.map_eq_none_iff.mpr z)) hf
    refine lv_iconst (v := 1) b.1 b.2.1 dX5_stateOf_12 (by decide) ?_
    refine lv_istore_n (lv' := [(3, .int 1), (2, va_rf (Option.map ad r26)), (0, .ref (ad x0))]) b.1 b.2.1 dX5_stateOf_13 rfl hl (by decide) (by cases r26 <;> rfl) (fun ls hl => ?_)
    refine lv_iconst (v := 0) b.1 b.2.1 dX5_stateOf_14 (by decide) ?_
    refine lv_istore (lv' := [(4, .int 0), (3, .int 1), (2, va_rf (Option.map ad r26)), (0, .ref (ad x0))]) b.1 b.2.1 dX5_stateOf_15 hl (by decide) rfl (fun ls hl => ?_)
    exact wfX5_stateOf_17 b hlk hr zs zk  FU h27 x0 r26 1 0 _ _ _ hf hE (lv_sub hl [3, 2, 1, 0] rfl)
  · have hf := oI_t (Option.map_eq_none_iff.mp c28) hf
    refine lv_iconst (v := 2) b.1 b.2.1 dX5_stateOf_10 (by decide) ?_
    cases hf
    exact k_iret b hlk hr hE (Nat.le_refl _) (Nat.le_refl _) dX5_stateOf_11
def fX5_stateOf (h : PH) (x0 : Nat) (x1 : Int32) : Option (PH × Int32) := fX5_stateOf_0 h x0 x1
set_option maxHeartbeats 4000000 in
theorem CX5_stateOf (l : Launch) (D : va_G) (aC : Nat → ClassId) (ad : Nat → Nat) {Z : State → Prop} (zk : ZOK Z (Rg ad)) {h : PH} {x0 : Nat} {x1 : Int32} {hz : PH} {rz : Int32} (hf : fX5_stateOf h x0 x1 = some (hz, rz)) : CM l D aC Z yX5_stateOf cX5_stateOf 8 (some .int) 3 71 0 0 (EX D aC ad h) [.ref (ad x0), .int x1] (EX D aC ad hz) (some (.int rz)) (Rg ad) := by
  refine CM.of rfl ?_
  intro p e s m below meth c b hr hlk hin2 zs hE
  refine k_ent (Nat.le_of_ble_eq_true rfl) (fun ls hl => ?_)
  exact wfX5_stateOf_0 b hlk hr zs zk hf hE (lv_sub hl [0, 1] rfl)
end
