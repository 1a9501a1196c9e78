section
variable {p : Program} {l : Launch} {e : Env} {s : State} {m : MethodId} {below : List Frame} {meth : Method} {c : Code} {D : va_G} {aC : Nat → ClassId} {ad : Nat → Nat}
theorem dX11_number_0 : decode cX11_number 0 = .ok (.iload_n 1, 1) := by decide +kernel
theorem dX11_number_1 : decode cX11_number 1 = .ok (.ifCond .lt 30, 3) := by decide +kernel
theorem dX11_number_4 : decode cX11_number 4 = .ok (.iload_n 1, 1) := by decide +kernel
theorem dX11_number_5 : decode cX11_number 5 = .ok (.aload_n 0, 1) := by decide +kernel
theorem dX11_number_6 : decode cX11_number 6 = .ok (.getfield 22, 3) := by decide +kernel
theorem dX11_number_9 : decode cX11_number 9 = .ok (.getfield 89, 3) := by decide +kernel
theorem dX11_number_12 : decode cX11_number 12 = .ok (.getfield 84, 3) := by decide +kernel
theorem dX11_number_15 : decode cX11_number 15 = .ok (.if_icmp .ge 16, 3) := by decide +kernel
theorem dX11_number_18 : decode cX11_number 18 = .ok (.iload_n 2, 1) := by decide +kernel
theorem dX11_number_19 : decode cX11_number 19 = .ok (.ifCond .lt 12, 3) := by decide +kernel
theorem dX11_number_22 : decode cX11_number 22 = .ok (.iload_n 2, 1) := by decide +kernel
theorem dX11_number_23 : decode cX11_number 23 = .ok (.iconst 4, 1) := by decide +kernel
theorem dX11_number_24 : decode cX11_number 24 = .ok (.if_icmp .ge 7, 3) := by decide +kernel
theorem dX11_number_27 : decode cX11_number 27 = .ok (.iconst 1, 1) := by decide +kernel
theorem dX11_number_28 : decode cX11_number 28 = .ok (.goto 4, 3) := by decide +kernel
theorem dX11_number_31 : decode cX11_number 31 = .ok (.iconst 0, 1) := by decide +kernel
theorem dX11_number_32 : decode cX11_number 32 = .ok (.istore 4, 2) := by decide +kernel
theorem dX11_number_34 : decode cX11_number 34 = .ok (.iload 4, 2) := by decide +kernel
theorem dX11_number_36 : decode cX11_number 36 = .ok (.ifCond .eq 15, 3) := by decide +kernel
theorem dX11_number_39 : decode cX11_number 39 = .ok (.iload_n 3, 1) := by decide +kernel
theorem dX11_number_40 : decode cX11_number 40 = .ok (.ldc 103, 2) := by decide +kernel
theorem dX11_number_42 : decode cX11_number 42 = .ok (.if_icmp .lt 9, 3) := by decide +kernel
theorem dX11_number_45 : decode cX11_number 45 = .ok (.iload_n 3, 1) := by decide +kernel
theorem dX11_number_46 : decode cX11_number 46 = .ok (.ldc 79, 2) := by decide +kernel
theorem dX11_number_48 : decode cX11_number 48 = .ok (.if_icmp .le 5, 3) := by decide +kernel
theorem dX11_number_51 : decode cX11_number 51 = .ok (.iconst 0, 1) := by decide +kernel
theorem dX11_number_52 : decode cX11_number 52 = .ok (.ireturn, 1) := by decide +kernel
theorem dX11_number_53 : decode cX11_number 53 = .ok (.aload_n 0, 1) := by decide +kernel
theorem dX11_number_54 : decode cX11_number 54 = .ok (.getfield 22, 3) := by decide +kernel
theorem dX11_number_57 : decode cX11_number 57 = .ok (.getfield 104, 3) := by decide +kernel
theorem dX11_number_60 : decode cX11_number 60 = .ok (.iload_n 1, 1) := by decide +kernel
theorem dX11_number_61 : decode cX11_number 61 = .ok (.iconst 4, 1) := by decide +kernel
theorem dX11_number_62 : decode cX11_number 62 = .ok (.imul, 1) := by decide +kernel
theorem dX11_number_63 : decode cX11_number 63 = .ok (.iload_n 2, 1) := by decide +kernel
theorem dX11_number_64 : decode cX11_number 64 = .ok (.iadd, 1) := by decide +kernel
theorem dX11_number_65 : decode cX11_number 65 = .ok (.iload_n 3, 1) := by decide +kernel
theorem dX11_number_66 : decode cX11_number 66 = .ok (.iastore, 1) := by decide +kernel
theorem dX11_number_67 : decode cX11_number 67 = .ok (.iconst 1, 1) := by decide +kernel
theorem dX11_number_68 : decode cX11_number 68 = .ok (.ireturn, 1) := by decide +kernel
def fX11_number_32  (h : PH) (x0 : Nat) (x1 : Int32) (x2 : Int32) (x3 : Int32) (s0 : Int32) : Option (PH × Int32) :=
  if s0 = 0 then (some (h, 0)) else (if x3 < (-999999) then (some (h, 0)) else (if x3 ≤ 999999 then (oC (decide (hT h x0 = 12)) (oN (hR h 1410 x0) (fun a5 => oC (decide (hT h a5 = 2)) (oN (hR h 134 a5) (fun a7 => oC (decide (hT h a7 = 101)) (oC (ix ((x1 * 4) + x2) (hN h a7)) (oL (sA h a7 (Int32.toNatClampNeg ((x1 * 4) + x2)) x3) (fun h10 => some (h10, 1))))))))) else (some (h, 0))))
set_option maxHeartbeats 4000000 in
theorem wfX11_number_32 {args : Array Value} (b : Bd p s m c cX11_number 5 RX11 D aC) (hlk : meth.locks = false) (hr : meth.sig.returnType = some .boolean) {Z : State → Prop} (zs : Z s) (zk : ZOK Z (Rg ad)) {hz : PH} {rz : Int32} {h : PH} {x0 : Nat} {x1 : Int32} {x2 : Int32} {x3 : Int32} {s0 : Int32}  {H : Heap} {locs : List Loc} {ls : Array Slot} (hf : fX11_number_32 h x0 x1 x2 x3 s0 = some (hz, rz)) (hE : CE (EX D aC ad h) (Rg ad) s H locs) (hl : lv_has ls 5 [(0, .ref (ad x0)), (1, .int x1), (2, .int x2), (3, .int x3)]) : W p l e (RM 0 0 0 0) s m args below meth c H locs 0 0 (MQ below (PQ (EX D aC ad hz) (Rg ad) (some (.int rz))) args s 0 0 (Rg ad)) (F0 m 32 ls [.int s0]) := by
  unfold fX11_number_32 at hf
  refine lv_istore (lv' := [(4, .int s0), (0, .ref (ad x0)), (1, .int x1), (2, .int x2), (3, .int x3)]) b.1 b.2.1 dX11_number_32 hl (by decide) rfl (fun ls hl => ?_)
  refine lv_iload b.1 b.2.1 dX11_number_34 (lv_at hl 0 rfl) ?_
  refine lv_if_eq (tgt := 51) b.1 b.2.1 dX11_number_36 (by decide) (fun c1 => ?_) (fun c1 => ?_)
  · have hf := oI_t c1 hf
    refine lv_iconst (v := 0) b.1 b.2.1 dX11_number_51 (by decide) ?_
    cases hf
    exact k_zret b hlk hr (by decide) hE (Nat.le_refl _) (Nat.le_refl _) dX11_number_52
  · have hf := oI_f c1 hf
    refine lv_iload_n b.1 b.2.1 dX11_number_39 rfl (lv_at hl 4 rfl) ?_
    refine k_ldc (v := (-999999)) b (in4 3 rfl rfl) dX11_number_40 ?_
    refine lv_icmp_lt (tgt := 51) b.1 b.2.1 dX11_number_42 (by decide) (fun c2 => ?_) (fun c2 => ?_)
    · have hf := oI_t c2 hf
      refine lv_iconst (v := 0) b.1 b.2.1 dX11_number_51 (by decide) ?_
      cases hf
      exact k_zret b hlk hr (by decide) hE (Nat.le_refl _) (Nat.le_refl _) dX11_number_52
    · have hf := oI_f c2 hf
      refine lv_iload_n b.1 b.2.1 dX11_number_45 rfl (lv_at hl 4 rfl) ?_
      refine k_ldc (v := 999999) b (in3 203 rfl rfl) dX11_number_46 ?_
      refine lv_icmp_le (tgt := 53) b.1 b.2.1 dX11_number_48 (by decide) (fun c3 => ?_) (fun c3 => ?_)
      · have hf := oI_t c3 hf
        refine lv_aload_n b.1 b.2.1 dX11_number_53 rfl (lv_at hl 1 rfl) ?_
        obtain ⟨t4, hf⟩ := oC_s hf
        have t4 := of_decide_eq_true t4
        refine gX11_22 (x := (some x0)) b hE rfl t4 dX11_number_54 ?_
        obtain ⟨a5, ea5, hf⟩ := oN_s hf
        obtain ⟨t6, hf⟩ := oC_s hf
        have t6 := of_decide_eq_true t6
        refine gX11_104 (x := (hR h 1410 x0)) b hE ea5 t6 dX11_number_57 ?_
        refine lv_iload_n b.1 b.2.1 dX11_number_60 rfl (lv_at hl 2 rfl) ?_
        refine lv_iconst (v := 4) b.1 b.2.1 dX11_number_61 (by decide) ?_
        refine lv_imul b.1 b.2.1 dX11_number_62 ?_
        refine lv_iload_n b.1 b.2.1 dX11_number_63 rfl (lv_at hl 3 rfl) ?_
        refine lv_iadd b.1 b.2.1 dX11_number_64 ?_
        refine lv_iload_n b.1 b.2.1 dX11_number_65 rfl (lv_at hl 4 rfl) ?_
        obtain ⟨a7, ea7, hf⟩ := oN_s hf
        obtain ⟨t8, hf⟩ := oC_s hf
        have t8 := of_decide_eq_true t8
        obtain ⟨g9, hf⟩ := oC_s hf
        obtain ⟨h10, eh10, hf⟩ := oL_s hf
        refine q_iast (x := (hR h 134 a5)) b hE ea7 t8 g9 eh10 dX11_number_66 (fun H locs hE => ?_)
        refine lv_iconst (v := 1) b.1 b.2.1 dX11_number_67 (by decide) ?_
        cases hf
        exact k_zret b hlk hr (by decide) hE (Nat.le_refl _) (Nat.le_refl _) dX11_number_68
      · have hf := oI_f c3 hf
        refine lv_iconst (v := 0) b.1 b.2.1 dX11_number_51 (by decide) ?_
        cases hf
        exact k_zret b hlk hr (by decide) hE (Nat.le_refl _) (Nat.le_refl _) dX11_number_52
def fX11_number_0  (h : PH) (x0 : Nat) (x1 : Int32) (x2 : Int32) (x3 : Int32) : Option (PH × Int32) :=
  if x1 < 0 then (fX11_number_32  h x0 x1 x2 x3 0) else (oC (decide (hT h x0 = 12)) (oN (hR h 1410 x0) (fun a13 => oC (decide (hT h a13 = 2)) (oN (hR h 128 a13) (fun a15 => oC (decide (hT h a15 = 8)) (if (hI h 897 a15) ≤ x1 then (fX11_number_32  h x0 x1 x2 x3 0) else (if x2 < 0 then (fX11_number_32  h x0 x1 x2 x3 0) else (if 4 ≤ x2 then (fX11_number_32  h x0 x1 x2 x3 0) else (fX11_number_32  h x0 x1 x2 x3 1)))))))))
set_option maxHeartbeats 4000000 in
theorem wfX11_number_0 {args : Array Value} (b : Bd p s m c cX11_number 5 RX11 D aC) (hlk : meth.locks = false) (hr : meth.sig.returnType = some .boolean) {Z : State → Prop} (zs : Z s) (zk : ZOK Z (Rg ad)) {hz : PH} {rz : Int32} {h : PH} {x0 : Nat} {x1 : Int32} {x2 : Int32} {x3 : Int32}  {H : Heap} {locs : List Loc} {ls : Array Slot} (hf : fX11_number_0 h x0 x1 x2 x3 = some (hz, rz)) (hE : CE (EX D aC ad h) (Rg ad) s H locs) (hl : lv_has ls 5 [(0, .ref (ad x0)), (1, .int x1), (2, .int x2), (3, .int x3)]) : W p l e (RM 0 0 0 0) s m args below meth c H locs 0 0 (MQ below (PQ (EX D aC ad hz) (Rg ad) (some (.int rz))) args s 0 0 (Rg ad)) (F0 m 0 ls []) := by
  unfold fX11_number_0 at hf
  refine lv_iload_n b.1 b.2.1 dX11_number_0 rfl (lv_at hl 1 rfl) ?_
  refine lv_if_lt (tgt := 31) b.1 b.2.1 dX11_number_1 (by decide) (fun c11 => ?_) (fun c11 => ?_)
  · have hf := oI_t c11 hf
    refine lv_iconst (v := 0) b.1 b.2.1 dX11_number_31 (by decide) ?_
    exact wfX11_number_32 b hlk hr zs zk  hf hE (lv_sub hl [0, 1, 2, 3] rfl)
  · have hf := oI_f c11 hf
    refine lv_iload_n b.1 b.2.1 dX11_number_4 rfl (lv_at hl 1 rfl) ?_
    refine lv_aload_n b.1 b.2.1 dX11_number_5 rfl (lv_at hl 0 rfl) ?_
    obtain ⟨t12, hf⟩ := oC_s hf
    have t12 := of_decide_eq_true t12
    refine gX11_22 (x := (some x0)) b hE rfl t12 dX11_number_6 ?_
    obtain ⟨a13, ea13, hf⟩ := oN_s hf
    obtain ⟨t14, hf⟩ := oC_s hf
    have t14 := of_decide_eq_true t14
    refine gX11_89 (x := (hR h 1410 x0)) b hE ea13 t14 dX11_number_9 ?_
    obtain ⟨a15, ea15, hf⟩ := oN_s hf
    obtain ⟨t16, hf⟩ := oC_s hf
    have t16 := of_decide_eq_true t16
    refine gX11_84 (x := (hR h 128 a13)) b hE ea15 t16 dX11_number_12 ?_
    refine lv_icmp_ge (tgt := 31) b.1 b.2.1 dX11_number_15 (by decide) (fun c17 => ?_) (fun c17 => ?_)
    · have hf := oI_t c17 hf
      refine lv_iconst (v := 0) b.1 b.2.1 dX11_number_31 (by decide) ?_
      exact wfX11_number_32 b hlk hr zs zk  hf hE (lv_sub hl [0, 1, 2, 3] rfl)
    · have hf := oI_f c17 hf
      refine lv_iload_n b.1 b.2.1 dX11_number_18 rfl (lv_at hl 2 rfl) ?_
      refine lv_if_lt (tgt := 31) b.1 b.2.1 dX11_number_19 (by decide) (fun c18 => ?_) (fun c18 => ?_)
      · have hf := oI_t c18 hf
        refine lv_iconst (v := 0) b.1 b.2.1 dX11_number_31 (by decide) ?_
        exact wfX11_number_32 b hlk hr zs zk  hf hE (lv_sub hl [0, 1, 2, 3] rfl)
      · have hf := oI_f c18 hf
        refine lv_iload_n b.1 b.2.1 dX11_number_22 rfl (lv_at hl 2 rfl) ?_
        refine lv_iconst (v := 4) b.1 b.2.1 dX11_number_23 (by decide) ?_
        refine lv_icmp_ge (tgt := 31) b.1 b.2.1 dX11_number_24 (by decide) (fun c19 => ?_) (fun c19 => ?_)
        · have hf := oI_t c19 hf
          refine lv_iconst (v := 0) b.1 b.2.1 dX11_number_31 (by decide) ?_
          exact wfX11_number_32 b hlk hr zs zk  hf hE (lv_sub hl [0, 1, 2, 3] rfl)
        · have hf := oI_f c19 hf
          refine lv_iconst (v := 1) b.1 b.2.1 dX11_number_27 (by decide) ?_
          refine lv_goto (tgt := 32) b.1 b.2.1 dX11_number_28 (by decide) ?_
          exact wfX11_number_32 b hlk hr zs zk  hf hE (lv_sub hl [0, 1, 2, 3] rfl)
def fX11_number (h : PH) (x0 : Nat) (x1 : Int32) (x2 : Int32) (x3 : Int32) : Option (PH × Int32) := fX11_number_0 h x0 x1 x2 x3
set_option maxHeartbeats 4000000 in
theorem CX11_number (l : Launch) (D : va_G) (aC : Nat → ClassId) (ad : Nat → Nat) {Z : State → Prop} (zk : ZOK Z (Rg ad)) {h : PH} {x0 : Nat} {x1 : Int32} {x2 : Int32} {x3 : Int32} {hz : PH} {rz : Int32} (hf : fX11_number h x0 x1 x2 x3 = some (hz, rz)) : CM l D aC Z yX11_number cX11_number 5 (some .boolean) 0 0 0 0 (EX D aC ad h) [.ref (ad x0), .int x1, .int x2, .int x3] (EX D aC ad hz) (some (.int rz)) (Rg ad) := by
  refine CM.of rfl ?_
  intro p e s m below meth c b hr hlk hin2 zs hE
  refine k_ent (Nat.le_of_ble_eq_true rfl) (fun ls hl => ?_)
  exact wfX11_number_0 b hlk hr zs zk hf hE (lv_sub hl [0, 1, 2, 3] rfl)
theorem dX11_status_0 : decode cX11_status 0 = .ok (.aload_n 0, 1) := by decide +kernel
theorem dX11_status_1 : decode cX11_status 1 = .ok (.getfield 112, 3) := by decide +kernel
theorem dX11_status_4 : decode cX11_status 4 = .ok (.ifnonnull 5, 3) := by decide +kernel
theorem dX11_status_7 : decode cX11_status 7 = .ok (.iconst (-1), 1) := by decide +kernel
theorem dX11_status_8 : decode cX11_status 8 = .ok (.ireturn, 1) := by decide +kernel
theorem dX11_status_9 : decode cX11_status 9 = .ok (.aload_n 0, 1) := by decide +kernel
theorem dX11_status_10 : decode cX11_status 10 = .ok (.getfield 112, 3) := by decide +kernel
theorem dX11_status_13 : decode cX11_status 13 = .ok (.iload_n 1, 1) := by decide +kernel
theorem dX11_status_14 : decode cX11_status 14 = .ok (.iload_n 2, 1) := by decide +kernel
theorem dX11_status_15 : decode cX11_status 15 = .ok (.iload_n 3, 1) := by decide +kernel
theorem dX11_status_16 : decode cX11_status 16 = .ok (.iload 4, 2) := by decide +kernel
theorem dX11_status_18 : decode cX11_status 18 = .ok (.invokevirtual 150, 3) := by decide +kernel
theorem dX11_status_21 : decode cX11_status 21 = .ok (.istore 5, 2) := by decide +kernel
theorem dX11_status_23 : decode cX11_status 23 = .ok (.iload 5, 2) := by decide +kernel
theorem dX11_status_25 : decode cX11_status 25 = .ok (.iconst (-1), 1) := by decide +kernel
theorem dX11_status_26 : decode cX11_status 26 = .ok (.if_icmp .ne 7, 3) := by decide +kernel
theorem dX11_status_29 : decode cX11_status 29 = .ok (.iconst (-1), 1) := by decide +kernel
theorem dX11_status_30 : decode cX11_status 30 = .ok (.goto 13, 3) := by decide +kernel
theorem dX11_status_33 : decode cX11_status 33 = .ok (.aload_n 0, 1) := by decide +kernel
theorem dX11_status_34 : decode cX11_status 34 = .ok (.getfield 112, 3) := by decide +kernel
theorem dX11_status_37 : decode cX11_status 37 = .ok (.getfield 154, 3) := by decide +kernel
theorem dX11_status_40 : decode cX11_status 40 = .ok (.iload 5, 2) := by decide +kernel
theorem dX11_status_42 : decode cX11_status 42 = .ok (.baload, 1) := by decide +kernel
theorem dX11_status_43 : decode cX11_status 43 = .ok (.ireturn, 1) := by decide +kernel
def fX11_status_0  (h : PH) (x0 : Nat) (x1 : Int32) (x2 : Int32) (x3 : Int32) (x4 : Int32) : Option (Int32) :=
  oC (decide (hT h x0 = 12)) (if (hR h 1416 x0) = none then (some ((-1))) else (oN (hR h 1416 x0) (fun a3 => oC (decide (hT h a3 = 6)) (oB (fX5_find h a3 x1 x2 x3 x4) (fun r6 => if r6 = (-1) then (some ((-1))) else (oN (hR h 646 a3) (fun a8 => oC (decide (hT h a8 = 100)) (oC (ix r6 (hN h a8)) (some ((hA h a8 (Int32.toNatClampNeg r6))))))))))))
set_option maxHeartbeats 4000000 in
theorem wfX11_status_0 {args : Array Value} (b : Bd p s m c cX11_status 6 RX11 D aC) (hlk : meth.locks = false) (hr : meth.sig.returnType = some .int) {Z : State → Prop} (zs : Z s) (zk : ZOK Z (Rg ad)) {rz : Int32} {h : PH} {x0 : Nat} {x1 : Int32} {x2 : Int32} {x3 : Int32} {x4 : Int32}  {H : Heap} {locs : List Loc} {ls : Array Slot} (hf : fX11_status_0 h x0 x1 x2 x3 x4 = some rz) (hE : CE (EX D aC ad h) (Rg ad) s H locs) (hl : lv_has ls 6 [(0, .ref (ad x0)), (1, .int x1), (2, .int x2), (3, .int x3), (4, .int x4)]) : W p l e (RM 3 75 0 0) s m args below meth c H locs 0 0 (MQ below (PQ (EX D aC ad h) (Rg ad) (some (.int rz))) args s 0 0 (Rg ad)) (F0 m 0 ls []) := by
  unfold fX11_status_0 at hf
  refine lv_aload_n b.1 b.2.1 dX11_status_0 rfl (lv_at hl 0 rfl) ?_
  obtain ⟨t1, hf⟩ := oC_s hf
  have t1 := of_decide_eq_true t1
  refine gX11_112 (x := (some x0)) b hE rfl t1 dX11_status_1 ?_
  refine k_ifnonnull (x := Option.map ad (hR h 1416 x0)) b dX11_status_4 (tgt := 9) (by decide) (fun c2 => ?_) (fun c2 => ?_)
  · have hf := oI_f (fun z => c2 (Option.map_eq_none_iff.mpr z)) hf
    refine lv_aload_n b.1 b.2.1 dX11_status_9 rfl (lv_at hl 0 rfl) ?_
    refine gX11_112 (x := (some x0)) b hE rfl t1 dX11_status_10 ?_
    refine lv_iload_n b.1 b.2.1 dX11_status_13 rfl (lv_at hl 1 rfl) ?_
    refine lv_iload_n b.1 b.2.1 dX11_status_14 rfl (lv_at hl 2 rfl) ?_
    refine lv_iload_n b.1 b.2.1 dX11_status_15 rfl (lv_at hl 3 rfl) ?_
    refine lv_iload b.1 b.2.1 dX11_status_16 (lv_at hl 4 rfl) ?_
    obtain ⟨a3, ea3, hf⟩ := oN_s hf
    obtain ⟨t4, hf⟩ := oC_s hf
    have t4 := of_decide_eq_true t4
    obtain ⟨r6, hc5, hf⟩ := oB_s hf
    refine k_stk [.int x4, .int x3, .int x2, .int x1] ea3 ?_
    refine k_callV0 (C := RX5) b zs zk hE (CX5_find l D aC ad zk hc5) mc_X5_find (in5 93 rfl rfl) mi_X5_find ms_X5_find ini_RX5 ok_X5_find (x_recv b hE (ci := 5) rfl (by decide) t4) ⟨Nat.le_of_ble_eq_true rfl, Nat.le_of_ble_eq_true rfl⟩ rfl hl.1 rfl (k_room _ (by exact Nat.le_of_ble_eq_true rfl)) ⟨Nat.le_refl _, Nat.le_refl _⟩ dX11_status_18 (fun H locs hE => ?_)
    refine lv_istore (lv' := [(5, .int r6), (0, .ref (ad x0)), (1, .int x1), (2, .int x2), (3, .int x3), (4, .int x4)]) b.1 b.2.1 dX11_status_21 hl (by decide) rfl (fun ls hl => ?_)
    have hl := lv_sub (l' := [(5, .int r6), (0, .ref (ad x0))]) hl [0, 1] rfl
    refine lv_iload b.1 b.2.1 dX11_status_23 (lv_at hl 0 rfl) ?_
    refine lv_iconst (v := (-1)) b.1 b.2.1 dX11_status_25 (by decide) ?_
    refine lv_icmp_ne (tgt := 33) b.1 b.2.1 dX11_status_26 (by decide) (fun c7 => ?_) (fun c7 => ?_)
    · have hf := oI_f c7 hf
      refine lv_aload_n b.1 b.2.1 dX11_status_33 rfl (lv_at hl 1 rfl) ?_
      refine gX11_112 (x := (some x0)) b hE rfl t1 dX11_status_34 ?_
      refine gX11_154 (x := (hR h 1416 x0)) b hE ea3 t4 dX11_status_37 ?_
      refine lv_iload b.1 b.2.1 dX11_status_40 (lv_at hl 0 rfl) ?_
      obtain ⟨a8, ea8, hf⟩ := oN_s hf
      obtain ⟨t9, hf⟩ := oC_s hf
      have t9 := of_decide_eq_true t9
      obtain ⟨g10, hf⟩ := oC_s hf
      refine q_bald (x := (hR h 646 a3)) b hE ea8 t9 g10 dX11_status_42 ?_
      cases hf
      exact k_iret b hlk hr hE (Nat.le_refl _) (Nat.le_refl _) dX11_status_43
    · have hf := oI_t c7 hf
      refine lv_iconst (v := (-1)) b.1 b.2.1 dX11_status_29 (by decide) ?_
      refine lv_goto (tgt := 43) b.1 b.2.1 dX11_status_30 (by decide) ?_
      cases hf
      exact k_iret b hlk hr hE (Nat.le_refl _) (Nat.le_refl _) dX11_status_43
  · have hf := oI_t (Option.map_eq_none_iff.mp c2) hf
    refine lv_iconst (v := (-1)) b.1 b.2.1 dX11_status_7 (by decide) ?_
    cases hf
    exact k_iret b hlk hr hE (Nat.le_refl _) (Nat.le_refl _) dX11_status_8
def fX11_status (h : PH) (x0 : Nat) (x1 : Int32) (x2 : Int32) (x3 : Int32) (x4 : Int32) : Option (Int32) := fX11_status_0 h x0 x1 x2 x3 x4
set_option maxHeartbeats 4000000 in
theorem CX11_status (l : Launch) (D : va_G) (aC : Nat → ClassId) (ad : Nat → Nat) {Z : State → Prop} (zk : ZOK Z (Rg ad)) {h : PH} {x0 : Nat} {x1 : Int32} {x2 : Int32} {x3 : Int32} {x4 : Int32} {rz : Int32} (hf : fX11_status h x0 x1 x2 x3 x4 = some rz) : CM l D aC Z yX11_status cX11_status 6 (some .int) 3 75 0 0 (EX D aC ad h) [.ref (ad x0), .int x1, .int x2, .int x3, .int x4] (EX D aC ad h) (some (.int rz)) (Rg ad) := by
  refine CM.of rfl ?_
  intro p e s m below meth c b hr hlk hin2 zs hE
  refine k_ent (Nat.le_of_ble_eq_true rfl) (fun ls hl => ?_)
  exact wfX11_status_0 b hlk hr zs zk hf hE (lv_sub hl [0, 1, 2, 3, 4] rfl)
theorem dX11_why_0 : decode cX11_why 0 = .ok (.aload_n 0, 1) := by decide +kernel
theorem dX11_why_1 : decode cX11_why 1 = .ok (.getfield 112, 3) := by decide +kernel
theorem dX11_why_4 : decode cX11_why 4 = .ok (.ifnonnull 5, 3) := by decide +kernel
theorem dX11_why_7 : decode cX11_why 7 = .ok (.iconst (-1), 1) := by decide +kernel
theorem dX11_why_8 : decode cX11_why 8 = .ok (.ireturn, 1) := by decide +kernel
theorem dX11_why_9 : decode cX11_why 9 = .ok (.aload_n 0, 1) := by decide +kernel
theorem dX11_why_10 : decode cX11_why 10 = .ok (.getfield 112, 3) := by decide +kernel
theorem dX11_why_13 : decode cX11_why 13 = .ok (.iload_n 1, 1) := by decide +kernel
theorem dX11_why_14 : decode cX11_why 14 = .ok (.iload_n 2, 1) := by decide +kernel
theorem dX11_why_15 : decode cX11_why 15 = .ok (.iload_n 3, 1) := by decide +kernel
theorem dX11_why_16 : decode cX11_why 16 = .ok (.iload 4, 2) := by decide +kernel
theorem dX11_why_18 : decode cX11_why 18 = .ok (.invokevirtual 150, 3) := by decide +kernel
theorem dX11_why_21 : decode cX11_why 21 = .ok (.istore 6, 2) := by decide +kernel
theorem dX11_why_23 : decode cX11_why 23 = .ok (.iload 6, 2) := by decide +kernel
theorem dX11_why_25 : decode cX11_why 25 = .ok (.iconst (-1), 1) := by decide +kernel
theorem dX11_why_26 : decode cX11_why 26 = .ok (.if_icmp .ne 7, 3) := by decide +kernel
theorem dX11_why_29 : decode cX11_why 29 = .ok (.iconst (-1), 1) := by decide +kernel
theorem dX11_why_30 : decode cX11_why 30 = .ok (.goto 14, 3) := by decide +kernel
theorem dX11_why_33 : decode cX11_why 33 = .ok (.aload_n 0, 1) := by decide +kernel
theorem dX11_why_34 : decode cX11_why 34 = .ok (.getfield 112, 3) := by decide +kernel
theorem dX11_why_37 : decode cX11_why 37 = .ok (.iload 6, 2) := by decide +kernel
theorem dX11_why_39 : decode cX11_why 39 = .ok (.iload 5, 2) := by decide +kernel
theorem dX11_why_41 : decode cX11_why 41 = .ok (.invokevirtual 158, 3) := by decide +kernel
theorem dX11_why_44 : decode cX11_why 44 = .ok (.ireturn, 1) := by decide +kernel
def fX11_why_0  (h : PH) (x0 : Nat) (x1 : Int32) (x2 : Int32) (x3 : Int32) (x4 : Int32) (x5 : Int32) : Option (PH × Int32) :=
  oC (decide (hT h x0 = 12)) (if (hR h 1416 x0) = none then (some (h, (-1))) else (oN (hR h 1416 x0) (fun a3 => oC (decide (hT h a3 = 6)) (oB (fX5_find h a3 x1 x2 x3 x4) (fun r6 => if r6 = (-1) then (some (h, (-1))) else (oB2 (fX5_reason h a3 r6 x5) (fun h10 r9 => some (h10, r9))))))))
set_option maxHeartbeats 4000000 in
theorem wfX11_why_0 {args : Array Value} (b : Bd p s m c cX11_why 7 RX11 D aC) (hlk : meth.locks = false) (hr : meth.sig.returnType = some .int) {Z : State → Prop} (zs : Z s) (zk : ZOK Z (Rg ad)) {hz : PH} {rz : Int32} {h : PH} {x0 : Nat} {x1 : Int32} {x2 : Int32} {x3 : Int32} {x4 : Int32} {x5 : Int32}  {H : Heap} {locs : List Loc} {ls : Array Slot} (hf : fX11_why_0 h x0 x1 x2 x3 x4 x5 = some (hz, rz)) (hE : CE (EX D aC ad h) (Rg ad) s H locs) (hl : lv_has ls 7 [(0, .ref (ad x0)), (1, .int x1), (2, .int x2), (3, .int x3), (4, .int x4), (5, .int x5)]) : W p l e (RM 4 95 0 0) s m args below meth c H locs 0 0 (MQ below (PQ (EX D aC ad hz) (Rg ad) (some (.int rz))) args s 0 0 (Rg ad)) (F0 m 0 ls []) := by
  unfold fX11_why_0 at hf
  refine lv_aload_n b.1 b.2.1 dX11_why_0 rfl (lv_at hl 0 rfl) ?_
  obtain ⟨t1, hf⟩ := oC_s hf
  have t1 := of_decide_eq_true t1
  refine gX11_112 (x := (some x0)) b hE rfl t1 dX11_why_1 ?_
  refine k_ifnonnull (x := Option.map ad (hR h 1416 x0)) b dX11_why_4 (tgt := 9) (by decide) (fun c2 => ?_) (fun c2 => ?_)
  · have hf := oI_f (fun z => c2 (Option.map_eq_none_iff.mpr z)) hf
    refine lv_aload_n b.1 b.2.1 dX11_why_9 rfl (lv_at hl 0 rfl) ?_
    refine gX11_112 (x := (some x0)) b hE rfl t1 dX11_why_10 ?_
    refine lv_iload_n b.1 b.2.1 dX11_why_13 rfl (lv_at hl 1 rfl) ?_
    refine lv_iload_n b.1 b.2.1 dX11_why_14 rfl (lv_at hl 2 rfl) ?_
    refine lv_iload_n b.1 b.2.1 dX11_why_15 rfl (lv_at hl 3 rfl) ?_
    refine lv_iload b.1 b.2.1 dX11_why_16 (lv_at hl 4 rfl) ?_
    obtain ⟨a3, ea3, hf⟩ := oN_s hf
    obtain ⟨t4, hf⟩ := oC_s hf
    have t4 := of_decide_eq_true t4
    obtain ⟨r6, hc5, hf⟩ := oB_s hf
    refine k_stk [.int x4, .int x3, .int x2, .int x1] ea3 ?_
    refine k_callV0 (C := RX5) b zs zk hE (CX5_find l D aC ad zk hc5) mc_X5_find (in5 93 rfl rfl) mi_X5_find ms_X5_find ini_RX5 ok_X5_find (x_recv b hE (ci := 5) rfl (by decide) t4) ⟨Nat.le_of_ble_eq_true rfl, Nat.le_of_ble_eq_true rfl⟩ rfl hl.1 rfl (k_room _ (by exact Nat.le_of_ble_eq_true rfl)) ⟨Nat.le_refl _, Nat.le_refl _⟩ dX11_why_18 (fun H locs hE => ?_)
    refine lv_istore (lv' := [(6, .int r6), (0, .ref (ad x0)), (1, .int x1), (2, .int x2), (3, .int x3), (4, .int x4), (5, .int x5)]) b.1 b.2.1 dX11_why_21 hl (by decide) rfl (fun ls hl => ?_)
    have hl := lv_sub (l' := [(6, .int r6), (0, .ref (ad x0)), (5, .int x5)]) hl [0, 1, 6] rfl
    refine lv_iload b.1 b.2.1 dX11_why_23 (lv_at hl 0 rfl) ?_
    refine lv_iconst (v := (-1)) b.1 b.2.1 dX11_why_25 (by decide) ?_
    refine lv_icmp_ne (tgt := 33) b.1 b.2.1 dX11_why_26 (by decide) (fun c7 => ?_) (fun c7 => ?_)
    · have hf := oI_f c7 hf
      refine lv_aload_n b.1 b.2.1 dX11_why_33 rfl (lv_at hl 1 rfl) ?_
      refine gX11_112 (x := (some x0)) b hE rfl t1 dX11_why_34 ?_
      refine lv_iload b.1 b.2.1 dX11_why_37 (lv_at hl 0 rfl) ?_
      refine lv_iload b.1 b.2.1 dX11_why_39 (lv_at hl 2 rfl) ?_
      obtain ⟨h10, r9, hc8, hf⟩ := oB2_s hf
      refine k_stk [.int x5, .int r6] ea3 ?_
      refine k_callV0 (C := RX5) b zs zk hE (CX5_reason l D aC ad zk hc8) mc_X5_reason (in5 102 rfl rfl) mi_X5_reason ms_X5_reason ini_RX5 ok_X5_reason (x_recv b hE (ci := 5) rfl (by decide) t4) ⟨Nat.le_of_ble_eq_true rfl, Nat.le_of_ble_eq_true rfl⟩ rfl hl.1 rfl (k_room _ (by exact Nat.le_of_ble_eq_true rfl)) ⟨Nat.le_refl _, Nat.le_refl _⟩ dX11_why_41 (fun H locs hE => ?_)
      cases hf
      exact k_iret b hlk hr hE (Nat.le_refl _) (Nat.le_refl _) dX11_why_44
    · have hf := oI_t c7 hf
      refine lv_iconst (v := (-1)) b.1 b.2.1 dX11_why_29 (by decide) ?_
      refine lv_goto (tgt := 44) b.1 b.2.1 dX11_why_30 (by decide) ?_
      cases hf
      exact k_iret b hlk hr hE (Nat.le_refl _) (Nat.le_refl _) dX11_why_44
  · have hf := oI_t (Option.map_eq_none_iff.mp c2) hf
    refine lv_iconst (v := (-1)) b.1 b.2.1 dX11_why_7 (by decide) ?_
    cases hf
    exact k_iret b hlk hr hE (Nat.le_refl _) (Nat.le_refl _) dX11_why_8
def fX11_why (h : PH) (x0 : Nat) (x1 : Int32) (x2 : Int32) (x3 : Int32) (x4 : Int32) (x5 : Int32) : Option (PH × Int32) := fX11_why_0 h x0 x1 x2 x3 x4 x5
set_option maxHeartbeats 4000000 in
theorem CX11_why (l : Launch) (D : va_G) (aC : Nat → ClassId) (ad : Nat → Nat) {Z : State → Prop} (zk : ZOK Z (Rg ad)) {h : PH} {x0 : Nat} {x1 : Int32} {x2 : Int32} {x3 : Int32} {x4 : Int32} {x5 : Int32} {hz : PH} {rz : Int32} (hf : fX11_why h x0 x1 x2 x3 x4 x5 = some (hz, rz)) : CM l D aC Z yX11_why cX11_why 7 (some .int) 4 95 0 0 (EX D aC ad h) [.ref (ad x0), .int x1, .int x2, .int x3, .int x4, .int x5] (EX D aC ad hz) (some (.int rz)) (Rg ad) := by
  refine CM.of rfl ?_
  intro p e s m below meth c b hr hlk hin2 zs hE
  refine k_ent (Nat.le_of_ble_eq_true rfl) (fun ls hl => ?_)
  exact wfX11_why_0 b hlk hr zs zk hf hE (lv_sub hl [0, 1, 2, 3, 4, 5] rfl)
theorem dX11_sum_0 : decode cX11_sum 0 = .ok (.aload_n 0, 1) := by decide +kernel
theorem dX11_sum_1 : decode cX11_sum 1 = .ok (.getfield 112, 3) := by decide +kernel
theorem dX11_sum_4 : decode cX11_sum 4 = .ok (.ifnonnull 9, 3) := by decide +kernel
theorem dX11_sum_7 : decode cX11_sum 7 = .ok (.ldc2_w 162, 3) := by decide +kernel
theorem dX11_sum_10 : decode cX11_sum 10 = .ok (.goto 13, 3) := by decide +kernel
theorem dX11_sum_13 : decode cX11_sum 13 = .ok (.aload_n 0, 1) := by decide +kernel
theorem dX11_sum_14 : decode cX11_sum 14 = .ok (.getfield 112, 3) := by decide +kernel
theorem dX11_sum_17 : decode cX11_sum 17 = .ok (.iload_n 1, 1) := by decide +kernel
theorem dX11_sum_18 : decode cX11_sum 18 = .ok (.iload_n 2, 1) := by decide +kernel
theorem dX11_sum_19 : decode cX11_sum 19 = .ok (.iload_n 3, 1) := by decide +kernel
theorem dX11_sum_20 : decode cX11_sum 20 = .ok (.invokevirtual 164, 3) := by decide +kernel
theorem dX11_sum_23 : decode cX11_sum 23 = .ok (.lreturn, 1) := by decide +kernel
def fX11_sum_0  (h : PH) (x0 : Nat) (x1 : Int32) (x2 : Int32) (x3 : Int32) : Option (Int64) :=
  oC (decide (hT h x0 = 12)) (if (hR h 1416 x0) = none then (some ((-1))) else (oN (hR h 1416 x0) (fun a3 => oC (decide (hT h a3 = 6)) (oB (fX5_amount h a3 x1 x2 x3) (fun r6 => some (r6))))))
set_option maxHeartbeats 4000000 in
theorem wfX11_sum_0 {args : Array Value} (b : Bd p s m c cX11_sum 4 RX11 D aC) (hlk : meth.locks = false) (hr : meth.sig.returnType = some .long) {Z : State → Prop} (zs : Z s) (zk : ZOK Z (Rg ad)) {rz : Int64} {h : PH} {x0 : Nat} {x1 : Int32} {x2 : Int32} {x3 : Int32}  {H : Heap} {locs : List Loc} {ls : Array Slot} (hf : fX11_sum_0 h x0 x1 x2 x3 = some rz) (hE : CE (EX D aC ad h) (Rg ad) s H locs) (hl : lv_has ls 4 [(0, .ref (ad x0)), (1, .int x1), (2, .int x2), (3, .int x3)]) : W p l e (RM 1 24 0 0) s m args below meth c H locs 0 0 (MQ below (PQ (EX D aC ad h) (Rg ad) (some (.long rz))) args s 0 0 (Rg ad)) (F0 m 0 ls []) := by
  unfold fX11_sum_0 at hf
  refine lv_aload_n b.1 b.2.1 dX11_sum_0 rfl (lv_at hl 0 rfl) ?_
  obtain ⟨t1, hf⟩ := oC_s hf
  have t1 := of_decide_eq_true t1
  refine gX11_112 (x := (some x0)) b hE rfl t1 dX11_sum_1 ?_
  refine k_ifnonnull (x := Option.map ad (hR h 1416 x0)) b dX11_sum_4 (tgt := 13) (by decide) (fun c2 => ?_) (fun c2 => ?_)
  · have hf := oI_f (fun z => c2 (Option.map_eq_none_iff.mpr z)) hf
    refine lv_aload_n b.1 b.2.1 dX11_sum_13 rfl (lv_at hl 0 rfl) ?_
    refine gX11_112 (x := (some x0)) b hE rfl t1 dX11_sum_14 ?_
    refine lv_iload_n b.1 b.2.1 dX11_sum_17 rfl (lv_at hl 1 rfl) ?_
    refine lv_iload_n b.1 b.2.1 dX11_sum_18 rfl (lv_at hl 2 rfl) ?_
    refine lv_iload_n b.1 b.2.1 dX11_sum_19 rfl (lv_at hl 3 rfl) ?_
    obtain ⟨a3, ea3, hf⟩ := oN_s hf
    obtain ⟨t4, hf⟩ := oC_s hf
    have t4 := of_decide_eq_true t4
    obtain ⟨r6, hc5, hf⟩ := oB_s hf
    refine k_stk [.int x3, .int x2, .int x1] ea3 ?_
    refine k_callV0 (C := RX5) b zs zk hE (CX5_amount l D aC ad zk hc5) mc_X5_amount (in5 115 rfl rfl) mi_X5_amount ms_X5_amount ini_RX5 ok_X5_amount (x_recv b hE (ci := 5) rfl (by decide) t4) ⟨Nat.le_of_ble_eq_true rfl, Nat.le_of_ble_eq_true rfl⟩ rfl hl.1 rfl (k_room _ (by exact Nat.le_of_ble_eq_true rfl)) ⟨Nat.le_refl _, Nat.le_refl _⟩ dX11_sum_20 (fun H locs hE => ?_)
    cases hf
    exact k_lret b hlk hr hE (Nat.le_refl _) (Nat.le_refl _) dX11_sum_23
  · have hf := oI_t (Option.map_eq_none_iff.mp c2) hf
    refine k_ldc2 (v := (-1)) b (in5 114 rfl rfl) dX11_sum_7 ?_
    refine lv_goto (tgt := 23) b.1 b.2.1 dX11_sum_10 (by decide) ?_
    cases hf
    exact k_lret b hlk hr hE (Nat.le_refl _) (Nat.le_refl _) dX11_sum_23
def fX11_sum (h : PH) (x0 : Nat) (x1 : Int32) (x2 : Int32) (x3 : Int32) : Option (Int64) := fX11_sum_0 h x0 x1 x2 x3
set_option maxHeartbeats 4000000 in
theorem CX11_sum (l : Launch) (D : va_G) (aC : Nat → ClassId) (ad : Nat → Nat) {Z : State → Prop} (zk : ZOK Z (Rg ad)) {h : PH} {x0 : Nat} {x1 : Int32} {x2 : Int32} {x3 : Int32} {rz : Int64} (hf : fX11_sum h x0 x1 x2 x3 = some rz) : CM l D aC Z yX11_sum cX11_sum 4 (some .long) 1 24 0 0 (EX D aC ad h) [.ref (ad x0), .int x1, .int x2, .int x3] (EX D aC ad h) (some (.long rz)) (Rg ad) := by
  refine CM.of rfl ?_
  intro p e s m below meth c b hr hlk hin2 zs hE
  refine k_ent (Nat.le_of_ble_eq_true rfl) (fun ls hl => ?_)
  exact wfX11_sum_0 b hlk hr zs zk hf hE (lv_sub hl [0, 1, 2, 3] rfl)
theorem dX11_out_0 : decode cX11_out 0 = .ok (.aload_n 0, 1) := by decide +kernel
theorem dX11_out_1 : decode cX11_out 1 = .ok (.getfield 16, 3) := by decide +kernel
theorem dX11_out_4 : decode cX11_out 4 = .ok (.iload_n 1, 1) := by decide +kernel
theorem dX11_out_5 : decode cX11_out 5 = .ok (.invokevirtual 175, 3) := by decide +kernel
theorem dX11_out_8 : decode cX11_out 8 = .ok (.ireturn, 1) := by decide +kernel
def fX11_out_0  (h : PH) (x0 : Nat) (x1 : Int32) : Option (Int32) :=
  oC (decide (hT h x0 = 12)) (oN (hR h 1409 x0) (fun a2 => oC (decide (hT h a2 = 1)) (oB (fX0_byteAt h a2 x1) (fun r5 => some (r5)))))
set_option maxHeartbeats 4000000 in
theorem wfX11_out_0 {args : Array Value} (b : Bd p s m c cX11_out 2 RX11 D aC) (hlk : meth.locks = false) (hr : meth.sig.returnType = some .int) {Z : State → Prop} (zs : Z s) (zk : ZOK Z (Rg ad)) {rz : Int32} {h : PH} {x0 : Nat} {x1 : Int32}  {H : Heap} {locs : List Loc} {ls : Array Slot} (hf : fX11_out_0 h x0 x1 = some rz) (hE : CE (EX D aC ad h) (Rg ad) s H locs) (hl : lv_has ls 2 [(0, .ref (ad x0)), (1, .int x1)]) : W p l e (RM 1 21 0 0) s m args below meth c H locs 0 0 (MQ below (PQ (EX D aC ad h) (Rg ad) (some (.int rz))) args s 0 0 (Rg ad)) (F0 m 0 ls []) := by
  unfold fX11_out_0 at hf
  refine lv_aload_n b.1 b.2.1 dX11_out_0 rfl (lv_at hl 0 rfl) ?_
  obtain ⟨t1, hf⟩ := oC_s hf
  have t1 := of_decide_eq_true t1
  refine gX11_16 (x := (some x0)) b hE rfl t1 dX11_out_1 ?_
  refine lv_iload_n b.1 b.2.1 dX11_out_4 rfl (lv_at hl 1 rfl) ?_
  obtain ⟨a2, ea2, hf⟩ := oN_s hf
  obtain ⟨t3, hf⟩ := oC_s hf
  have t3 := of_decide_eq_true t3
  obtain ⟨r5, hc4, hf⟩ := oB_s hf
  refine k_stk [.int x1] ea2 ?_
  refine k_callV0 (C := RX0) b zs zk hE (CX0_byteAt l D aC ad zk hc4) mc_X0_byteAt (in5 163 rfl rfl) mi_X0_byteAt ms_X0_byteAt ini_RX0 ok_X0_byteAt (x_recv b hE (ci := 0) rfl (by decide) t3) ⟨Nat.le_of_ble_eq_true rfl, Nat.le_of_ble_eq_true rfl⟩ rfl hl.1 rfl (k_room _ (by exact Nat.le_of_ble_eq_true rfl)) ⟨Nat.le_refl _, Nat.le_refl _⟩ dX11_out_5 (fun H locs hE => ?_)
  cases hf
  exact k_iret b hlk hr hE (Nat.le_refl _) (Nat.le_refl _) dX11_out_8
def fX11_out (h : PH) (x0 : Nat) (x1 : Int32) : Option (Int32) := fX11_out_0 h x0 x1
set_option maxHeartbeats 4000000 in
theorem CX11_out (l : Launch) (D : va_G) (aC : Nat → ClassId) (ad : Nat → Nat) {Z : State → Prop} (zk : ZOK Z (Rg ad)) {h : PH} {x0 : Nat} {x1 : Int32} {rz : Int32} (hf : fX11_out h x0 x1 = some rz) : CM l D aC Z yX11_out cX11_out 2 (some .int) 1 21 0 0 (EX D aC ad h) [.ref (ad x0), .int x1] (EX D aC ad h) (some (.int rz)) (Rg ad) := by
  refine CM.of rfl ?_
  intro p e s m below meth c b hr hlk hin2 zs hE
  refine k_ent (Nat.le_of_ble_eq_true rfl) (fun ls hl => ?_)
  exact wfX11_out_0 b hlk hr zs zk hf hE (lv_sub hl [0, 1] rfl)
theorem dX11_rule_0 : decode cX11_rule 0 = .ok (.aload_n 0, 1) := by decide +kernel
theorem dX11_rule_1 : decode cX11_rule 1 = .ok (.getfield 22, 3) := by decide +kernel
theorem dX11_rule_4 : decode cX11_rule 4 = .ok (.iload_n 1, 1) := by decide +kernel
theorem dX11_rule_5 : decode cX11_rule 5 = .ok (.invokevirtual 179, 3) := by decide +kernel
theorem dX11_rule_8 : decode cX11_rule 8 = .ok (.astore_n 3, 1) := by decide +kernel
theorem dX11_rule_9 : decode cX11_rule 9 = .ok (.aload_n 3, 1) := by decide +kernel
theorem dX11_rule_10 : decode cX11_rule 10 = .ok (.ifnonnull 5, 3) := by decide +kernel
theorem dX11_rule_13 : decode cX11_rule 13 = .ok (.iconst (-1), 1) := by decide +kernel
theorem dX11_rule_14 : decode cX11_rule 14 = .ok (.ireturn, 1) := by decide +kernel
theorem dX11_rule_15 : decode cX11_rule 15 = .ok (.iload_n 2, 1) := by decide +kernel
theorem dX11_rule_16 : decode cX11_rule 16 = .ok (.tableswitch 84 0 5 #[40, 45, 50, 55, 60, 68], 40) := by decide +kernel
theorem dX11_rule_56 : decode cX11_rule 56 = .ok (.aload_n 3, 1) := by decide +kernel
theorem dX11_rule_57 : decode cX11_rule 57 = .ok (.getfield 183, 3) := by decide +kernel
theorem dX11_rule_60 : decode cX11_rule 60 = .ok (.ireturn, 1) := by decide +kernel
theorem dX11_rule_61 : decode cX11_rule 61 = .ok (.aload_n 3, 1) := by decide +kernel
theorem dX11_rule_62 : decode cX11_rule 62 = .ok (.getfield 188, 3) := by decide +kernel
theorem dX11_rule_65 : decode cX11_rule 65 = .ok (.ireturn, 1) := by decide +kernel
theorem dX11_rule_66 : decode cX11_rule 66 = .ok (.aload_n 3, 1) := by decide +kernel
theorem dX11_rule_67 : decode cX11_rule 67 = .ok (.getfield 191, 3) := by decide +kernel
theorem dX11_rule_70 : decode cX11_rule 70 = .ok (.ireturn, 1) := by decide +kernel
theorem dX11_rule_71 : decode cX11_rule 71 = .ok (.aload_n 3, 1) := by decide +kernel
theorem dX11_rule_72 : decode cX11_rule 72 = .ok (.getfield 192, 3) := by decide +kernel
theorem dX11_rule_75 : decode cX11_rule 75 = .ok (.ireturn, 1) := by decide +kernel
theorem dX11_rule_76 : decode cX11_rule 76 = .ok (.aload_n 3, 1) := by decide +kernel
theorem dX11_rule_77 : decode cX11_rule 77 = .ok (.getfield 195, 3) := by decide +kernel
theorem dX11_rule_80 : decode cX11_rule 80 = .ok (.getfield 199, 3) := by decide +kernel
theorem dX11_rule_83 : decode cX11_rule 83 = .ok (.ireturn, 1) := by decide +kernel
theorem dX11_rule_84 : decode cX11_rule 84 = .ok (.aload_n 3, 1) := by decide +kernel
theorem dX11_rule_85 : decode cX11_rule 85 = .ok (.getfield 195, 3) := by decide +kernel
theorem dX11_rule_88 : decode cX11_rule 88 = .ok (.getfield 204, 3) := by decide +kernel
theorem dX11_rule_91 : decode cX11_rule 91 = .ok (.ifCond .eq 7, 3) := by decide +kernel
theorem dX11_rule_94 : decode cX11_rule 94 = .ok (.iconst 1, 1) := by decide +kernel
theorem dX11_rule_95 : decode cX11_rule 95 = .ok (.goto 4, 3) := by decide +kernel
theorem dX11_rule_98 : decode cX11_rule 98 = .ok (.iconst 0, 1) := by decide +kernel
theorem dX11_rule_99 : decode cX11_rule 99 = .ok (.ireturn, 1) := by decide +kernel
theorem dX11_rule_100 : decode cX11_rule 100 = .ok (.iconst (-1), 1) := by decide +kernel
theorem dX11_rule_101 : decode cX11_rule 101 = .ok (.ireturn, 1) := by decide +kernel
def fX11_rule_0  (h : PH) (x0 : Nat) (x1 : Int32) (x2 : Int32) : Option (Int32) :=
  oC (decide (hT h x0 = 12)) (oN (hR h 1410 x0) (fun a2 => oC (decide (hT h a2 = 2)) (oB (fX1_ruleAt h a2 x1) (fun r5 => if r5 = none then (some ((-1))) else (if x2 = 0 then (oN r5 (fun a8 => oC (decide (hT h a8 = 9)) (some ((hI h 1024 a8))))) else (if x2 = 1 then (oN r5 (fun a11 => oC (decide (hT h a11 = 9)) (some ((hI h 1025 a11))))) else (if x2 = 2 then (oN r5 (fun a14 => oC (decide (hT h a14 = 9)) (some ((hI h 1027 a14))))) else (if x2 = 3 then (oN r5 (fun a17 => oC (decide (hT h a17 = 9)) (some ((hI h 1026 a17))))) else (if x2 = 4 then (oN r5 (fun a20 => oC (decide (hT h a20 = 9)) (oN (hR h 1029 a20) (fun a22 => oC (decide (hT h a22 = 3)) (some ((hI h 257 a22))))))) else (if x2 = 5 then (oN r5 (fun a25 => oC (decide (hT h a25 = 9)) (oN (hR h 1029 a25) (fun a27 => oC (decide (hT h a27 = 3)) (if (hI h 258 a27) = 0 then (some (0)) else (some (1))))))) else (some ((-1)))))))))))))
set_option maxHeartbeats 4000000 in
theorem wfX11_rule_0 {args : Array Value} (b : Bd p s m c cX11_rule 4 RX11 D aC) (hlk : meth.locks = false) (hr : meth.sig.returnType = some .int) {Z : State → Prop} (zs : Z s) (zk : ZOK Z (Rg ad)) {rz : Int32} {h : PH} {x0 : Nat} {x1 : Int32} {x2 : Int32}  {H : Heap} {locs : List Loc} {ls : Array Slot} (hf : fX11_rule_0 h x0 x1 x2 = some rz) (hE : CE (EX D aC ad h) (Rg ad) s H locs) (hl : lv_has ls 4 [(0, .ref (ad x0)), (1, .int x1), (2, .int x2)]) : W p l e (RM 1 21 0 0) s m args below meth c H locs 0 0 (MQ below (PQ (EX D aC ad h) (Rg ad) (some (.int rz))) args s 0 0 (Rg ad)) (F0 m 0 ls []) := by
  unfold fX11_rule_0 at hf
  refine lv_aload_n b.1 b.2.1 dX11_rule_0 rfl (lv_at hl 0 rfl) ?_
  obtain ⟨t1, hf⟩ := oC_s hf
  have t1 := of_decide_eq_true t1
  refine gX11_22 (x := (some x0)) b hE rfl t1 dX11_rule_1 ?_
  refine lv_iload_n b.1 b.2.1 dX11_rule_4 rfl (lv_at hl 1 rfl) ?_
  obtain ⟨a2, ea2, hf⟩ := oN_s hf
  obtain ⟨t3, hf⟩ := oC_s hf
  have t3 := of_decide_eq_true t3
  obtain ⟨r5, hc4, hf⟩ := oB_s hf
  refine k_stk [.int x1] ea2 ?_
  refine k_callV0 (C := RX1) b zs zk hE (CX1_ruleAt l D aC ad zk hc4) mc_X1_ruleAt (in5 168 rfl rfl) mi_X1_ruleAt ms_X1_ruleAt ini_RX1 ok_X1_ruleAt (x_recv b hE (ci := 1) rfl (by decide) t3) ⟨Nat.le_of_ble_eq_true rfl, Nat.le_of_ble_eq_true rfl⟩ rfl hl.1 rfl (k_room _ (by exact Nat.le_of_ble_eq_true rfl)) ⟨Nat.le_refl _, Nat.le_refl _⟩ dX11_rule_5 (fun H locs hE => ?_)
  refine k_astore_n (x := Option.map ad r5) (lv' := [(3, va_rf (Option.map ad r5)), (0, .ref (ad x0)), (1, .int x1), (2, .int x2)]) b dX11_rule_8 rfl hl (by decide) rfl (fun ls hl => ?_)
  have hl := lv_sub (l' := [(3, va_rf (Option.map ad r5)), (2, .int x2)]) hl [0, 3] rfl
  refine k_aload_n (x := Option.map ad r5) b dX11_rule_9 rfl (lv_at hl 0 rfl) ?_
  refine k_ifnonnull (x := Option.map ad r5) b dX11_rule_10 (tgt := 15) (by decide) (fun c6 => ?_) (fun c6 => ?_)
  · have hf := oI_f (fun z => c6 (Option.map_eq_none_iff.mpr z)) hf
    refine lv_iload_n b.1 b.2.1 dX11_rule_15 rfl (lv_at hl 1 rfl) ?_
    rcases Decidable.em (x2 = 0) with c7 | c7
    · have hf := oI_t c7 hf
      refine lv_tableIn (tgt := 56) b.1 b.2.1 dX11_rule_16 (off := 40) (by rw [c7]; decide) (by rw [c7]; decide) (by rw [c7] <;> rfl) (by decide) ?_
      refine k_aload_n (x := Option.map ad r5) b dX11_rule_56 rfl (lv_at hl 0 rfl) ?_
      obtain ⟨a8, ea8, hf⟩ := oN_s hf
      obtain ⟨t9, hf⟩ := oC_s hf
      have t9 := of_decide_eq_true t9
      refine gX11_183 (x := r5) b hE ea8 t9 dX11_rule_57 ?_
      cases hf
      exact k_iret b hlk hr hE (Nat.le_refl _) (Nat.le_refl _) dX11_rule_60
    have hf := oI_f c7 hf
    rcases Decidable.em (x2 = 1) with c10 | c10
    · have hf := oI_t c10 hf
      refine lv_tableIn (tgt := 61) b.1 b.2.1 dX11_rule_16 (off := 45) (by rw [c10]; decide) (by rw [c10]; decide) (by rw [c10] <;> rfl) (by decide) ?_
      refine k_aload_n (x := Option.map ad r5) b dX11_rule_61 rfl (lv_at hl 0 rfl) ?_
      obtain ⟨a11, ea11, hf⟩ := oN_s hf
      obtain ⟨t12, hf⟩ := oC_s hf
      have t12 := of_decide_eq_true t12
      refine gX11_188 (x := r5) b hE ea11 t12 dX11_rule_62 ?_
      cases hf
      exact k_iret b hlk hr hE (Nat.le_refl _) (Nat.le_refl _) dX11_rule_65
    have hf := oI_f c10 hf
    rcases Decidable.em (x2 = 2) with c13 | c13
    · have hf := oI_t c13 hf
      refine lv_tableIn (tgt := 66) b.1 b.2.1 dX11_rule_16 (off := 50) (by rw [c13]; decide) (by rw [c13]; decide) (by rw [c13] <;> rfl) (by decide) ?_
      refine k_aload_n (x := Option.map ad r5) b dX11_rule_66 rfl (lv_at hl 0 rfl) ?_
      obtain ⟨a14, ea14, hf⟩ := oN_s hf
      obtain ⟨t15, hf⟩ := oC_s hf
      have t15 := of_decide_eq_true t15
      refine gX11_191 (x := r5) b hE ea14 t15 dX11_rule_67 ?_
      cases hf
      exact k_iret b hlk hr hE (Nat.le_refl _) (Nat.le_refl _) dX11_rule_70
    have hf := oI_f c13 hf
    rcases Decidable.em (x2 = 3) with c16 | c16
    · have hf := oI_t c16 hf
      refine lv_tableIn (tgt := 71) b.1 b.2.1 dX11_rule_16 (off := 55) (by rw [c16]; decide) (by rw [c16]; decide) (by rw [c16] <;> rfl) (by decide) ?_
      refine k_aload_n (x := Option.map ad r5) b dX11_rule_71 rfl (lv_at hl 0 rfl) ?_
      obtain ⟨a17, ea17, hf⟩ := oN_s hf
      obtain ⟨t18, hf⟩ := oC_s hf
      have t18 := of_decide_eq_true t18
      refine gX11_192 (x := r5) b hE ea17 t18 dX11_rule_72 ?_
      cases hf
      exact k_iret b hlk hr hE (Nat.le_refl _) (Nat.le_refl _) dX11_rule_75
    have hf := oI_f c16 hf
    rcases Decidable.em (x2 = 4) with c19 | c19
    · have hf := oI_t c19 hf
      refine lv_tableIn (tgt := 76) b.1 b.2.1 dX11_rule_16 (off := 60) (by rw [c19]; decide) (by rw [c19]; decide) (by rw [c19] <;> rfl) (by decide) ?_
      refine k_aload_n (x := Option.map ad r5) b dX11_rule_76 rfl (lv_at hl 0 rfl) ?_
      obtain ⟨a20, ea20, hf⟩ := oN_s hf
      obtain ⟨t21, hf⟩ := oC_s hf
      have t21 := of_decide_eq_true t21
      refine gX11_195 (x := r5) b hE ea20 t21 dX11_rule_77 ?_
      obtain ⟨a22, ea22, hf⟩ := oN_s hf
      obtain ⟨t23, hf⟩ := oC_s hf
      have t23 := of_decide_eq_true t23
      refine gX11_199 (x := (hR h 1029 a20)) b hE ea22 t23 dX11_rule_80 ?_
      cases hf
      exact k_iret b hlk hr hE (Nat.le_refl _) (Nat.le_refl _) dX11_rule_83
    have hf := oI_f c19 hf
    rcases Decidable.em (x2 = 5) with c24 | c24
    · have hf := oI_t c24 hf
      refine lv_tableIn (tgt := 84) b.1 b.2.1 dX11_rule_16 (off := 68) (by rw [c24]; decide) (by rw [c24]; decide) (by rw [c24] <;> rfl) (by decide) ?_
      refine k_aload_n (x := Option.map ad r5) b dX11_rule_84 rfl (lv_at hl 0 rfl) ?_
      obtain ⟨a25, ea25, hf⟩ := oN_s hf
      obtain ⟨t26, hf⟩ := oC_s hf
      have t26 := of_decide_eq_true t26
      refine gX11_195 (x := r5) b hE ea25 t26 dX11_rule_85 ?_
      obtain ⟨a27, ea27, hf⟩ := oN_s hf
      obtain ⟨t28, hf⟩ := oC_s hf
      have t28 := of_decide_eq_true t28
      refine gX11_204 (x := (hR h 1029 a25)) b hE ea27 t28 dX11_rule_88 ?_
      refine lv_if_eq (tgt := 98) b.1 b.2.1 dX11_rule_91 (by decide) (fun c29 => ?_) (fun c29 => ?_)
      · have hf := oI_t c29 hf
        refine lv_iconst (v := 0) b.1 b.2.1 dX11_rule_98 (by decide) ?_
        cases hf
        exact k_iret b hlk hr hE (Nat.le_refl _) (Nat.le_refl _) dX11_rule_99
      · have hf := oI_f c29 hf
        refine lv_iconst (v := 1) b.1 b.2.1 dX11_rule_94 (by decide) ?_
        refine lv_goto (tgt := 99) b.1 b.2.1 dX11_rule_95 (by decide) ?_
        cases hf
        exact k_iret b hlk hr hE (Nat.le_refl _) (Nat.le_refl _) dX11_rule_99
    have hf := oI_f c24 hf
    have c7 := lv_neT (a := 0) c7 (by decide)
    have c10 := lv_neT (a := 1) c10 (by decide)
    have c13 := lv_neT (a := 2) c13 (by decide)
    have c16 := lv_neT (a := 3) c16 (by decide)
    have c19 := lv_neT (a := 4) c19 (by decide)
    have c24 := lv_neT (a := 5) c24 (by decide)
    refine lv_tableOut (tgt := 100) b.1 b.2.1 dX11_rule_16 (by omega) (by decide) ?_
    refine lv_iconst (v := (-1)) b.1 b.2.1 dX11_rule_100 (by decide) ?_
    cases hf
    exact k_iret b hlk hr hE (Nat.le_refl _) (Nat.le_refl _) dX11_rule_101
  · have hf := oI_t (Option.map_eq_none_iff.mp c6) hf
    refine lv_iconst (v := (-1)) b.1 b.2.1 dX11_rule_13 (by decide) ?_
    cases hf
    exact k_iret b hlk hr hE (Nat.le_refl _) (Nat.le_refl _) dX11_rule_14
def fX11_rule (h : PH) (x0 : Nat) (x1 : Int32) (x2 : Int32) : Option (Int32) := fX11_rule_0 h x0 x1 x2
set_option maxHeartbeats 4000000 in
theorem CX11_rule (l : Launch) (D : va_G) (aC : Nat → ClassId) (ad : Nat → Nat) {Z : State → Prop} (zk : ZOK Z (Rg ad)) {h : PH} {x0 : Nat} {x1 : Int32} {x2 : Int32} {rz : Int32} (hf : fX11_rule h x0 x1 x2 = some rz) : CM l D aC Z yX11_rule cX11_rule 4 (some .int) 1 21 0 0 (EX D aC ad h) [.ref (ad x0), .int x1, .int x2] (EX D aC ad h) (some (.int rz)) (Rg ad) := by
  refine CM.of rfl ?_
  intro p e s m below meth c b hr hlk hin2 zs hE
  refine k_ent (Nat.le_of_ble_eq_true rfl) (fun ls hl => ?_)
  exact wfX11_rule_0 b hlk hr zs zk hf hE (lv_sub hl [0, 1, 2] rfl)
theorem dX11_law_0 : decode cX11_law 0 = .ok (.aload_n 0, 1) := by decide +kernel
theorem dX11_law_1 : decode cX11_law 1 = .ok (.getfield 22, 3) := by decide +kernel
theorem dX11_law_4 : decode cX11_law 4 = .ok (.iload_n 1, 1) := by decide +kernel
theorem dX11_law_5 : decode cX11_law 5 = .ok (.iload_n 2, 1) := by decide +kernel
theorem dX11_law_6 : decode cX11_law 6 = .ok (.invokevirtual 208, 3) := by decide +kernel
theorem dX11_law_9 : decode cX11_law 9 = .ok (.ireturn, 1) := by decide +kernel
def fX11_law_0  (h : PH) (x0 : Nat) (x1 : Int32) (x2 : Int32) : Option (Int32) :=
  oC (decide (hT h x0 = 12)) (oN (hR h 1410 x0) (fun a2 => oC (decide (hT h a2 = 2)) (oB (fX1_lawColumn h a2 x1 x2) (fun r5 => some (r5)))))
set_option maxHeartbeats 4000000 in
theorem wfX11_law_0 {args : Array Value} (b : Bd p s m c cX11_law 3 RX11 D aC) (hlk : meth.locks = false) (hr : meth.sig.returnType = some .int) {Z : State → Prop} (zs : Z s) (zk : ZOK Z (Rg ad)) {rz : Int32} {h : PH} {x0 : Nat} {x1 : Int32} {x2 : Int32}  {H : Heap} {locs : List Loc} {ls : Array Slot} (hf : fX11_law_0 h x0 x1 x2 = some rz) (hE : CE (EX D aC ad h) (Rg ad) s H locs) (hl : lv_has ls 3 [(0, .ref (ad x0)), (1, .int x1), (2, .int x2)]) : W p l e (RM 1 23 0 0) s m args below meth c H locs 0 0 (MQ below (PQ (EX D aC ad h) (Rg ad) (some (.int rz))) args s 0 0 (Rg ad)) (F0 m 0 ls []) := by
  unfold fX11_law_0 at hf
  refine lv_aload_n b.1 b.2.1 dX11_law_0 rfl (lv_at hl 0 rfl) ?_
  obtain ⟨t1, hf⟩ := oC_s hf
  have t1 := of_decide_eq_true t1
  refine gX11_22 (x := (some x0)) b hE rfl t1 dX11_law_1 ?_
  refine lv_iload_n b.1 b.2.1 dX11_law_4 rfl (lv_at hl 1 rfl) ?_
  refine lv_iload_n b.1 b.2.1 dX11_law_5 rfl (lv_at hl 2 rfl) ?_
  obtain ⟨a2, ea2, hf⟩ := oN_s hf
  obtain ⟨t3, hf⟩ := oC_s hf
  have t3 := of_decide_eq_true t3
  obtain ⟨r5, hc4, hf⟩ := oB_s hf
  refine k_stk [.int x2, .int x1] ea2 ?_
  refine k_callV0 (C := RX1) b zs zk hE (CX1_lawColumn l D aC ad zk hc4) mc_X1_lawColumn (in5 173 rfl rfl) mi_X1_lawColumn ms_X1_lawColumn ini_RX1 ok_X1_lawColumn (x_recv b hE (ci := 1) rfl (by decide) t3) ⟨Nat.le_of_ble_eq_true rfl, Nat.le_of_ble_eq_true rfl⟩ rfl hl.1 rfl (k_room _ (by exact Nat.le_of_ble_eq_true rfl)) ⟨Nat.le_refl _, Nat.le_refl _⟩ dX11_law_6 (fun H locs hE => ?_)
  cases hf
  exact k_iret b hlk hr hE (Nat.le_refl _) (Nat.le_refl _) dX11_law_9
def fX11_law (h : PH) (x0 : Nat) (x1 : Int32) (x2 : Int32) : Option (Int32) := fX11_law_0 h x0 x1 x2
set_option maxHeartbeats 4000000 in
theorem CX11_law (l : Launch) (D : va_G) (aC : Nat → ClassId) (ad : Nat → Nat) {Z : State → Prop} (zk : ZOK Z (Rg ad)) {h : PH} {x0 : Nat} {x1 : Int32} {x2 : Int32} {rz : Int32} (hf : fX11_law h x0 x1 x2 = some rz) : CM l D aC Z yX11_law cX11_law 3 (some .int) 1 23 0 0 (EX D aC ad h) [.ref (ad x0), .int x1, .int x2] (EX D aC ad h) (some (.int rz)) (Rg ad) := by
  refine CM.of rfl ?_
  intro p e s m below meth c b hr hlk hin2 zs hE
  refine k_ent (Nat.le_of_ble_eq_true rfl) (fun ls hl => ?_)
  exact wfX11_law_0 b hlk hr zs zk hf hE (lv_sub hl [0, 1, 2] rfl)
theorem dX11_above_0 : decode cX11_above 0 = .ok (.aload_n 0, 1) := by decide +kernel
theorem dX11_above_1 : decode cX11_above 1 = .ok (.getfield 22, 3) := by decide +kernel
theorem dX11_above_4 : decode cX11_above 4 = .ok (.iload_n 1, 1) := by decide +kernel
theorem dX11_above_5 : decode cX11_above 5 = .ok (.invokevirtual 211, 3) := by decide +kernel
theorem dX11_above_8 : decode cX11_above 8 = .ok (.ifCond .eq 14, 3) := by decide +kernel
theorem dX11_above_11 : decode cX11_above 11 = .ok (.aload_n 0, 1) := by decide +kernel
theorem dX11_above_12 : decode cX11_above 12 = .ok (.getfield 22, 3) := by decide +kernel
theorem dX11_above_15 : decode cX11_above 15 = .ok (.iload_n 2, 1) := by decide +kernel
theorem dX11_above_16 : decode cX11_above 16 = .ok (.invokevirtual 211, 3) := by decide +kernel
theorem dX11_above_19 : decode cX11_above 19 = .ok (.ifCond .ne 5, 3) := by decide +kernel
theorem dX11_above_22 : decode cX11_above 22 = .ok (.iconst (-1), 1) := by decide +kernel
theorem dX11_above_23 : decode cX11_above 23 = .ok (.ireturn, 1) := by decide +kernel
theorem dX11_above_24 : decode cX11_above 24 = .ok (.aload_n 0, 1) := by decide +kernel
theorem dX11_above_25 : decode cX11_above 25 = .ok (.getfield 22, 3) := by decide +kernel
theorem dX11_above_28 : decode cX11_above 28 = .ok (.iload_n 1, 1) := by decide +kernel
theorem dX11_above_29 : decode cX11_above 29 = .ok (.iload_n 2, 1) := by decide +kernel
theorem dX11_above_30 : decode cX11_above 30 = .ok (.invokevirtual 214, 3) := by decide +kernel
theorem dX11_above_33 : decode cX11_above 33 = .ok (.ifCond .eq 7, 3) := by decide +kernel
theorem dX11_above_36 : decode cX11_above 36 = .ok (.iconst 1, 1) := by decide +kernel
theorem dX11_above_37 : decode cX11_above 37 = .ok (.goto 4, 3) := by decide +kernel
theorem dX11_above_40 : decode cX11_above 40 = .ok (.iconst 0, 1) := by decide +kernel
theorem dX11_above_41 : decode cX11_above 41 = .ok (.ireturn, 1) := by decide +kernel
def fX11_above_0  (h : PH) (x0 : Nat) (x1 : Int32) (x2 : Int32) : Option (Int32) :=
  oC (decide (hT h x0 = 12)) (oN (hR h 1410 x0) (fun a2 => oC (decide (hT h a2 = 2)) (oB (fX1_isRanked h a2 x1) (fun r5 => if r5 = 0 then (some ((-1))) else (oB (fX1_isRanked h a2 x2) (fun r8 => if r8 = 0 then (some ((-1))) else (oB (fX1_isAbove h a2 x1 x2) (fun r11 => if r11 = 0 then (some (0)) else (some (1))))))))))
set_option maxHeartbeats 4000000 in
theorem wfX11_above_0 {args : Array Value} (b : Bd p s m c cX11_above 3 RX11 D aC) (hlk : meth.locks = false) (hr : meth.sig.returnType = some .int) {Z : State → Prop} (zs : Z s) (zk : ZOK Z (Rg ad)) {rz : Int32} {h : PH} {x0 : Nat} {x1 : Int32} {x2 : Int32}  {H : Heap} {locs : List Loc} {ls : Array Slot} (hf : fX11_above_0 h x0 x1 x2 = some rz) (hE : CE (EX D aC ad h) (Rg ad) s H locs) (hl : lv_has ls 3 [(0, .ref (ad x0)), (1, .int x1), (2, .int x2)]) : W p l e (RM 2 50 0 0) s m args below meth c H locs 0 0 (MQ below (PQ (EX D aC ad h) (Rg ad) (some (.int rz))) args s 0 0 (Rg ad)) (F0 m 0 ls []) := by
  unfold fX11_above_0 at hf
  refine lv_aload_n b.1 b.2.1 dX11_above_0 rfl (lv_at hl 0 rfl) ?_
  obtain ⟨t1, hf⟩ := oC_s hf
  have t1 := of_decide_eq_true t1
  refine gX11_22 (x := (some x0)) b hE rfl t1 dX11_above_1 ?_
  refine lv_iload_n b.1 b.2.1 dX11_above_4 rfl (lv_at hl 1 rfl) ?_
  obtain ⟨a2, ea2, hf⟩ := oN_s hf
  obtain ⟨t3, hf⟩ := oC_s hf
  have t3 := of_decide_eq_true t3
  obtain ⟨r5, hc4, hf⟩ := oB_s hf
  refine k_stk [.int x1] ea2 ?_
  refine k_callV0 (C := RX1) b zs zk hE (CX1_isRanked l D aC ad zk hc4) mc_X1_isRanked (in5 178 rfl rfl) mi_X1_isRanked ms_X1_isRanked ini_RX1 ok_X1_isRanked (x_recv b hE (ci := 1) rfl (by decide) t3) ⟨Nat.le_of_ble_eq_true rfl, Nat.le_of_ble_eq_true rfl⟩ rfl hl.1 rfl (k_room _ (by exact Nat.le_of_ble_eq_true rfl)) ⟨Nat.le_refl _, Nat.le_refl _⟩ dX11_above_5 (fun H locs hE => ?_)
  refine lv_if_eq (tgt := 22) b.1 b.2.1 dX11_above_8 (by decide) (fun c6 => ?_) (fun c6 => ?_)
  · have hf := oI_t c6 hf
    refine lv_iconst (v := (-1)) b.1 b.2.1 dX11_above_22 (by decide) ?_
    cases hf
    exact k_iret b hlk hr hE (Nat.le_refl _) (Nat.le_refl _) dX11_above_23
  · have hf := oI_f c6 hf
    refine lv_aload_n b.1 b.2.1 dX11_above_11 rfl (lv_at hl 0 rfl) ?_
    refine gX11_22 (x := (some x0)) b hE rfl t1 dX11_above_12 ?_
    refine lv_iload_n b.1 b.2.1 dX11_above_15 rfl (lv_at hl 2 rfl) ?_
    obtain ⟨r8, hc7, hf⟩ := oB_s hf
    refine k_stk [.int x2] ea2 ?_
    refine k_callV0 (C := RX1) b zs zk hE (CX1_isRanked l D aC ad zk hc7) mc_X1_isRanked (in5 178 rfl rfl) mi_X1_isRanked ms_X1_isRanked ini_RX1 ok_X1_isRanked (x_recv b hE (ci := 1) rfl (by decide) t3) ⟨Nat.le_of_ble_eq_true rfl, Nat.le_of_ble_eq_true rfl⟩ rfl hl.1 rfl (k_room _ (by exact Nat.le_of_ble_eq_true rfl)) ⟨Nat.le_refl _, Nat.le_refl _⟩ dX11_above_16 (fun H locs hE => ?_)
    refine lv_if_ne (tgt := 24) b.1 b.2.1 dX11_above_19 (by decide) (fun c9 => ?_) (fun c9 => ?_)
    · have hf := oI_f c9 hf
      refine lv_aload_n b.1 b.2.1 dX11_above_24 rfl (lv_at hl 0 rfl) ?_
      refine gX11_22 (x := (some x0)) b hE rfl t1 dX11_above_25 ?_
      refine lv_iload_n b.1 b.2.1 dX11_above_28 rfl (lv_at hl 1 rfl) ?_
      refine lv_iload_n b.1 b.2.1 dX11_above_29 rfl (lv_at hl 2 rfl) ?_
      obtain ⟨r11, hc10, hf⟩ := oB_s hf
      refine k_stk [.int x2, .int x1] ea2 ?_
      refine k_callV0 (C := RX1) b zs zk hE (CX1_isAbove l D aC ad zk hc10) mc_X1_isAbove (in5 179 rfl rfl) mi_X1_isAbove ms_X1_isAbove ini_RX1 ok_X1_isAbove (x_recv b hE (ci := 1) rfl (by decide) t3) ⟨Nat.le_of_ble_eq_true rfl, Nat.le_of_ble_eq_true rfl⟩ rfl hl.1 rfl (k_room _ (by exact Nat.le_of_ble_eq_true rfl)) ⟨Nat.le_refl _, Nat.le_refl _⟩ dX11_above_30 (fun H locs hE => ?_)
      refine lv_if_eq (tgt := 40) b.1 b.2.1 dX11_above_33 (by decide) (fun c12 => ?_) (fun c12 => ?_)
      · have hf := oI_t c12 hf
        refine lv_iconst (v := 0) b.1 b.2.1 dX11_above_40 (by decide) ?_
        cases hf
        exact k_iret b hlk hr hE (Nat.le_refl _) (Nat.le_refl _) dX11_above_41
      · have hf := oI_f c12 hf
        refine lv_iconst (v := 1) b.1 b.2.1 dX11_above_36 (by decide) ?_
        refine lv_goto (tgt := 41) b.1 b.2.1 dX11_above_37 (by decide) ?_
        cases hf
        exact k_iret b hlk hr hE (Nat.le_refl _) (Nat.le_refl _) dX11_above_41
    · have hf := oI_t c9 hf
      refine lv_iconst (v := (-1)) b.1 b.2.1 dX11_above_22 (by decide) ?_
      cases hf
      exact k_iret b hlk hr hE (Nat.le_refl _) (Nat.le_refl _) dX11_above_23
def fX11_above (h : PH) (x0 : Nat) (x1 : Int32) (x2 : Int32) : Option (Int32) := fX11_above_0 h x0 x1 x2
set_option maxHeartbeats 4000000 in
theorem CX11_above (l : Launch) (D : va_G) (aC : Nat → ClassId) (ad : Nat → Nat) {Z : State → Prop} (zk : ZOK Z (Rg ad)) {h : PH} {x0 : Nat} {x1 : Int32} {x2 : Int32} {rz : Int32} (hf : fX11_above h x0 x1 x2 = some rz) : CM l D aC Z yX11_above cX11_above 3 (some .int) 2 50 0 0 (EX D aC ad h) [.ref (ad x0), .int x1, .int x2] (EX D aC ad h) (some (.int rz)) (Rg ad) := by
  refine CM.of rfl ?_
  intro p e s m below meth c b hr hlk hin2 zs hE
  refine k_ent (Nat.le_of_ble_eq_true rfl) (fun ls hl => ?_)
  exact wfX11_above_0 b hlk hr zs zk hf hE (lv_sub hl [0, 1, 2] rfl)
theorem dX11_judgedTally_0 : decode cX11_judgedTally 0 = .ok (.aload_n 0, 1) := by decide +kernel
theorem dX11_judgedTally_1 : decode cX11_judgedTally 1 = .ok (.getfield 112, 3) := by decide +kernel
theorem dX11_judgedTally_4 : decode cX11_judgedTally 4 = .ok (.ifnonnull 7, 3) := by decide +kernel
theorem dX11_judgedTally_7 : decode cX11_judgedTally 7 = .ok (.iconst 0, 1) := by decide +kernel
theorem dX11_judgedTally_8 : decode cX11_judgedTally 8 = .ok (.goto 12, 3) := by decide +kernel
theorem dX11_judgedTally_11 : decode cX11_judgedTally 11 = .ok (.aload_n 0, 1) := by decide +kernel
theorem dX11_judgedTally_12 : decode cX11_judgedTally 12 = .ok (.getfield 112, 3) := by decide +kernel
theorem dX11_judgedTally_15 : decode cX11_judgedTally 15 = .ok (.getfield 147, 3) := by decide +kernel
theorem dX11_judgedTally_18 : decode cX11_judgedTally 18 = .ok (.iload_n 1, 1) := by decide +kernel
theorem dX11_judgedTally_19 : decode cX11_judgedTally 19 = .ok (.iaload, 1) := by decide +kernel
theorem dX11_judgedTally_20 : decode cX11_judgedTally 20 = .ok (.ireturn, 1) := by decide +kernel
def fX11_judgedTally_0  (h : PH) (x0 : Nat) (x1 : Int32) : Option (Int32) :=
  oC (decide (hT h x0 = 12)) (if (hR h 1416 x0) = none then (some (0)) else (oN (hR h 1416 x0) (fun a3 => oC (decide (hT h a3 = 6)) (oN (hR h 656 a3) (fun a5 => oC (decide (hT h a5 = 101)) (oC (ix x1 (hN h a5)) (some ((hA h a5 (Int32.toNatClampNeg x1))))))))))
set_option maxHeartbeats 4000000 in
theorem wfX11_judgedTally_0 {args : Array Value} (b : Bd p s m c cX11_judgedTally 2 RX11 D aC) (hlk : meth.locks = false) (hr : meth.sig.returnType = some .int) {Z : State → Prop} (zs : Z s) (zk : ZOK Z (Rg ad)) {rz : Int32} {h : PH} {x0 : Nat} {x1 : Int32}  {H : Heap} {locs : List Loc} {ls : Array Slot} (hf : fX11_judgedTally_0 h x0 x1 = some rz) (hE : CE (EX D aC ad h) (Rg ad) s H locs) (hl : lv_has ls 2 [(0, .ref (ad x0)), (1, .int x1)]) : W p l e (RM 0 0 0 0) s m args below meth c H locs 0 0 (MQ below (PQ (EX D aC ad h) (Rg ad) (some (.int rz))) args s 0 0 (Rg ad)) (F0 m 0 ls []) := by
  unfold fX11_judgedTally_0 at hf
  refine lv_aload_n b.1 b.2.1 dX11_judgedTally_0 rfl (lv_at hl 0 rfl) ?_
  obtain ⟨t1, hf⟩ := oC_s hf
  have t1 := of_decide_eq_true t1
  refine gX11_112 (x := (some x0)) b hE rfl t1 dX11_judgedTally_1 ?_
  refine k_ifnonnull (x := Option.map ad (hR h 1416 x0)) b dX11_judgedTally_4 (tgt := 11) (by decide) (fun c2 => ?_) (fun c2 => ?_)
  · have hf := oI_f (fun z => c2 (Option.map_eq_none_iff.mpr z)) hf
    refine lv_aload_n b.1 b.2.1 dX11_judgedTally_11 rfl (lv_at hl 0 rfl) ?_
    refine gX11_112 (x := (some x0)) b hE rfl t1 dX11_judgedTally_12 ?_
    obtain ⟨a3, ea3, hf⟩ := oN_s hf
    obtain ⟨t4, hf⟩ := oC_s hf
    have t4 := of_decide_eq_true t4
    refine gX11_147 (x := (hR h 1416 x0)) b hE ea3 t4 dX11_judgedTally_15 ?_
    refine lv_iload_n b.1 b.2.1 dX11_judgedTally_18 rfl (lv_at hl 1 rfl) ?_
    obtain ⟨a5, ea5, hf⟩ := oN_s hf
    obtain ⟨t6, hf⟩ := oC_s hf
    have t6 := of_decide_eq_true t6
    obtain ⟨g7, hf⟩ := oC_s hf
    refine q_iald (x := (hR h 656 a3)) b hE ea5 t6 g7 dX11_judgedTally_19 ?_
    cases hf
    exact k_iret b hlk hr hE (Nat.le_refl _) (Nat.le_refl _) dX11_judgedTally_20
  · have hf := oI_t (Option.map_eq_none_iff.mp c2) hf
    refine lv_iconst (v := 0) b.1 b.2.1 dX11_judgedTally_7 (by decide) ?_
    refine lv_goto (tgt := 20) b.1 b.2.1 dX11_judgedTally_8 (by decide) ?_
    cases hf
    exact k_iret b hlk hr hE (Nat.le_refl _) (Nat.le_refl _) dX11_judgedTally_20
def fX11_judgedTally (h : PH) (x0 : Nat) (x1 : Int32) : Option (Int32) := fX11_judgedTally_0 h x0 x1
set_option maxHeartbeats 4000000 in
theorem CX11_judgedTally (l : Launch) (D : va_G) (aC : Nat → ClassId) (ad : Nat → Nat) {Z : State → Prop} (zk : ZOK Z (Rg ad)) {h : PH} {x0 : Nat} {x1 : Int32} {rz : Int32} (hf : fX11_judgedTally h x0 x1 = some rz) : CM l D aC Z yX11_judgedTally cX11_judgedTally 2 (some .int) 0 0 0 0 (EX D aC ad h) [.ref (ad x0), .int x1] (EX D aC ad h) (some (.int rz)) (Rg ad) := by
  refine CM.of rfl ?_
  intro p e s m below meth c b hr hlk hin2 zs hE
  refine k_ent (Nat.le_of_ble_eq_true rfl) (fun ls hl => ?_)
  exact wfX11_judgedTally_0 b hlk hr zs zk hf hE (lv_sub hl [0, 1] rfl)
theorem dX11_count_0 : decode cX11_count 0 = .ok (.iload_n 1, 1) := by decide +kernel
theorem dX11_count_1 : decode cX11_count 1 = .ok (.tableswitch 172 0 12 #[67, 78, 89, 100, 111, 122, 130, 135, 140, 148, 154, 160, 166], 67) := by decide +kernel
theorem dX11_count_68 : decode cX11_count 68 = .ok (.aload_n 0, 1) := by decide +kernel
theorem dX11_count_69 : decode cX11_count 69 = .ok (.getfield 22, 3) := by decide +kernel
theorem dX11_count_72 : decode cX11_count 72 = .ok (.getfield 89, 3) := by decide +kernel
theorem dX11_count_75 : decode cX11_count 75 = .ok (.getfield 84, 3) := by decide +kernel
theorem dX11_count_78 : decode cX11_count 78 = .ok (.ireturn, 1) := by decide +kernel
theorem dX11_count_79 : decode cX11_count 79 = .ok (.aload_n 0, 1) := by decide +kernel
theorem dX11_count_80 : decode cX11_count 80 = .ok (.getfield 22, 3) := by decide +kernel
theorem dX11_count_83 : decode cX11_count 83 = .ok (.getfield 80, 3) := by decide +kernel
theorem dX11_count_86 : decode cX11_count 86 = .ok (.getfield 84, 3) := by decide +kernel
theorem dX11_count_89 : decode cX11_count 89 = .ok (.ireturn, 1) := by decide +kernel
theorem dX11_count_90 : decode cX11_count 90 = .ok (.aload_n 0, 1) := by decide +kernel
theorem dX11_count_91 : decode cX11_count 91 = .ok (.getfield 22, 3) := by decide +kernel
theorem dX11_count_94 : decode cX11_count 94 = .ok (.getfield 218, 3) := by decide +kernel
theorem dX11_count_97 : decode cX11_count 97 = .ok (.getfield 84, 3) := by decide +kernel
theorem dX11_count_100 : decode cX11_count 100 = .ok (.ireturn, 1) := by decide +kernel
theorem dX11_count_101 : decode cX11_count 101 = .ok (.aload_n 0, 1) := by decide +kernel
theorem dX11_count_102 : decode cX11_count 102 = .ok (.getfield 22, 3) := by decide +kernel
theorem dX11_count_105 : decode cX11_count 105 = .ok (.getfield 221, 3) := by decide +kernel
theorem dX11_count_108 : decode cX11_count 108 = .ok (.getfield 84, 3) := by decide +kernel
theorem dX11_count_111 : decode cX11_count 111 = .ok (.ireturn, 1) := by decide +kernel
theorem dX11_count_112 : decode cX11_count 112 = .ok (.aload_n 0, 1) := by decide +kernel
theorem dX11_count_113 : decode cX11_count 113 = .ok (.getfield 22, 3) := by decide +kernel
theorem dX11_count_116 : decode cX11_count 116 = .ok (.getfield 128, 3) := by decide +kernel
theorem dX11_count_119 : decode cX11_count 119 = .ok (.getfield 84, 3) := by decide +kernel
theorem dX11_count_122 : decode cX11_count 122 = .ok (.ireturn, 1) := by decide +kernel
theorem dX11_count_123 : decode cX11_count 123 = .ok (.aload_n 0, 1) := by decide +kernel
theorem dX11_count_124 : decode cX11_count 124 = .ok (.getfield 22, 3) := by decide +kernel
theorem dX11_count_127 : decode cX11_count 127 = .ok (.getfield 224, 3) := by decide +kernel
theorem dX11_count_130 : decode cX11_count 130 = .ok (.ireturn, 1) := by decide +kernel
theorem dX11_count_131 : decode cX11_count 131 = .ok (.aload_n 0, 1) := by decide +kernel
theorem dX11_count_132 : decode cX11_count 132 = .ok (.getfield 97, 3) := by decide +kernel
theorem dX11_count_135 : decode cX11_count 135 = .ok (.ireturn, 1) := by decide +kernel
theorem dX11_count_136 : decode cX11_count 136 = .ok (.aload_n 0, 1) := by decide +kernel
theorem dX11_count_137 : decode cX11_count 137 = .ok (.getfield 52, 3) := by decide +kernel
theorem dX11_count_140 : decode cX11_count 140 = .ok (.ireturn, 1) := by decide +kernel
theorem dX11_count_141 : decode cX11_count 141 = .ok (.aload_n 0, 1) := by decide +kernel
theorem dX11_count_142 : decode cX11_count 142 = .ok (.getfield 12, 3) := by decide +kernel
theorem dX11_count_145 : decode cX11_count 145 = .ok (.getfield 45, 3) := by decide +kernel
theorem dX11_count_148 : decode cX11_count 148 = .ok (.ireturn, 1) := by decide +kernel
theorem dX11_count_149 : decode cX11_count 149 = .ok (.aload_n 0, 1) := by decide +kernel
theorem dX11_count_150 : decode cX11_count 150 = .ok (.iconst 1, 1) := by decide +kernel
theorem dX11_count_151 : decode cX11_count 151 = .ok (.invokevirtual 227, 3) := by decide +kernel
theorem dX11_count_154 : decode cX11_count 154 = .ok (.ireturn, 1) := by decide +kernel
theorem dX11_count_155 : decode cX11_count 155 = .ok (.aload_n 0, 1) := by decide +kernel
theorem dX11_count_156 : decode cX11_count 156 = .ok (.iconst 0, 1) := by decide +kernel
theorem dX11_count_157 : decode cX11_count 157 = .ok (.invokevirtual 227, 3) := by decide +kernel
theorem dX11_count_160 : decode cX11_count 160 = .ok (.ireturn, 1) := by decide +kernel
theorem dX11_count_161 : decode cX11_count 161 = .ok (.aload_n 0, 1) := by decide +kernel
theorem dX11_count_162 : decode cX11_count 162 = .ok (.iconst 2, 1) := by decide +kernel
theorem dX11_count_163 : decode cX11_count 163 = .ok (.invokevirtual 227, 3) := by decide +kernel
theorem dX11_count_166 : decode cX11_count 166 = .ok (.ireturn, 1) := by decide +kernel
theorem dX11_count_167 : decode cX11_count 167 = .ok (.aload_n 0, 1) := by decide +kernel
theorem dX11_count_168 : decode cX11_count 168 = .ok (.iconst 3, 1) := by decide +kernel
theorem dX11_count_169 : decode cX11_count 169 = .ok (.invokevirtual 227, 3) := by decide +kernel
theorem dX11_count_172 : decode cX11_count 172 = .ok (.ireturn, 1) := by decide +kernel
theorem dX11_count_173 : decode cX11_count 173 = .ok (.iconst (-1), 1) := by decide +kernel
theorem dX11_count_174 : decode cX11_count 174 = .ok (.ireturn, 1) := by decide +kernel
def fX11_count_0  (h : PH) (x0 : Nat) (x1 : Int32) : Option (Int32) :=
  if x1 = 0 then (oC (decide (hT h x0 = 12)) (oN (hR h 1410 x0) (fun a3 => oC (decide (hT h a3 = 2)) (oN (hR h 128 a3) (fun a5 => oC (decide (hT h a5 = 8)) (some ((hI h 897 a5)))))))) else (if x1 = 1 then (oC (decide (hT h x0 = 12)) (oN (hR h 1410 x0) (fun a9 => oC (decide (hT h a9 = 2)) (oN (hR h 129 a9) (fun a11 => oC (decide (hT h a11 = 8)) (some ((hI h 897 a11)))))))) else (if x1 = 2 then (oC (decide (hT h x0 = 12)) (oN (hR h 1410 x0) (fun a15 => oC (decide (hT h a15 = 2)) (oN (hR h 130 a15) (fun a17 => oC (decide (hT h a17 = 8)) (some ((hI h 897 a17)))))))) else (if x1 = 3 then (oC (decide (hT h x0 = 12)) (oN (hR h 1410 x0) (fun a21 => oC (decide (hT h a21 = 2)) (oN (hR h 131 a21) (fun a23 => oC (decide (hT h a23 = 8)) (some ((hI h 897 a23)))))))) else (if x1 = 4 then (oC (decide (hT h x0 = 12)) (oN (hR h 1410 x0) (fun a27 => oC (decide (hT h a27 = 2)) (oN (hR h 132 a27) (fun a29 => oC (decide (hT h a29 = 8)) (some ((hI h 897 a29)))))))) else (if x1 = 5 then (oC (decide (hT h x0 = 12)) (oN (hR h 1410 x0) (fun a33 => oC (decide (hT h a33 = 2)) (some ((hI h 139 a33)))))) else (if x1 = 6 then (oC (decide (hT h x0 = 12)) (some ((hI h 1413 x0)))) else (if x1 = 7 then (oC (decide (hT h x0 = 12)) (some ((hI h 1414 x0)))) else (if x1 = 8 then (oC (decide (hT h x0 = 12)) (oN (hR h 1408 x0) (fun a41 => oC (decide (hT h a41 = 1)) (some ((hI h 1 a41)))))) else (if x1 = 9 then (oC (decide (hT h x0 = 12)) (oB (fX11_judgedTally h x0 1) (fun r46 => some (r46)))) else (if x1 = 10 then (oC (decide (hT h x0 = 12)) (oB (fX11_judgedTally h x0 0) (fun r50 => some (r50)))) else (if x1 = 11 then (oC (decide (hT h x0 = 12)) (oB (fX11_judgedTally h x0 2) (fun r54 => some (r54)))) else (if x1 = 12 then (oC (decide (hT h x0 = 12)) (oB (fX11_judgedTally h x0 3) (fun r58 => some (r58)))) else (some ((-1)))))))))))))))
set_option maxHeartbeats 4000000 in
theorem wfX11_count_0 {args : Array Value} (b : Bd p s m c cX11_count 2 RX11 D aC) (hlk : meth.locks = false) (hr : meth.sig.returnType = some .int) {Z : State → Prop} (zs : Z s) (zk : ZOK Z (Rg ad)) {rz : Int32} {h : PH} {x0 : Nat} {x1 : Int32}  {H : Heap} {locs : List Loc} {ls : Array Slot} (hf : fX11_count_0 h x0 x1 = some rz) (hE : CE (EX D aC ad h) (Rg ad) s H locs) (hl : lv_has ls 2 [(0, .ref (ad x0)), (1, .int x1)]) : W p l e (RM 1 21 0 0) s m args below meth c H locs 0 0 (MQ below (PQ (EX D aC ad h) (Rg ad) (some (.int rz))) args s 0 0 (Rg ad)) (F0 m 0 ls []) := by
  unfold fX11_count_0 at hf
  refine lv_iload_n b.1 b.2.1 dX11_count_0 rfl (lv_at hl 1 rfl) ?_
  rcases Decidable.em (x1 = 0) with c1 | c1
  · have hf := oI_t c1 hf
    refine lv_tableIn (tgt := 68) b.1 b.2.1 dX11_count_1 (off := 67) (by rw [c1]; decide) (by rw [c1]; decide) (by rw [c1] <;> rfl) (by decide) ?_
    refine lv_aload_n b.1 b.2.1 dX11_count_68 rfl (lv_at hl 0 rfl) ?_
    obtain ⟨t2, hf⟩ := oC_s hf
    have t2 := of_decide_eq_true t2
    refine gX11_22 (x := (some x0)) b hE rfl t2 dX11_count_69 ?_
    obtain ⟨a3, ea3, hf⟩ := oN_s hf
    obtain ⟨t4, hf⟩ := oC_s hf
    have t4 := of_decide_eq_true t4
    refine gX11_89 (x := (hR h 1410 x0)) b hE ea3 t4 dX11_count_72 ?_
    obtain ⟨a5, ea5, hf⟩ := oN_s hf
    obtain ⟨t6, hf⟩ := oC_s hf
    have t6 := of_decide_eq_true t6
    refine gX11_84 (x := (hR h 128 a3)) b hE ea5 t6 dX11_count_75 ?_
    cases hf
    exact k_iret b hlk hr hE (Nat.le_refl _) (Nat.le_refl _) dX11_count_78
  have hf := oI_f c1 hf
  rcases Decidable.em (x1 = 1) with c7 | c7
  · have hf := oI_t c7 hf
    refine lv_tableIn (tgt := 79) b.1 b.2.1 dX11_count_1 (off := 78) (by rw [c7]; decide) (by rw [c7]; decide) (by rw [c7] <;> rfl) (by decide) ?_
    refine lv_aload_n b.1 b.2.1 dX11_count_79 rfl (lv_at hl 0 rfl) ?_
    obtain ⟨t8, hf⟩ := oC_s hf
    have t8 := of_decide_eq_true t8
    refine gX11_22 (x := (some x0)) b hE rfl t8 dX11_count_80 ?_
    obtain ⟨a9, ea9, hf⟩ := oN_s hf
    obtain ⟨t10, hf⟩ := oC_s hf
    have t10 := of_decide_eq_true t10
    refine gX11_80 (x := (hR h 1410 x0)) b hE ea9 t10 dX11_count_83 ?_
    obtain ⟨a11, ea11, hf⟩ := oN_s hf
    obtain ⟨t12, hf⟩ := oC_s hf
    have t12 := of_decide_eq_true t12
    refine gX11_84 (x := (hR h 129 a9)) b hE ea11 t12 dX11_count_86 ?_
    cases hf
    exact k_iret b hlk hr hE (Nat.le_refl _) (Nat.le_refl _) dX11_count_89
  have hf := oI_f c7 hf
  rcases Decidable.em (x1 = 2) with c13 | c13
  · have hf := oI_t c13 hf
    refine lv_tableIn (tgt := 90) b.1 b.2.1 dX11_count_1 (off := 89) (by rw [c13]; decide) (by rw [c13]; decide) (by rw [c13] <;> rfl) (by decide) ?_
    refine lv_aload_n b.1 b.2.1 dX11_count_90 rfl (lv_at hl 0 rfl) ?_
    obtain ⟨t14, hf⟩ := oC_s hf
    have t14 := of_decide_eq_true t14
    refine gX11_22 (x := (some x0)) b hE rfl t14 dX11_count_91 ?_
    obtain ⟨a15, ea15, hf⟩ := oN_s hf
    obtain ⟨t16, hf⟩ := oC_s hf
    have t16 := of_decide_eq_true t16
    refine gX11_218 (x := (hR h 1410 x0)) b hE ea15 t16 dX11_count_94 ?_
    obtain ⟨a17, ea17, hf⟩ := oN_s hf
    obtain ⟨t18, hf⟩ := oC_s hf
    have t18 := of_decide_eq_true t18
    refine gX11_84 (x := (hR h 130 a15)) b hE ea17 t18 dX11_count_97 ?_
    cases hf
    exact k_iret b hlk hr hE (Nat.le_refl _) (Nat.le_refl _) dX11_count_100
  have hf := oI_f c13 hf
  rcases Decidable.em (x1 = 3) with c19 | c19
  · have hf := oI_t c19 hf
    refine lv_tableIn (tgt := 101) b.1 b.2.1 dX11_count_1 (off := 100) (by rw [c19]; decide) (by rw [c19]; decide) (by rw [c19] <;> rfl) (by decide) ?_
    refine lv_aload_n b.1 b.2.1 dX11_count_101 rfl (lv_at hl 0 rfl) ?_
    obtain ⟨t20, hf⟩ := oC_s hf
    have t20 := of_decide_eq_true t20
    refine gX11_22 (x := (some x0)) b hE rfl t20 dX11_count_102 ?_
    obtain ⟨a21, ea21, hf⟩ := oN_s hf
    obtain ⟨t22, hf⟩ := oC_s hf
    have t22 := of_decide_eq_true t22
    refine gX11_221 (x := (hR h 1410 x0)) b hE ea21 t22 dX11_count_105 ?_
    obtain ⟨a23, ea23, hf⟩ := oN_s hf
    obtain ⟨t24, hf⟩ := oC_s hf
    have t24 := of_decide_eq_true t24
    refine gX11_84 (x := (hR h 131 a21)) b hE ea23 t24 dX11_count_108 ?_
    cases hf
    exact k_iret b hlk hr hE (Nat.le_refl _) (Nat.le_refl _) dX11_count_111
  have hf := oI_f c19 hf
  rcases Decidable.em (x1 = 4) with c25 | c25
  · have hf := oI_t c25 hf
    refine lv_tableIn (tgt := 112) b.1 b.2.1 dX11_count_1 (off := 111) (by rw [c25]; decide) (by rw [c25]; decide) (by rw [c25] <;> rfl) (by decide) ?_
    refine lv_aload_n b.1 b.2.1 dX11_count_112 rfl (lv_at hl 0 rfl) ?_
    obtain ⟨t26, hf⟩ := oC_s hf
    have t26 := of_decide_eq_true t26
    refine gX11_22 (x := (some x0)) b hE rfl t26 dX11_count_113 ?_
    obtain ⟨a27, ea27, hf⟩ := oN_s hf
    obtain ⟨t28, hf⟩ := oC_s hf
    have t28 := of_decide_eq_true t28
    refine gX11_128 (x := (hR h 1410 x0)) b hE ea27 t28 dX11_count_116 ?_
    obtain ⟨a29, ea29, hf⟩ := oN_s hf
    obtain ⟨t30, hf⟩ := oC_s hf
    have t30 := of_decide_eq_true t30
    refine gX11_84 (x := (hR h 132 a27)) b hE ea29 t30 dX11_count_119 ?_
    cases hf
    exact k_iret b hlk hr hE (Nat.le_refl _) (Nat.le_refl _) dX11_count_122
  have hf := oI_f c25 hf
  rcases Decidable.em (x1 = 5) with c31 | c31
  · have hf := oI_t c31 hf
    refine lv_tableIn (tgt := 123) b.1 b.2.1 dX11_count_1 (off := 122) (by rw [c31]; decide) (by rw [c31]; decide) (by rw [c31] <;> rfl) (by decide) ?_
    refine lv_aload_n b.1 b.2.1 dX11_count_123 rfl (lv_at hl 0 rfl) ?_
    obtain ⟨t32, hf⟩ := oC_s hf
    have t32 := of_decide_eq_true t32
    refine gX11_22 (x := (some x0)) b hE rfl t32 dX11_count_124 ?_
    obtain ⟨a33, ea33, hf⟩ := oN_s hf
    obtain ⟨t34, hf⟩ := oC_s hf
    have t34 := of_decide_eq_true t34
    refine gX11_224 (x := (hR h 1410 x0)) b hE ea33 t34 dX11_count_127 ?_
    cases hf
    exact k_iret b hlk hr hE (Nat.le_refl _) (Nat.le_refl _) dX11_count_130
  have hf := oI_f c31 hf
  rcases Decidable.em (x1 = 6) with c35 | c35
  · have hf := oI_t c35 hf
    refine lv_tableIn (tgt := 131) b.1 b.2.1 dX11_count_1 (off := 130) (by rw [c35]; decide) (by rw [c35]; decide) (by rw [c35] <;> rfl) (by decide) ?_
    refine lv_aload_n b.1 b.2.1 dX11_count_131 rfl (lv_at hl 0 rfl) ?_
    obtain ⟨t36, hf⟩ := oC_s hf
    have t36 := of_decide_eq_true t36
    refine gX11_97 (x := (some x0)) b hE rfl t36 dX11_count_132 ?_
    cases hf
    exact k_iret b hlk hr hE (Nat.le_refl _) (Nat.le_refl _) dX11_count_135
  have hf := oI_f c35 hf
  rcases Decidable.em (x1 = 7) with c37 | c37
  · have hf := oI_t c37 hf
    refine lv_tableIn (tgt := 136) b.1 b.2.1 dX11_count_1 (off := 135) (by rw [c37]; decide) (by rw [c37]; decide) (by rw [c37] <;> rfl) (by decide) ?_
    refine lv_aload_n b.1 b.2.1 dX11_count_136 rfl (lv_at hl 0 rfl) ?_
    obtain ⟨t38, hf⟩ := oC_s hf
    have t38 := of_decide_eq_true t38
    refine gX11_52 (x := (some x0)) b hE rfl t38 dX11_count_137 ?_
    cases hf
    exact k_iret b hlk hr hE (Nat.le_refl _) (Nat.le_refl _) dX11_count_140
  have hf := oI_f c37 hf
  rcases Decidable.em (x1 = 8) with c39 | c39
  · have hf := oI_t c39 hf
    refine lv_tableIn (tgt := 141) b.1 b.2.1 dX11_count_1 (off := 140) (by rw [c39]; decide) (by rw [c39]; decide) (by rw [c39] <;> rfl) (by decide) ?_
    refine lv_aload_n b.1 b.2.1 dX11_count_141 rfl (lv_at hl 0 rfl) ?_
    obtain ⟨t40, hf⟩ := oC_s hf
    have t40 := of_decide_eq_true t40
    refine gX11_12 (x := (some x0)) b hE rfl t40 dX11_count_142 ?_
    obtain ⟨a41, ea41, hf⟩ := oN_s hf
    obtain ⟨t42, hf⟩ := oC_s hf
    have t42 := of_decide_eq_true t42
    refine gX11_45 (x := (hR h 1408 x0)) b hE ea41 t42 dX11_count_145 ?_
    cases hf
    exact k_iret b hlk hr hE (Nat.le_refl _) (Nat.le_refl _) dX11_count_148
  have hf := oI_f c39 hf
  rcases Decidable.em (x1 = 9) with c43 | c43
  · have hf := oI_t c43 hf
    refine lv_tableIn (tgt := 149) b.1 b.2.1 dX11_count_1 (off := 148) (by rw [c43]; decide) (by rw [c43]; decide) (by rw [c43] <;> rfl) (by decide) ?_
    refine lv_aload_n b.1 b.2.1 dX11_count_149 rfl (lv_at hl 0 rfl) ?_
    refine lv_iconst (v := 1) b.1 b.2.1 dX11_count_150 (by decide) ?_
    obtain ⟨t44, hf⟩ := oC_s hf
    have t44 := of_decide_eq_true t44
    obtain ⟨r46, hc45, hf⟩ := oB_s hf
    refine k_callV0 (C := RX11) b zs zk hE (CX11_judgedTally l D aC ad zk hc45) mc_X11_judgedTally (in5 184 rfl rfl) mi_X11_judgedTally ms_X11_judgedTally ini_RX11 ok_X11_judgedTally (x_recv b hE (ci := 11) rfl (by decide) t44) ⟨Nat.le_of_ble_eq_true rfl, Nat.le_of_ble_eq_true rfl⟩ rfl hl.1 rfl (k_room _ (by exact Nat.le_of_ble_eq_true rfl)) ⟨Nat.le_refl _, Nat.le_refl _⟩ dX11_count_151 (fun H locs hE => ?_)
    cases hf
    exact k_iret b hlk hr hE (Nat.le_refl _) (Nat.le_refl _) dX11_count_154
  have hf := oI_f c43 hf
  rcases Decidable.em (x1 = 10) with c47 | c47
  · have hf := oI_t c47 hf
    refine lv_tableIn (tgt := 155) b.1 b.2.1 dX11_count_1 (off := 154) (by rw [c47]; decide) (by rw [c47]; decide) (by rw [c47] <;> rfl) (by decide) ?_
    refine lv_aload_n b.1 b.2.1 dX11_count_155 rfl (lv_at hl 0 rfl) ?_
    refine lv_iconst (v := 0) b.1 b.2.1 dX11_count_156 (by decide) ?_
    obtain ⟨t48, hf⟩ := oC_s hf
    have t48 := of_decide_eq_true t48
    obtain ⟨r50, hc49, hf⟩ := oB_s hf
    refine k_callV0 (C := RX11) b zs zk hE (CX11_judgedTally l D aC ad zk hc49) mc_X11_judgedTally (in5 184 rfl rfl) mi_X11_judgedTally ms_X11_judgedTally ini_RX11 ok_X11_judgedTally (x_recv b hE (ci := 11) rfl (by decide) t48) ⟨Nat.le_of_ble_eq_true rfl, Nat.le_of_ble_eq_true rfl⟩ rfl hl.1 rfl (k_room _ (by exact Nat.le_of_ble_eq_true rfl)) ⟨Nat.le_refl _, Nat.le_refl _⟩ dX11_count_157 (fun H locs hE => ?_)
    cases hf
    exact k_iret b hlk hr hE (Nat.le_refl _) (Nat.le_refl _) dX11_count_160
  have hf := oI_f c47 hf
  rcases Decidable.em (x1 = 11) with c51 | c51
  · have hf := oI_t c51 hf
    refine lv_tableIn (tgt := 161) b.1 b.2.1 dX11_count_1 (off := 160) (by rw [c51]; decide) (by rw [c51]; decide) (by rw [c51] <;> rfl) (by decide) ?_
    refine lv_aload_n b.1 b.2.1 dX11_count_161 rfl (lv_at hl 0 rfl) ?_
    refine lv_iconst (v := 2) b.1 b.2.1 dX11_count_162 (by decide) ?_
    obtain ⟨t52, hf⟩ := oC_s hf
    have t52 := of_decide_eq_true t52
    obtain ⟨r54, hc53, hf⟩ := oB_s hf
    refine k_callV0 (C := RX11) b zs zk hE (CX11_judgedTally l D aC ad zk hc53) mc_X11_judgedTally (in5 184 rfl rfl) mi_X11_judgedTally ms_X11_judgedTally ini_RX11 ok_X11_judgedTally (x_recv b hE (ci := 11) rfl (by decide) t52) ⟨Nat.le_of_ble_eq_true rfl, Nat.le_of_ble_eq_true rfl⟩ rfl hl.1 rfl (k_room _ (by exact Nat.le_of_ble_eq_true rfl)) ⟨Nat.le_refl _, Nat.le_refl _⟩ dX11_count_163 (fun H locs hE => ?_)
    cases hf
    exact k_iret b hlk hr hE (Nat.le_refl _) (Nat.le_refl _) dX11_count_166
  have hf := oI_f c51 hf
  rcases Decidable.em (x1 = 12) with c55 | c55
  · have hf := oI_t c55 hf
    refine lv_tableIn (tgt := 167) b.1 b.2.1 dX11_count_1 (off := 166) (by rw [c55]; decide) (by rw [c55]; decide) (by rw [c55] <;> rfl) (by decide) ?_
    refine lv_aload_n b.1 b.2.1 dX11_count_167 rfl (lv_at hl 0 rfl) ?_
    refine lv_iconst (v := 3) b.1 b.2.1 dX11_count_168 (by decide) ?_
    obtain ⟨t56, hf⟩ := oC_s hf
    have t56 := of_decide_eq_true t56
    obtain ⟨r58, hc57, hf⟩ := oB_s hf
    refine k_callV0 (C := RX11) b zs zk hE (CX11_judgedTally l D aC ad zk hc57) mc_X11_judgedTally (in5 184 rfl rfl) mi_X11_judgedTally ms_X11_judgedTally ini_RX11 ok_X11_judgedTally (x_recv b hE (ci := 11) rfl (by decide) t56) ⟨Nat.le_of_ble_eq_true rfl, Nat.le_of_ble_eq_true rfl⟩ rfl hl.1 rfl (k_room _ (by exact Nat.le_of_ble_eq_true rfl)) ⟨Nat.le_refl _, Nat.le_refl _⟩ dX11_count_169 (fun H locs hE => ?_)
    cases hf
    exact k_iret b hlk hr hE (Nat.le_refl _) (Nat.le_refl _) dX11_count_172
  have hf := oI_f c55 hf
  have c1 := lv_neT (a := 0) c1 (by decide)
  have c7 := lv_neT (a := 1) c7 (by decide)
  have c13 := lv_neT (a := 2) c13 (by decide)
  have c19 := lv_neT (a := 3) c19 (by decide)
  have c25 := lv_neT (a := 4) c25 (by decide)
  have c31 := lv_neT (a := 5) c31 (by decide)
  have c35 := lv_neT (a := 6) c35 (by decide)
  have c37 := lv_neT (a := 7) c37 (by decide)
  have c39 := lv_neT (a := 8) c39 (by decide)
  have c43 := lv_neT (a := 9) c43 (by decide)
  have c47 := lv_neT (a := 10) c47 (by decide)
  have c51 := lv_neT (a := 11) c51 (by decide)
  have c55 := lv_neT (a := 12) c55 (by decide)
  refine lv_tableOut (tgt := 173) b.1 b.2.1 dX11_count_1 (by omega) (by decide) ?_
  refine lv_iconst (v := (-1)) b.1 b.2.1 dX11_count_173 (by decide) ?_
  cases hf
  exact k_iret b hlk hr hE (Nat.le_refl _) (Nat.le_refl _) dX11_count_174
def fX11_count (h : PH) (x0 : Nat) (x1 : Int32) : Option (Int32) := fX11_count_0 h x0 x1
set_option maxHeartbeats 4000000 in
theorem CX11_count (l : Launch) (D : va_G) (aC : Nat → ClassId) (ad : Nat → Nat) {Z : State → Prop} (zk : ZOK Z (Rg ad)) {h : PH} {x0 : Nat} {x1 : Int32} {rz : Int32} (hf : fX11_count h x0 x1 = some rz) : CM l D aC Z yX11_count cX11_count 2 (some .int) 1 21 0 0 (EX D aC ad h) [.ref (ad x0), .int x1] (EX D aC ad h) (some (.int rz)) (Rg ad) := by
  refine CM.of rfl ?_
  intro p e s m below meth c b hr hlk hin2 zs hE
  refine k_ent (Nat.le_of_ble_eq_true rfl) (fun ls hl => ?_)
  exact wfX11_count_0 b hlk hr zs zk hf hE (lv_sub hl [0, 1] rfl)
theorem dX11_isDay_0 : decode cX11_isDay 0 = .ok (.iload_n 0, 1) := by decide +kernel
theorem dX11_isDay_1 : decode cX11_isDay 1 = .ok (.ifCond .lt 13, 3) := by decide +kernel
theorem dX11_isDay_4 : decode cX11_isDay 4 = .ok (.iload_n 0, 1) := by decide +kernel
theorem dX11_isDay_5 : decode cX11_isDay 5 = .ok (.ldc 79, 2) := by decide +kernel
theorem dX11_isDay_7 : decode cX11_isDay 7 = .ok (.if_icmp .gt 7, 3) := by decide +kernel
theorem dX11_isDay_10 : decode cX11_isDay 10 = .ok (.iconst 1, 1) := by decide +kernel
theorem dX11_isDay_11 : decode cX11_isDay 11 = .ok (.goto 4, 3) := by decide +kernel
theorem dX11_isDay_14 : decode cX11_isDay 14 = .ok (.iconst 0, 1) := by decide +kernel
theorem dX11_isDay_15 : decode cX11_isDay 15 = .ok (.ireturn, 1) := by decide +kernel
def fX11_isDay_0  (x0 : Int32) : Option (Int32) :=
  if x0 < 0 then (some (0)) else (if 999999 < x0 then (some (0)) else (some (1)))
set_option maxHeartbeats 4000000 in
theorem wfX11_isDay_0 {E : Heap → Prop} {A : Nat → Prop} {args : Array Value} (b : Bd p s m c cX11_isDay 1 RX11 D aC) (hlk : meth.locks = false) (hr : meth.sig.returnType = some .boolean) {Z : State → Prop} (zs : Z s) (zk : ZOK Z A) {rz : Int32} {x0 : Int32}  {H : Heap} {locs : List Loc} {ls : Array Slot} (hf : fX11_isDay_0 x0 = some rz) (hE : CE E A s H locs) (hl : lv_has ls 1 [(0, .int x0)]) : W p l e (RM 0 0 0 0) s m args below meth c H locs 0 0 (MQ below (PQ E A (some (.int rz))) args s 0 0 A) (F0 m 0 ls []) := by
  unfold fX11_isDay_0 at hf
  refine lv_iload_n b.1 b.2.1 dX11_isDay_0 rfl (lv_at hl 0 rfl) ?_
  refine lv_if_lt (tgt := 14) b.1 b.2.1 dX11_isDay_1 (by decide) (fun c1 => ?_) (fun c1 => ?_)
  · have hf := oI_t c1 hf
    refine lv_iconst (v := 0) b.1 b.2.1 dX11_isDay_14 (by decide) ?_
    cases hf
    exact k_zret b hlk hr (by decide) hE (Nat.le_refl _) (Nat.le_refl _) dX11_isDay_15
  · have hf := oI_f c1 hf
    refine lv_iload_n b.1 b.2.1 dX11_isDay_4 rfl (lv_at hl 0 rfl) ?_
    refine k_ldc (v := 999999) b (in3 203 rfl rfl) dX11_isDay_5 ?_
    refine lv_icmp_gt (tgt := 14) b.1 b.2.1 dX11_isDay_7 (by decide) (fun c2 => ?_) (fun c2 => ?_)
    · have hf := oI_t c2 hf
      refine lv_iconst (v := 0) b.1 b.2.1 dX11_isDay_14 (by decide) ?_
      cases hf
      exact k_zret b hlk hr (by decide) hE (Nat.le_refl _) (Nat.le_refl _) dX11_isDay_15
    · have hf := oI_f c2 hf
      refine lv_iconst (v := 1) b.1 b.2.1 dX11_isDay_10 (by decide) ?_
      refine lv_goto (tgt := 15) b.1 b.2.1 dX11_isDay_11 (by decide) ?_
      cases hf
      exact k_zret b hlk hr (by decide) hE (Nat.le_refl _) (Nat.le_refl _) dX11_isDay_15
def fX11_isDay (x0 : Int32) : Option (Int32) := fX11_isDay_0 x0
set_option maxHeartbeats 4000000 in
theorem CX11_isDay (l : Launch) (D : va_G) (aC : Nat → ClassId) {E : Heap → Prop} {A : Nat → Prop} {Z : State → Prop} (zk : ZOK Z A) {x0 : Int32} {rz : Int32} (hf : fX11_isDay x0 = some rz) : CM l D aC Z yX11_isDay cX11_isDay 1 (some .boolean) 0 0 0 0 E [.int x0] E (some (.int rz)) A := by
  refine CM.of rfl ?_
  intro p e s m below meth c b hr hlk hin2 zs hE
  refine k_ent (Nat.le_of_ble_eq_true rfl) (fun ls hl => ?_)
  exact wfX11_isDay_0 b hlk hr zs zk hf hE (lv_sub hl [0] rfl)
end
