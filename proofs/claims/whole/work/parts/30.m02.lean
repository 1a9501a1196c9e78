section
variable {p : Program} {l : Launch} {e : Env} {s : State} {m : MethodId} {below : List Frame} {meth : Method} {c : Code} {D : va_G} {aC : Nat → ClassId} {ad : Nat → Nat}
theorem dX12_find_0 : decode cX12_find 0 = .ok (.iconst 0, 1) := by decide +kernel
theorem dX12_find_1 : decode cX12_find 1 = .ok (.istore 4, 2) := by decide +kernel
theorem dX12_find_3 : decode cX12_find 3 = .ok (.iload 4, 2) := by decide +kernel
theorem dX12_find_5 : decode cX12_find 5 = .ok (.iload_n 1, 1) := by decide +kernel
theorem dX12_find_6 : decode cX12_find 6 = .ok (.if_icmp .ge 21, 3) := by decide +kernel
theorem dX12_find_9 : decode cX12_find 9 = .ok (.aload_n 0, 1) := by decide +kernel
theorem dX12_find_10 : decode cX12_find 10 = .ok (.iload 4, 2) := by decide +kernel
theorem dX12_find_12 : decode cX12_find 12 = .ok (.laload, 1) := by decide +kernel
theorem dX12_find_13 : decode cX12_find 13 = .ok (.lload_n 2, 1) := by decide +kernel
theorem dX12_find_14 : decode cX12_find 14 = .ok (.lcmp, 1) := by decide +kernel
theorem dX12_find_15 : decode cX12_find 15 = .ok (.ifCond .ne 6, 3) := by decide +kernel
theorem dX12_find_18 : decode cX12_find 18 = .ok (.iload 4, 2) := by decide +kernel
theorem dX12_find_20 : decode cX12_find 20 = .ok (.ireturn, 1) := by decide +kernel
theorem dX12_find_21 : decode cX12_find 21 = .ok (.iinc 4 1, 3) := by decide +kernel
theorem dX12_find_24 : decode cX12_find 24 = .ok (.goto (-21), 3) := by decide +kernel
theorem dX12_find_27 : decode cX12_find 27 = .ok (.iconst (-1), 1) := by decide +kernel
theorem dX12_find_28 : decode cX12_find 28 = .ok (.ireturn, 1) := by decide +kernel
def fX12_find_3F (x0 : Nat) (k3 : MS → Int32 → Int64 → Int32 → Option (Int32)) (h : MS) (x1 : Int32) (x2 : Int64) (x4 : Int32) : Option (Int32) :=
  if x1 ≤ x4 then (some ((-1))) else (oC (ix x4 (mlen x0)) (if (lg_cmp (mB h x0 (Int32.toNatClampNeg x4)) x2) = 0 then (some (x4)) else (oL (x4 + 1) (fun y4 => k3 h x1 x2 y4))))
set_option maxHeartbeats 4000000 in
theorem wfX12_find_3F {args : Array Value} (b : Bd p s m c cX12_find 5 RX12 D aC) (hlk : meth.locks = false) (hr : meth.sig.returnType = some .int) {Z : State → Prop} (zs : Z s) (zk : ZOK Z (Rg ad)) {x0 : Nat} (hka_x0 : mk x0 = 2 ∧ mak x0 = 2) {rz : Int32} {k3 : MS → Int32 → Int64 → Int32 → Option (Int32)} (H3 : ∀ (h : MS) (x1 : Int32) (x2 : Int64) (x4 : Int32), ∀ (H : Heap) (locs : List Loc) (ls : Array Slot), k3 h x1 x2 x4 = some rz → CE (EM D aC ad h) (Rg ad) s H locs → lv_has ls 5 [(0, .ref (ad x0)), (1, .int x1), (2, .long x2), (4, .int x4)] → W p l e (RM 0 0 0 0) s m args below meth c H locs 0 0 (MQ below (PQ (EM D aC ad h) (Rg ad) (some (.int rz))) args s 0 0 (Rg ad)) (F0 m 3 ls [])) {h : MS} {x1 : Int32} {x2 : Int64} {x4 : Int32}  {H : Heap} {locs : List Loc} {ls : Array Slot} (hf : fX12_find_3F x0 k3 h x1 x2 x4 = some rz) (hE : CE (EM D aC ad h) (Rg ad) s H locs) (hl : lv_has ls 5 [(0, .ref (ad x0)), (1, .int x1), (2, .long x2), (4, .int x4)]) : W p l e (RM 0 0 0 0) s m args below meth c H locs 0 0 (MQ below (PQ (EM D aC ad h) (Rg ad) (some (.int rz))) args s 0 0 (Rg ad)) (F0 m 3 ls []) := by
  unfold fX12_find_3F at hf
  refine lv_iload b.1 b.2.1 dX12_find_3 (lv_at hl 3 rfl) ?_
  refine lv_iload_n b.1 b.2.1 dX12_find_5 rfl (lv_at hl 1 rfl) ?_
  refine lv_icmp_ge (tgt := 27) b.1 b.2.1 dX12_find_6 (by decide) (fun c1 => ?_) (fun c1 => ?_)
  · have hf := oI_t c1 hf
    refine lv_iconst (v := (-1)) b.1 b.2.1 dX12_find_27 (by decide) ?_
    cases hf
    exact k_iret b hlk hr hE (Nat.le_refl _) (Nat.le_refl _) dX12_find_28
  · have hf := oI_f c1 hf
    refine lv_aload_n b.1 b.2.1 dX12_find_9 rfl (lv_at hl 0 rfl) ?_
    refine lv_iload b.1 b.2.1 dX12_find_10 (lv_at hl 3 rfl) ?_
    obtain ⟨g2, hf⟩ := oC_s hf
    refine m_lald b hE hka_x0.1 hka_x0.2 g2 dX12_find_12 ?_
    refine lv_lload_n b.1 b.2.1 dX12_find_13 rfl (lv_at hl 2 rfl) ?_
    refine W.lcmp b.1 b.2.1 dX12_find_14 ?_
    refine lv_if_ne (tgt := 21) b.1 b.2.1 dX12_find_15 (by decide) (fun c3 => ?_) (fun c3 => ?_)
    · have hf := oI_f c3 hf
      obtain ⟨y4, ey4, hf⟩ := oL_s hf
      refine lv_iinc (v := y4) (lv' := [(4, .int y4), (0, .ref (ad x0)), (1, .int x1), (2, .long x2)]) b.1 b.2.1 dX12_find_21 hl (k := 3) rfl (by rw [ey4]; rfl) (by decide) rfl (fun ls hl => ?_)
      refine lv_goto (tgt := 3) b.1 b.2.1 dX12_find_24 (by decide) ?_
      exact H3 h x1 x2 y4 _ _ _ hf hE (lv_sub hl [1, 2, 3, 0] rfl)
    · have hf := oI_t c3 hf
      refine lv_iload b.1 b.2.1 dX12_find_18 (lv_at hl 3 rfl) ?_
      cases hf
      exact k_iret b hlk hr hE (Nat.le_refl _) (Nat.le_refl _) dX12_find_20
def fX12_find_3 (x0 : Nat)  : Nat → MS → Int32 → Int64 → Int32 → Option (Int32)
  | 0 => fun _ _ _ _ => none
  | n + 1 => fX12_find_3F x0  (fX12_find_3 x0  n)
set_option maxHeartbeats 4000000 in
theorem wfX12_find_3 {args : Array Value} (b : Bd p s m c cX12_find 5 RX12 D aC) (hlk : meth.locks = false) (hr : meth.sig.returnType = some .int) {Z : State → Prop} (zs : Z s) (zk : ZOK Z (Rg ad)) {x0 : Nat} (hka_x0 : mk x0 = 2 ∧ mak x0 = 2) {rz : Int32} : ∀ n : Nat, ∀ (h : MS) (x1 : Int32) (x2 : Int64) (x4 : Int32), ∀ (H : Heap) (locs : List Loc) (ls : Array Slot), fX12_find_3 x0  n h x1 x2 x4 = some rz → CE (EM D aC ad h) (Rg ad) s H locs → lv_has ls 5 [(0, .ref (ad x0)), (1, .int x1), (2, .long x2), (4, .int x4)] → W p l e (RM 0 0 0 0) s m args below meth c H locs 0 0 (MQ below (PQ (EM D aC ad h) (Rg ad) (some (.int rz))) args s 0 0 (Rg ad)) (F0 m 3 ls []) := by
  intro n
  induction n with
  | zero =>
    intro h x1 x2 x4 H locs ls hf
    have hf : (none : Option (Int32)) = some _ := hf
    cases hf
  | succ n ih =>
    intro h x1 x2 x4 H locs ls hf hE hl
    exact wfX12_find_3F b hlk hr zs zk hka_x0  ih hf hE hl
def fX12_find_0 (x0 : Nat)  (h : MS) (x1 : Int32) (x2 : Int64) : Option (Int32) :=
  fX12_find_3 x0  FU h x1 x2 0
set_option maxHeartbeats 4000000 in
theorem wfX12_find_0 {args : Array Value} (b : Bd p s m c cX12_find 5 RX12 D aC) (hlk : meth.locks = false) (hr : meth.sig.returnType = some .int) {Z : State → Prop} (zs : Z s) (zk : ZOK Z (Rg ad)) {x0 : Nat} (hka_x0 : mk x0 = 2 ∧ mak x0 = 2) {rz : Int32} {h : MS} {x1 : Int32} {x2 : Int64}  {H : Heap} {locs : List Loc} {ls : Array Slot} (hf : fX12_find_0 x0 h x1 x2 = some rz) (hE : CE (EM D aC ad h) (Rg ad) s H locs) (hl : lv_has ls 5 [(0, .ref (ad x0)), (1, .int x1), (2, .long x2)]) : W p l e (RM 0 0 0 0) s m args below meth c H locs 0 0 (MQ below (PQ (EM D aC ad h) (Rg ad) (some (.int rz))) args s 0 0 (Rg ad)) (F0 m 0 ls []) := by
  unfold fX12_find_0 at hf
  refine lv_iconst (v := 0) b.1 b.2.1 dX12_find_0 (by decide) ?_
  refine lv_istore (lv' := [(4, .int 0), (0, .ref (ad x0)), (1, .int x1), (2, .long x2)]) b.1 b.2.1 dX12_find_1 hl (by decide) rfl (fun ls hl => ?_)
  exact wfX12_find_3 b hlk hr zs zk hka_x0  FU h x1 x2 0 _ _ _ hf hE (lv_sub hl [1, 2, 3, 0] rfl)
def fX12_find (h : MS) (x0 : Nat) (x1 : Int32) (x2 : Int64) : Option (Int32) := oC ((decide (mk x0 = 2) && decide (mak x0 = 2))) (fX12_find_0 x0 h x1 x2)
set_option maxHeartbeats 4000000 in
theorem CX12_find (l : Launch) (D : va_G) (aC : Nat → ClassId) (ad : Nat → Nat) {Z : State → Prop} (zk : ZOK Z (Rg ad)) {h : MS} {x0 : Nat} {x1 : Int32} {x2 : Int64} {rz : Int32} (hf : fX12_find h x0 x1 x2 = some rz) : CM l D aC Z yX12_find cX12_find 5 (some .int) 0 0 0 0 (EM D aC ad h) [.ref (ad x0), .int x1, .long x2] (EM D aC ad h) (some (.int rz)) (Rg ad) := by
  refine CM.of rfl ?_
  intro p e s m below meth c b hr hlk hin2 zs hE
  obtain ⟨hka, hf⟩ := oC_s hf
  have hka_x0 : mk x0 = 2 ∧ mak x0 = 2 := by simpa using hka
  refine k_ent (Nat.le_of_ble_eq_true rfl) (fun ls hl => ?_)
  exact wfX12_find_0 b hlk hr zs zk hka_x0 hf hE (lv_sub hl [0, 1, 2] rfl)
theorem dX12_tells_0 : decode cX12_tells 0 = .ok (.aload_n 0, 1) := by decide +kernel
theorem dX12_tells_1 : decode cX12_tells 1 = .ok (.getfield 297, 3) := by decide +kernel
theorem dX12_tells_4 : decode cX12_tells 4 = .ok (.istore 4, 2) := by decide +kernel
theorem dX12_tells_6 : decode cX12_tells 6 = .ok (.aload_n 0, 1) := by decide +kernel
theorem dX12_tells_7 : decode cX12_tells 7 = .ok (.iconst 1, 1) := by decide +kernel
theorem dX12_tells_8 : decode cX12_tells 8 = .ok (.invokevirtual 312, 3) := by decide +kernel
theorem dX12_tells_11 : decode cX12_tells 11 = .ok (.ifCond .eq 13, 3) := by decide +kernel
theorem dX12_tells_14 : decode cX12_tells 14 = .ok (.iload_n 2, 1) := by decide +kernel
theorem dX12_tells_15 : decode cX12_tells 15 = .ok (.iload_n 3, 1) := by decide +kernel
theorem dX12_tells_16 : decode cX12_tells 16 = .ok (.if_icmp .ne 8, 3) := by decide +kernel
theorem dX12_tells_19 : decode cX12_tells 19 = .ok (.aload_n 0, 1) := by decide +kernel
theorem dX12_tells_20 : decode cX12_tells 20 = .ok (.iconst 2, 1) := by decide +kernel
theorem dX12_tells_21 : decode cX12_tells 21 = .ok (.invokevirtual 309, 3) := by decide +kernel
theorem dX12_tells_24 : decode cX12_tells 24 = .ok (.aload_n 0, 1) := by decide +kernel
theorem dX12_tells_25 : decode cX12_tells 25 = .ok (.iconst 1, 1) := by decide +kernel
theorem dX12_tells_26 : decode cX12_tells 26 = .ok (.invokevirtual 318, 3) := by decide +kernel
theorem dX12_tells_29 : decode cX12_tells 29 = .ok (.aload_n 0, 1) := by decide +kernel
theorem dX12_tells_30 : decode cX12_tells 30 = .ok (.getfield 294, 3) := by decide +kernel
theorem dX12_tells_33 : decode cX12_tells 33 = .ok (.ifCond .le 6, 3) := by decide +kernel
theorem dX12_tells_36 : decode cX12_tells 36 = .ok (.iload 4, 2) := by decide +kernel
theorem dX12_tells_38 : decode cX12_tells 38 = .ok (.ireturn, 1) := by decide +kernel
theorem dX12_tells_39 : decode cX12_tells 39 = .ok (.aload_n 1, 1) := by decide +kernel
theorem dX12_tells_40 : decode cX12_tells 40 = .ok (.iload_n 2, 1) := by decide +kernel
theorem dX12_tells_41 : decode cX12_tells 41 = .ok (.aload_n 0, 1) := by decide +kernel
theorem dX12_tells_42 : decode cX12_tells 42 = .ok (.getfield 30, 3) := by decide +kernel
theorem dX12_tells_45 : decode cX12_tells 45 = .ok (.iload 4, 2) := by decide +kernel
theorem dX12_tells_47 : decode cX12_tells 47 = .ok (.laload, 1) := by decide +kernel
theorem dX12_tells_48 : decode cX12_tells 48 = .ok (.invokestatic 321, 3) := by decide +kernel
theorem dX12_tells_51 : decode cX12_tells 51 = .ok (.iconst (-1), 1) := by decide +kernel
theorem dX12_tells_52 : decode cX12_tells 52 = .ok (.if_icmp .eq 10, 3) := by decide +kernel
theorem dX12_tells_55 : decode cX12_tells 55 = .ok (.aload_n 0, 1) := by decide +kernel
theorem dX12_tells_56 : decode cX12_tells 56 = .ok (.iconst 3, 1) := by decide +kernel
theorem dX12_tells_57 : decode cX12_tells 57 = .ok (.iload 4, 2) := by decide +kernel
theorem dX12_tells_59 : decode cX12_tells 59 = .ok (.invokevirtual 325, 3) := by decide +kernel
theorem dX12_tells_62 : decode cX12_tells 62 = .ok (.aload_n 1, 1) := by decide +kernel
theorem dX12_tells_63 : decode cX12_tells 63 = .ok (.iload_n 2, 1) := by decide +kernel
theorem dX12_tells_64 : decode cX12_tells 64 = .ok (.aload_n 0, 1) := by decide +kernel
theorem dX12_tells_65 : decode cX12_tells 65 = .ok (.getfield 30, 3) := by decide +kernel
theorem dX12_tells_68 : decode cX12_tells 68 = .ok (.iload 4, 2) := by decide +kernel
theorem dX12_tells_70 : decode cX12_tells 70 = .ok (.laload, 1) := by decide +kernel
theorem dX12_tells_71 : decode cX12_tells 71 = .ok (.lastore, 1) := by decide +kernel
theorem dX12_tells_72 : decode cX12_tells 72 = .ok (.iload 4, 2) := by decide +kernel
theorem dX12_tells_74 : decode cX12_tells 74 = .ok (.ireturn, 1) := by decide +kernel
def fX12_tells_62 (x1 : Nat)  (h : MS) (x2 : Int32) (x4 : Int32) : Option (MS × Int32) :=
  oC (ix x4 (mlen 8)) (oC (ix x2 (mlen x1)) (oL (mSB h x1 (Int32.toNatClampNeg x2) (mB h 8 (Int32.toNatClampNeg x4))) (fun h3 => some (h3, x4))))
set_option maxHeartbeats 4000000 in
theorem wfX12_tells_62 {args : Array Value} (b : Bd p s m c cX12_tells 5 RX12 D aC) (hlk : meth.locks = false) (hr : meth.sig.returnType = some .int) {Z : State → Prop} (zs : Z s) (zk : ZOK Z (Rg ad)) {x1 : Nat} (hka_x1 : mk x1 = 2 ∧ mak x1 = 2) {hz : MS} {rz : Int32} {h : MS} {x2 : Int32} {x4 : Int32}  {H : Heap} {locs : List Loc} {ls : Array Slot} (hf : fX12_tells_62 x1 h x2 x4 = some (hz, rz)) (hE : CE (EM D aC ad h) (Rg ad) s H locs) (hl : lv_has ls 5 [(0, .ref (ad 116)), (1, .ref (ad x1)), (2, .int x2), (4, .int x4)]) : W p l e (RM 3 62 0 0) s m args below meth c H locs 0 0 (MQ below (PQ (EM D aC ad hz) (Rg ad) (some (.int rz))) args s 0 0 (Rg ad)) (F0 m 62 ls []) := by
  unfold fX12_tells_62 at hf
  refine lv_aload_n b.1 b.2.1 dX12_tells_62 rfl (lv_at hl 1 rfl) ?_
  refine lv_iload_n b.1 b.2.1 dX12_tells_63 rfl (lv_at hl 2 rfl) ?_
  refine lv_aload_n b.1 b.2.1 dX12_tells_64 rfl (lv_at hl 0 rfl) ?_
  refine gM_30 b hE dX12_tells_65 ?_
  refine lv_iload b.1 b.2.1 dX12_tells_68 (lv_at hl 3 rfl) ?_
  obtain ⟨g1, hf⟩ := oC_s hf
  refine m_lald b hE rfl rfl g1 dX12_tells_70 ?_
  obtain ⟨g2, hf⟩ := oC_s hf
  obtain ⟨h3, eh3, hf⟩ := oL_s hf
  refine n_last b hE hka_x1.1 hka_x1.2 g2 eh3 dX12_tells_71 (fun H locs hE => ?_)
  refine lv_iload b.1 b.2.1 dX12_tells_72 (lv_at hl 3 rfl) ?_
  cases hf
  exact k_iret b hlk hr hE (Nat.le_refl _) (Nat.le_refl _) dX12_tells_74
def fX12_tells_24 (x1 : Nat)  (h : MS) (x2 : Int32) (x4 : Int32) : Option (MS × Int32) :=
  oB (fX12_must h 1) (fun h5 => if (mI h5 13) ≤ 0 then (oC (ix x4 (mlen 8)) (oB (fX12_find h5 x1 x2 (mB h5 8 (Int32.toNatClampNeg x4))) (fun r9 => if r9 = (-1) then (fX12_tells_62 x1  h5 x2 x4) else (oB (fX12_wrong h5 3 x4) (fun h12 => fX12_tells_62 x1  h12 x2 x4))))) else (some (h5, x4)))
set_option maxHeartbeats 4000000 in
theorem wfX12_tells_24 {args : Array Value} (b : Bd p s m c cX12_tells 5 RX12 D aC) (hlk : meth.locks = false) (hr : meth.sig.returnType = some .int) {Z : State → Prop} (zs : Z s) (zk : ZOK Z (Rg ad)) {x1 : Nat} (hka_x1 : mk x1 = 2 ∧ mak x1 = 2) {hz : MS} {rz : Int32} {h : MS} {x2 : Int32} {x4 : Int32}  {H : Heap} {locs : List Loc} {ls : Array Slot} (hf : fX12_tells_24 x1 h x2 x4 = some (hz, rz)) (hE : CE (EM D aC ad h) (Rg ad) s H locs) (hl : lv_has ls 5 [(0, .ref (ad 116)), (1, .ref (ad x1)), (2, .int x2), (4, .int x4)]) : W p l e (RM 3 62 0 0) s m args below meth c H locs 0 0 (MQ below (PQ (EM D aC ad hz) (Rg ad) (some (.int rz))) args s 0 0 (Rg ad)) (F0 m 24 ls []) := by
  unfold fX12_tells_24 at hf
  refine lv_aload_n b.1 b.2.1 dX12_tells_24 rfl (lv_at hl 0 rfl) ?_
  refine lv_iconst (v := 1) b.1 b.2.1 dX12_tells_25 (by decide) ?_
  obtain ⟨h5, hc4, hf⟩ := oB_s hf
  refine k_callV0 (C := RX12) b zs zk hE (CX12_must l D aC ad zk hc4) mc_X12_must (in7 129 rfl rfl) mi_X12_must ms_X12_must ini_RX12 ok_X12_must (m_recv b hE) ⟨Nat.le_of_ble_eq_true rfl, Nat.le_of_ble_eq_true rfl⟩ rfl hl.1 rfl (k_room _ (by exact Nat.le_of_ble_eq_true rfl)) ⟨Nat.le_refl _, Nat.le_refl _⟩ dX12_tells_26 (fun H locs hE => ?_)
  refine lv_aload_n b.1 b.2.1 dX12_tells_29 rfl (lv_at hl 0 rfl) ?_
  refine gM_294 b hE dX12_tells_30 ?_
  refine lv_if_le (tgt := 39) b.1 b.2.1 dX12_tells_33 (by decide) (fun c6 => ?_) (fun c6 => ?_)
  · have hf := oI_t c6 hf
    refine lv_aload_n b.1 b.2.1 dX12_tells_39 rfl (lv_at hl 1 rfl) ?_
    refine lv_iload_n b.1 b.2.1 dX12_tells_40 rfl (lv_at hl 2 rfl) ?_
    refine lv_aload_n b.1 b.2.1 dX12_tells_41 rfl (lv_at hl 0 rfl) ?_
    refine gM_30 b hE dX12_tells_42 ?_
    refine lv_iload b.1 b.2.1 dX12_tells_45 (lv_at hl 3 rfl) ?_
    obtain ⟨g7, hf⟩ := oC_s hf
    refine m_lald b hE rfl rfl g7 dX12_tells_47 ?_
    obtain ⟨r9, hc8, hf⟩ := oB_s hf
    refine k_callS0 b zs zk hE (CX12_find l D aC ad zk hc8) mc_X12_find (in7 133 rfl rfl) mt_X12_find ini_RX12 ok_X12_find ⟨Nat.le_of_ble_eq_true rfl, Nat.le_of_ble_eq_true rfl⟩ rfl hl.1 rfl (k_room _ (by exact Nat.le_of_ble_eq_true rfl)) ⟨Nat.le_refl _, Nat.le_refl _⟩ dX12_tells_48 (fun H locs hE => ?_)
    refine lv_iconst (v := (-1)) b.1 b.2.1 dX12_tells_51 (by decide) ?_
    refine lv_icmp_eq (tgt := 62) b.1 b.2.1 dX12_tells_52 (by decide) (fun c10 => ?_) (fun c10 => ?_)
    · have hf := oI_t c10 hf
      exact wfX12_tells_62 b hlk hr zs zk hka_x1  hf hE (lv_sub hl [0, 1, 2, 3] rfl)
    · have hf := oI_f c10 hf
      refine lv_aload_n b.1 b.2.1 dX12_tells_55 rfl (lv_at hl 0 rfl) ?_
      refine lv_iconst (v := 3) b.1 b.2.1 dX12_tells_56 (by decide) ?_
      refine lv_iload b.1 b.2.1 dX12_tells_57 (lv_at hl 3 rfl) ?_
      obtain ⟨h12, hc11, hf⟩ := oB_s hf
      refine k_callV0 (C := RX12) b zs zk hE (CX12_wrong l D aC ad zk hc11) mc_X12_wrong (in7 136 rfl rfl) mi_X12_wrong ms_X12_wrong ini_RX12 ok_X12_wrong (m_recv b hE) ⟨Nat.le_of_ble_eq_true rfl, Nat.le_of_ble_eq_true rfl⟩ rfl hl.1 rfl (k_room _ (by exact Nat.le_of_ble_eq_true rfl)) ⟨Nat.le_refl _, Nat.le_refl _⟩ dX12_tells_59 (fun H locs hE => ?_)
      exact wfX12_tells_62 b hlk hr zs zk hka_x1  hf hE (lv_sub hl [0, 1, 2, 3] rfl)
  · have hf := oI_f c6 hf
    refine lv_iload b.1 b.2.1 dX12_tells_36 (lv_at hl 3 rfl) ?_
    cases hf
    exact k_iret b hlk hr hE (Nat.le_refl _) (Nat.le_refl _) dX12_tells_38
def fX12_tells_0 (x1 : Nat)  (h : MS) (x2 : Int32) (x3 : Int32) : Option (MS × Int32) :=
  oL (mI h 11) (fun y13 => oB (fX12_is h 1) (fun r15 => if r15 = 0 then (fX12_tells_24 x1  h x2 y13) else (if x2 = x3 then (oB (fX12_fail h 2) (fun h19 => fX12_tells_24 x1  h19 x2 y13)) else (fX12_tells_24 x1  h x2 y13))))
set_option maxHeartbeats 4000000 in
theorem wfX12_tells_0 {args : Array Value} (b : Bd p s m c cX12_tells 5 RX12 D aC) (hlk : meth.locks = false) (hr : meth.sig.returnType = some .int) {Z : State → Prop} (zs : Z s) (zk : ZOK Z (Rg ad)) {x1 : Nat} (hka_x1 : mk x1 = 2 ∧ mak x1 = 2) {hz : MS} {rz : Int32} {h : MS} {x2 : Int32} {x3 : Int32}  {H : Heap} {locs : List Loc} {ls : Array Slot} (hf : fX12_tells_0 x1 h x2 x3 = some (hz, rz)) (hE : CE (EM D aC ad h) (Rg ad) s H locs) (hl : lv_has ls 5 [(0, .ref (ad 116)), (1, .ref (ad x1)), (2, .int x2), (3, .int x3)]) : W p l e (RM 3 62 0 0) s m args below meth c H locs 0 0 (MQ below (PQ (EM D aC ad hz) (Rg ad) (some (.int rz))) args s 0 0 (Rg ad)) (F0 m 0 ls []) := by
  unfold fX12_tells_0 at hf
  refine lv_aload_n b.1 b.2.1 dX12_tells_0 rfl (lv_at hl 0 rfl) ?_
  refine gM_297 b hE dX12_tells_1 ?_
  obtain ⟨y13, ey13, hf⟩ := oL_s hf
  refine k_nmI ey13 ?_
  refine lv_istore (lv' := [(4, .int y13), (0, .ref (ad 116)), (1, .ref (ad x1)), (2, .int x2), (3, .int x3)]) b.1 b.2.1 dX12_tells_4 hl (by decide) rfl (fun ls hl => ?_)
  refine lv_aload_n b.1 b.2.1 dX12_tells_6 rfl (lv_at hl 1 rfl) ?_
  refine lv_iconst (v := 1) b.1 b.2.1 dX12_tells_7 (by decide) ?_
  obtain ⟨r15, hc14, hf⟩ := oB_s hf
  refine k_callV0 (C := RX12) b zs zk hE (CX12_is l D aC ad zk hc14) mc_X12_is (in7 109 rfl rfl) mi_X12_is ms_X12_is ini_RX12 ok_X12_is (m_recv b hE) ⟨Nat.le_of_ble_eq_true rfl, Nat.le_of_ble_eq_true rfl⟩ rfl hl.1 rfl (k_room _ (by exact Nat.le_of_ble_eq_true rfl)) ⟨Nat.le_refl _, Nat.le_refl _⟩ dX12_tells_8 (fun H locs hE => ?_)
  refine lv_if_eq (tgt := 24) b.1 b.2.1 dX12_tells_11 (by decide) (fun c16 => ?_) (fun c16 => ?_)
  · have hf := oI_t c16 hf
    exact wfX12_tells_24 b hlk hr zs zk hka_x1  hf hE (lv_sub hl [1, 2, 3, 0] rfl)
  · have hf := oI_f c16 hf
    refine lv_iload_n b.1 b.2.1 dX12_tells_14 rfl (lv_at hl 3 rfl) ?_
    refine lv_iload_n b.1 b.2.1 dX12_tells_15 rfl (lv_at hl 4 rfl) ?_
    refine lv_icmp_ne (tgt := 24) b.1 b.2.1 dX12_tells_16 (by decide) (fun c17 => ?_) (fun c17 => ?_)
    · have hf := oI_f c17 hf
      exact wfX12_tells_24 b hlk hr zs zk hka_x1  hf hE (lv_sub hl [1, 2, 3, 0] rfl)
    · have hf := oI_t c17 hf
      refine lv_aload_n b.1 b.2.1 dX12_tells_19 rfl (lv_at hl 1 rfl) ?_
      refine lv_iconst (v := 2) b.1 b.2.1 dX12_tells_20 (by decide) ?_
      obtain ⟨h19, hc18, hf⟩ := oB_s hf
      refine k_callV0 (C := RX12) b zs zk hE (CX12_fail l D aC ad zk hc18) mc_X12_fail (in7 121 rfl rfl) mi_X12_fail ms_X12_fail ini_RX12 ok_X12_fail (m_recv b hE) ⟨Nat.le_of_ble_eq_true rfl, Nat.le_of_ble_eq_true rfl⟩ rfl hl.1 rfl (k_room _ (by exact Nat.le_of_ble_eq_true rfl)) ⟨Nat.le_refl _, Nat.le_refl _⟩ dX12_tells_21 (fun H locs hE => ?_)
      exact wfX12_tells_24 b hlk hr zs zk hka_x1  hf hE (lv_sub hl [1, 2, 3, 0] rfl)
def fX12_tells (h : MS) (x1 : Nat) (x2 : Int32) (x3 : Int32) : Option (MS × Int32) := oC ((decide (mk x1 = 2) && decide (mak x1 = 2))) (fX12_tells_0 x1 h x2 x3)
set_option maxHeartbeats 4000000 in
theorem CX12_tells (l : Launch) (D : va_G) (aC : Nat → ClassId) (ad : Nat → Nat) {Z : State → Prop} (zk : ZOK Z (Rg ad)) {h : MS} {x1 : Nat} {x2 : Int32} {x3 : Int32} {hz : MS} {rz : Int32} (hf : fX12_tells h x1 x2 x3 = some (hz, rz)) : CM l D aC Z yX12_tells cX12_tells 5 (some .int) 3 62 0 0 (EM D aC ad h) [.ref (ad 116), .ref (ad x1), .int x2, .int x3] (EM D aC ad hz) (some (.int rz)) (Rg ad) := by
  refine CM.of rfl ?_
  intro p e s m below meth c b hr hlk hin2 zs hE
  obtain ⟨hka, hf⟩ := oC_s hf
  have hka_x1 : mk x1 = 2 ∧ mak x1 = 2 := by simpa using hka
  refine k_ent (Nat.le_of_ble_eq_true rfl) (fun ls hl => ?_)
  exact wfX12_tells_0 b hlk hr zs zk hka_x1 hf hE (lv_sub hl [0, 1, 2, 3] rfl)
theorem dX12_known_0 : decode cX12_known 0 = .ok (.aload_n 1, 1) := by decide +kernel
theorem dX12_known_1 : decode cX12_known 1 = .ok (.iload_n 2, 1) := by decide +kernel
theorem dX12_known_2 : decode cX12_known 2 = .ok (.aload_n 0, 1) := by decide +kernel
theorem dX12_known_3 : decode cX12_known 3 = .ok (.getfield 30, 3) := by decide +kernel
theorem dX12_known_6 : decode cX12_known 6 = .ok (.iload_n 3, 1) := by decide +kernel
theorem dX12_known_7 : decode cX12_known 7 = .ok (.laload, 1) := by decide +kernel
theorem dX12_known_8 : decode cX12_known 8 = .ok (.invokestatic 321, 3) := by decide +kernel
theorem dX12_known_11 : decode cX12_known 11 = .ok (.istore 4, 2) := by decide +kernel
theorem dX12_known_13 : decode cX12_known 13 = .ok (.iload 4, 2) := by decide +kernel
theorem dX12_known_15 : decode cX12_known 15 = .ok (.iconst (-1), 1) := by decide +kernel
theorem dX12_known_16 : decode cX12_known 16 = .ok (.if_icmp .ne 9, 3) := by decide +kernel
theorem dX12_known_19 : decode cX12_known 19 = .ok (.aload_n 0, 1) := by decide +kernel
theorem dX12_known_20 : decode cX12_known 20 = .ok (.iconst 4, 1) := by decide +kernel
theorem dX12_known_21 : decode cX12_known 21 = .ok (.iload_n 3, 1) := by decide +kernel
theorem dX12_known_22 : decode cX12_known 22 = .ok (.invokevirtual 325, 3) := by decide +kernel
theorem dX12_known_25 : decode cX12_known 25 = .ok (.iload 4, 2) := by decide +kernel
theorem dX12_known_27 : decode cX12_known 27 = .ok (.ireturn, 1) := by decide +kernel
def fX12_known_0 (x1 : Nat)  (h : MS) (x2 : Int32) (x3 : Int32) : Option (MS × Int32) :=
  oC (ix x3 (mlen 8)) (oB (fX12_find h x1 x2 (mB h 8 (Int32.toNatClampNeg x3))) (fun r3 => if r3 = (-1) then (oB (fX12_wrong h 4 x3) (fun h6 => some (h6, r3))) else (some (h, r3))))
set_option maxHeartbeats 4000000 in
theorem wfX12_known_0 {args : Array Value} (b : Bd p s m c cX12_known 5 RX12 D aC) (hlk : meth.locks = false) (hr : meth.sig.returnType = some .int) {Z : State → Prop} (zs : Z s) (zk : ZOK Z (Rg ad)) {x1 : Nat} (hka_x1 : mk x1 = 2 ∧ mak x1 = 2) {hz : MS} {rz : Int32} {h : MS} {x2 : Int32} {x3 : Int32}  {H : Heap} {locs : List Loc} {ls : Array Slot} (hf : fX12_known_0 x1 h x2 x3 = some (hz, rz)) (hE : CE (EM D aC ad h) (Rg ad) s H locs) (hl : lv_has ls 5 [(0, .ref (ad 116)), (1, .ref (ad x1)), (2, .int x2), (3, .int x3)]) : W p l e (RM 1 24 0 0) s m args below meth c H locs 0 0 (MQ below (PQ (EM D aC ad hz) (Rg ad) (some (.int rz))) args s 0 0 (Rg ad)) (F0 m 0 ls []) := by
  unfold fX12_known_0 at hf
  refine lv_aload_n b.1 b.2.1 dX12_known_0 rfl (lv_at hl 1 rfl) ?_
  refine lv_iload_n b.1 b.2.1 dX12_known_1 rfl (lv_at hl 2 rfl) ?_
  refine lv_aload_n b.1 b.2.1 dX12_known_2 rfl (lv_at hl 0 rfl) ?_
  refine gM_30 b hE dX12_known_3 ?_
  refine lv_iload_n b.1 b.2.1 dX12_known_6 rfl (lv_at hl 3 rfl) ?_
  obtain ⟨g1, hf⟩ := oC_s hf
  refine m_lald b hE rfl rfl g1 dX12_known_7 ?_
  obtain ⟨r3, hc2, hf⟩ := oB_s hf
  refine k_callS0 b zs zk hE (CX12_find l D aC ad zk hc2) mc_X12_find (in7 133 rfl rfl) mt_X12_find ini_RX12 ok_X12_find ⟨Nat.le_of_ble_eq_true rfl, Nat.le_of_ble_eq_true rfl⟩ rfl hl.1 rfl (k_room _ (by exact Nat.le_of_ble_eq_true rfl)) ⟨Nat.le_refl _, Nat.le_refl _⟩ dX12_known_8 (fun H locs hE => ?_)
  refine lv_istore (lv' := [(4, .int r3), (0, .ref (ad 116)), (1, .ref (ad x1)), (2, .int x2), (3, .int x3)]) b.1 b.2.1 dX12_known_11 hl (by decide) rfl (fun ls hl => ?_)
  have hl := lv_sub (l' := [(4, .int r3), (0, .ref (ad 116)), (3, .int x3)]) hl [0, 1, 4] rfl
  refine lv_iload b.1 b.2.1 dX12_known_13 (lv_at hl 0 rfl) ?_
  refine lv_iconst (v := (-1)) b.1 b.2.1 dX12_known_15 (by decide) ?_
  refine lv_icmp_ne (tgt := 25) b.1 b.2.1 dX12_known_16 (by decide) (fun c4 => ?_) (fun c4 => ?_)
  · have hf := oI_f c4 hf
    refine lv_iload b.1 b.2.1 dX12_known_25 (lv_at hl 0 rfl) ?_
    cases hf
    exact k_iret b hlk hr hE (Nat.le_refl _) (Nat.le_refl _) dX12_known_27
  · have hf := oI_t c4 hf
    refine lv_aload_n b.1 b.2.1 dX12_known_19 rfl (lv_at hl 1 rfl) ?_
    refine lv_iconst (v := 4) b.1 b.2.1 dX12_known_20 (by decide) ?_
    refine lv_iload_n b.1 b.2.1 dX12_known_21 rfl (lv_at hl 2 rfl) ?_
    obtain ⟨h6, hc5, hf⟩ := oB_s hf
    refine k_callV0 (C := RX12) b zs zk hE (CX12_wrong l D aC ad zk hc5) mc_X12_wrong (in7 136 rfl rfl) mi_X12_wrong ms_X12_wrong ini_RX12 ok_X12_wrong (m_recv b hE) ⟨Nat.le_of_ble_eq_true rfl, Nat.le_of_ble_eq_true rfl⟩ rfl hl.1 rfl (k_room _ (by exact Nat.le_of_ble_eq_true rfl)) ⟨Nat.le_refl _, Nat.le_refl _⟩ dX12_known_22 (fun H locs hE => ?_)
    refine lv_iload b.1 b.2.1 dX12_known_25 (lv_at hl 0 rfl) ?_
    cases hf
    exact k_iret b hlk hr hE (Nat.le_refl _) (Nat.le_refl _) dX12_known_27
def fX12_known (h : MS) (x1 : Nat) (x2 : Int32) (x3 : Int32) : Option (MS × Int32) := oC ((decide (mk x1 = 2) && decide (mak x1 = 2))) (fX12_known_0 x1 h x2 x3)
set_option maxHeartbeats 4000000 in
theorem CX12_known (l : Launch) (D : va_G) (aC : Nat → ClassId) (ad : Nat → Nat) {Z : State → Prop} (zk : ZOK Z (Rg ad)) {h : MS} {x1 : Nat} {x2 : Int32} {x3 : Int32} {hz : MS} {rz : Int32} (hf : fX12_known h x1 x2 x3 = some (hz, rz)) : CM l D aC Z yX12_known cX12_known 5 (some .int) 1 24 0 0 (EM D aC ad h) [.ref (ad 116), .ref (ad x1), .int x2, .int x3] (EM D aC ad hz) (some (.int rz)) (Rg ad) := by
  refine CM.of rfl ?_
  intro p e s m below meth c b hr hlk hin2 zs hE
  obtain ⟨hka, hf⟩ := oC_s hf
  have hka_x1 : mk x1 = 2 ∧ mak x1 = 2 := by simpa using hka
  refine k_ent (Nat.le_of_ble_eq_true rfl) (fun ls hl => ?_)
  exact wfX12_known_0 b hlk hr zs zk hka_x1 hf hE (lv_sub hl [0, 1, 2, 3] rfl)
theorem dX12_whole_0 : decode cX12_whole 0 = .ok (.aload_n 0, 1) := by decide +kernel
theorem dX12_whole_1 : decode cX12_whole 1 = .ok (.getfield 297, 3) := by decide +kernel
theorem dX12_whole_4 : decode cX12_whole 4 = .ok (.istore_n 2, 1) := by decide +kernel
theorem dX12_whole_5 : decode cX12_whole 5 = .ok (.aload_n 0, 1) := by decide +kernel
theorem dX12_whole_6 : decode cX12_whole 6 = .ok (.iconst 3, 1) := by decide +kernel
theorem dX12_whole_7 : decode cX12_whole 7 = .ok (.invokevirtual 318, 3) := by decide +kernel
theorem dX12_whole_10 : decode cX12_whole 10 = .ok (.aload_n 0, 1) := by decide +kernel
theorem dX12_whole_11 : decode cX12_whole 11 = .ok (.getfield 294, 3) := by decide +kernel
theorem dX12_whole_14 : decode cX12_whole 14 = .ok (.ifCond .ne 19, 3) := by decide +kernel
theorem dX12_whole_17 : decode cX12_whole 17 = .ok (.aload_n 0, 1) := by decide +kernel
theorem dX12_whole_18 : decode cX12_whole 18 = .ok (.getfield 27, 3) := by decide +kernel
theorem dX12_whole_21 : decode cX12_whole 21 = .ok (.iload_n 2, 1) := by decide +kernel
theorem dX12_whole_22 : decode cX12_whole 22 = .ok (.iaload, 1) := by decide +kernel
theorem dX12_whole_23 : decode cX12_whole 23 = .ok (.iload_n 1, 1) := by decide +kernel
theorem dX12_whole_24 : decode cX12_whole 24 = .ok (.if_icmp .le 9, 3) := by decide +kernel
theorem dX12_whole_27 : decode cX12_whole 27 = .ok (.aload_n 0, 1) := by decide +kernel
theorem dX12_whole_28 : decode cX12_whole 28 = .ok (.iconst 5, 1) := by decide +kernel
theorem dX12_whole_29 : decode cX12_whole 29 = .ok (.iload_n 2, 1) := by decide +kernel
theorem dX12_whole_30 : decode cX12_whole 30 = .ok (.invokevirtual 325, 3) := by decide +kernel
theorem dX12_whole_33 : decode cX12_whole 33 = .ok (.iload_n 2, 1) := by decide +kernel
theorem dX12_whole_34 : decode cX12_whole 34 = .ok (.ireturn, 1) := by decide +kernel
def fX12_whole_0  (h : MS) (x1 : Int32) : Option (MS × Int32) :=
  oL (mI h 11) (fun y1 => oB (fX12_must h 3) (fun h3 => if (mI h3 13) = 0 then (oC (ix y1 (mlen 7)) (if (mA h3 7 (Int32.toNatClampNeg y1)) ≤ x1 then (some (h3, y1)) else (oB (fX12_wrong h3 5 y1) (fun h8 => some (h8, y1))))) else (some (h3, y1))))
set_option maxHeartbeats 4000000 in
theorem wfX12_whole_0 {args : Array Value} (b : Bd p s m c cX12_whole 3 RX12 D aC) (hlk : meth.locks = false) (hr : meth.sig.returnType = some .int) {Z : State → Prop} (zs : Z s) (zk : ZOK Z (Rg ad)) {hz : MS} {rz : Int32} {h : MS} {x1 : Int32}  {H : Heap} {locs : List Loc} {ls : Array Slot} (hf : fX12_whole_0 h x1 = some (hz, rz)) (hE : CE (EM D aC ad h) (Rg ad) s H locs) (hl : lv_has ls 3 [(0, .ref (ad 116)), (1, .int x1)]) : W p l e (RM 3 62 0 0) s m args below meth c H locs 0 0 (MQ below (PQ (EM D aC ad hz) (Rg ad) (some (.int rz))) args s 0 0 (Rg ad)) (F0 m 0 ls []) := by
  unfold fX12_whole_0 at hf
  refine lv_aload_n b.1 b.2.1 dX12_whole_0 rfl (lv_at hl 0 rfl) ?_
  refine gM_297 b hE dX12_whole_1 ?_
  obtain ⟨y1, ey1, hf⟩ := oL_s hf
  refine k_nmI ey1 ?_
  refine lv_istore_n (lv' := [(2, .int y1), (0, .ref (ad 116)), (1, .int x1)]) b.1 b.2.1 dX12_whole_4 rfl hl (by decide) rfl (fun ls hl => ?_)
  refine lv_aload_n b.1 b.2.1 dX12_whole_5 rfl (lv_at hl 1 rfl) ?_
  refine lv_iconst (v := 3) b.1 b.2.1 dX12_whole_6 (by decide) ?_
  obtain ⟨h3, hc2, hf⟩ := oB_s hf
  refine k_callV0 (C := RX12) b zs zk hE (CX12_must l D aC ad zk hc2) mc_X12_must (in7 129 rfl rfl) mi_X12_must ms_X12_must ini_RX12 ok_X12_must (m_recv b hE) ⟨Nat.le_of_ble_eq_true rfl, Nat.le_of_ble_eq_true rfl⟩ rfl hl.1 rfl (k_room _ (by exact Nat.le_of_ble_eq_true rfl)) ⟨Nat.le_refl _, Nat.le_refl _⟩ dX12_whole_7 (fun H locs hE => ?_)
  refine lv_aload_n b.1 b.2.1 dX12_whole_10 rfl (lv_at hl 1 rfl) ?_
  refine gM_294 b hE dX12_whole_11 ?_
  refine lv_if_ne (tgt := 33) b.1 b.2.1 dX12_whole_14 (by decide) (fun c4 => ?_) (fun c4 => ?_)
  · have hf := oI_f c4 hf
    refine lv_iload_n b.1 b.2.1 dX12_whole_33 rfl (lv_at hl 0 rfl) ?_
    cases hf
    exact k_iret b hlk hr hE (Nat.le_refl _) (Nat.le_refl _) dX12_whole_34
  · have hf := oI_t c4 hf
    refine lv_aload_n b.1 b.2.1 dX12_whole_17 rfl (lv_at hl 1 rfl) ?_
    refine gM_27 b hE dX12_whole_18 ?_
    refine lv_iload_n b.1 b.2.1 dX12_whole_21 rfl (lv_at hl 0 rfl) ?_
    obtain ⟨g5, hf⟩ := oC_s hf
    refine m_iald b hE rfl rfl g5 dX12_whole_22 ?_
    refine lv_iload_n b.1 b.2.1 dX12_whole_23 rfl (lv_at hl 2 rfl) ?_
    refine lv_icmp_le (tgt := 33) b.1 b.2.1 dX12_whole_24 (by decide) (fun c6 => ?_) (fun c6 => ?_)
    · have hf := oI_t c6 hf
      refine lv_iload_n b.1 b.2.1 dX12_whole_33 rfl (lv_at hl 0 rfl) ?_
      cases hf
      exact k_iret b hlk hr hE (Nat.le_refl _) (Nat.le_refl _) dX12_whole_34
    · have hf := oI_f c6 hf
      refine lv_aload_n b.1 b.2.1 dX12_whole_27 rfl (lv_at hl 1 rfl) ?_
      refine lv_iconst (v := 5) b.1 b.2.1 dX12_whole_28 (by decide) ?_
      refine lv_iload_n b.1 b.2.1 dX12_whole_29 rfl (lv_at hl 0 rfl) ?_
      obtain ⟨h8, hc7, hf⟩ := oB_s hf
      refine k_callV0 (C := RX12) b zs zk hE (CX12_wrong l D aC ad zk hc7) mc_X12_wrong (in7 136 rfl rfl) mi_X12_wrong ms_X12_wrong ini_RX12 ok_X12_wrong (m_recv b hE) ⟨Nat.le_of_ble_eq_true rfl, Nat.le_of_ble_eq_true rfl⟩ rfl hl.1 rfl (k_room _ (by exact Nat.le_of_ble_eq_true rfl)) ⟨Nat.le_refl _, Nat.le_refl _⟩ dX12_whole_30 (fun H locs hE => ?_)
      refine lv_iload_n b.1 b.2.1 dX12_whole_33 rfl (lv_at hl 0 rfl) ?_
      cases hf
      exact k_iret b hlk hr hE (Nat.le_refl _) (Nat.le_refl _) dX12_whole_34
def fX12_whole (h : MS) (x1 : Int32) : Option (MS × Int32) := fX12_whole_0 h x1
set_option maxHeartbeats 4000000 in
theorem CX12_whole (l : Launch) (D : va_G) (aC : Nat → ClassId) (ad : Nat → Nat) {Z : State → Prop} (zk : ZOK Z (Rg ad)) {h : MS} {x1 : Int32} {hz : MS} {rz : Int32} (hf : fX12_whole h x1 = some (hz, rz)) : CM l D aC Z yX12_whole cX12_whole 3 (some .int) 3 62 0 0 (EM D aC ad h) [.ref (ad 116), .int x1] (EM D aC ad hz) (some (.int rz)) (Rg ad) := by
  refine CM.of rfl ?_
  intro p e s m below meth c b hr hlk hin2 zs hE
  refine k_ent (Nat.le_of_ble_eq_true rfl) (fun ls hl => ?_)
  exact wfX12_whole_0 b hlk hr zs zk hf hE (lv_sub hl [0, 1] rfl)
theorem dX12_variable_0 : decode cX12_variable 0 = .ok (.iconst 0, 1) := by decide +kernel
theorem dX12_variable_1 : decode cX12_variable 1 = .ok (.istore_n 1, 1) := by decide +kernel
theorem dX12_variable_2 : decode cX12_variable 2 = .ok (.iload_n 1, 1) := by decide +kernel
theorem dX12_variable_3 : decode cX12_variable 3 = .ok (.aload_n 0, 1) := by decide +kernel
theorem dX12_variable_4 : decode cX12_variable 4 = .ok (.getfield 91, 3) := by decide +kernel
theorem dX12_variable_7 : decode cX12_variable 7 = .ok (.aload_n 0, 1) := by decide +kernel
theorem dX12_variable_8 : decode cX12_variable 8 = .ok (.getfield 384, 3) := by decide +kernel
theorem dX12_variable_11 : decode cX12_variable 11 = .ok (.iaload, 1) := by decide +kernel
theorem dX12_variable_12 : decode cX12_variable 12 = .ok (.if_icmp .ge 43, 3) := by decide +kernel
theorem dX12_variable_15 : decode cX12_variable 15 = .ok (.aload_n 0, 1) := by decide +kernel
theorem dX12_variable_16 : decode cX12_variable 16 = .ok (.getfield 94, 3) := by decide +kernel
theorem dX12_variable_19 : decode cX12_variable 19 = .ok (.iconst 3, 1) := by decide +kernel
theorem dX12_variable_20 : decode cX12_variable 20 = .ok (.aload_n 0, 1) := by decide +kernel
theorem dX12_variable_21 : decode cX12_variable 21 = .ok (.getfield 384, 3) := by decide +kernel
theorem dX12_variable_24 : decode cX12_variable 24 = .ok (.imul, 1) := by decide +kernel
theorem dX12_variable_25 : decode cX12_variable 25 = .ok (.iload_n 1, 1) := by decide +kernel
theorem dX12_variable_26 : decode cX12_variable 26 = .ok (.iadd, 1) := by decide +kernel
theorem dX12_variable_27 : decode cX12_variable 27 = .ok (.iaload, 1) := by decide +kernel
theorem dX12_variable_28 : decode cX12_variable 28 = .ok (.aload_n 0, 1) := by decide +kernel
theorem dX12_variable_29 : decode cX12_variable 29 = .ok (.getfield 27, 3) := by decide +kernel
theorem dX12_variable_32 : decode cX12_variable 32 = .ok (.aload_n 0, 1) := by decide +kernel
theorem dX12_variable_33 : decode cX12_variable 33 = .ok (.getfield 297, 3) := by decide +kernel
theorem dX12_variable_36 : decode cX12_variable 36 = .ok (.iaload, 1) := by decide +kernel
theorem dX12_variable_37 : decode cX12_variable 37 = .ok (.if_icmp .eq 6, 3) := by decide +kernel
theorem dX12_variable_40 : decode cX12_variable 40 = .ok (.goto 9, 3) := by decide +kernel
theorem dX12_variable_43 : decode cX12_variable 43 = .ok (.aload_n 0, 1) := by decide +kernel
theorem dX12_variable_44 : decode cX12_variable 44 = .ok (.invokevirtual 315, 3) := by decide +kernel
theorem dX12_variable_47 : decode cX12_variable 47 = .ok (.iload_n 1, 1) := by decide +kernel
theorem dX12_variable_48 : decode cX12_variable 48 = .ok (.ireturn, 1) := by decide +kernel
theorem dX12_variable_49 : decode cX12_variable 49 = .ok (.iinc 1 1, 3) := by decide +kernel
theorem dX12_variable_52 : decode cX12_variable 52 = .ok (.goto (-50), 3) := by decide +kernel
theorem dX12_variable_55 : decode cX12_variable 55 = .ok (.aload_n 0, 1) := by decide +kernel
theorem dX12_variable_56 : decode cX12_variable 56 = .ok (.getfield 91, 3) := by decide +kernel
theorem dX12_variable_59 : decode cX12_variable 59 = .ok (.aload_n 0, 1) := by decide +kernel
theorem dX12_variable_60 : decode cX12_variable 60 = .ok (.getfield 384, 3) := by decide +kernel
theorem dX12_variable_63 : decode cX12_variable 63 = .ok (.iaload, 1) := by decide +kernel
theorem dX12_variable_64 : decode cX12_variable 64 = .ok (.iconst 3, 1) := by decide +kernel
theorem dX12_variable_65 : decode cX12_variable 65 = .ok (.if_icmp .ne 10, 3) := by decide +kernel
theorem dX12_variable_68 : decode cX12_variable 68 = .ok (.aload_n 0, 1) := by decide +kernel
theorem dX12_variable_69 : decode cX12_variable 69 = .ok (.iconst 2, 1) := by decide +kernel
theorem dX12_variable_70 : decode cX12_variable 70 = .ok (.invokevirtual 309, 3) := by decide +kernel
theorem dX12_variable_73 : decode cX12_variable 73 = .ok (.iconst (-1), 1) := by decide +kernel
theorem dX12_variable_74 : decode cX12_variable 74 = .ok (.ireturn, 1) := by decide +kernel
theorem dX12_variable_75 : decode cX12_variable 75 = .ok (.aload_n 0, 1) := by decide +kernel
theorem dX12_variable_76 : decode cX12_variable 76 = .ok (.getfield 94, 3) := by decide +kernel
theorem dX12_variable_79 : decode cX12_variable 79 = .ok (.iconst 3, 1) := by decide +kernel
theorem dX12_variable_80 : decode cX12_variable 80 = .ok (.aload_n 0, 1) := by decide +kernel
theorem dX12_variable_81 : decode cX12_variable 81 = .ok (.getfield 384, 3) := by decide +kernel
theorem dX12_variable_84 : decode cX12_variable 84 = .ok (.imul, 1) := by decide +kernel
theorem dX12_variable_85 : decode cX12_variable 85 = .ok (.aload_n 0, 1) := by decide +kernel
theorem dX12_variable_86 : decode cX12_variable 86 = .ok (.getfield 91, 3) := by decide +kernel
theorem dX12_variable_89 : decode cX12_variable 89 = .ok (.aload_n 0, 1) := by decide +kernel
theorem dX12_variable_90 : decode cX12_variable 90 = .ok (.getfield 384, 3) := by decide +kernel
theorem dX12_variable_93 : decode cX12_variable 93 = .ok (.iaload, 1) := by decide +kernel
theorem dX12_variable_94 : decode cX12_variable 94 = .ok (.iadd, 1) := by decide +kernel
theorem dX12_variable_95 : decode cX12_variable 95 = .ok (.aload_n 0, 1) := by decide +kernel
theorem dX12_variable_96 : decode cX12_variable 96 = .ok (.getfield 27, 3) := by decide +kernel
theorem dX12_variable_99 : decode cX12_variable 99 = .ok (.aload_n 0, 1) := by decide +kernel
theorem dX12_variable_100 : decode cX12_variable 100 = .ok (.getfield 297, 3) := by decide +kernel
theorem dX12_variable_103 : decode cX12_variable 103 = .ok (.iaload, 1) := by decide +kernel
theorem dX12_variable_104 : decode cX12_variable 104 = .ok (.iastore, 1) := by decide +kernel
theorem dX12_variable_105 : decode cX12_variable 105 = .ok (.aload_n 0, 1) := by decide +kernel
theorem dX12_variable_106 : decode cX12_variable 106 = .ok (.getfield 91, 3) := by decide +kernel
theorem dX12_variable_109 : decode cX12_variable 109 = .ok (.aload_n 0, 1) := by decide +kernel
theorem dX12_variable_110 : decode cX12_variable 110 = .ok (.getfield 384, 3) := by decide +kernel
theorem dX12_variable_113 : decode cX12_variable 113 = .ok (.dup2, 1) := by decide +kernel
theorem dX12_variable_114 : decode cX12_variable 114 = .ok (.iaload, 1) := by decide +kernel
theorem dX12_variable_115 : decode cX12_variable 115 = .ok (.iconst 1, 1) := by decide +kernel
theorem dX12_variable_116 : decode cX12_variable 116 = .ok (.iadd, 1) := by decide +kernel
theorem dX12_variable_117 : decode cX12_variable 117 = .ok (.iastore, 1) := by decide +kernel
theorem dX12_variable_118 : decode cX12_variable 118 = .ok (.aload_n 0, 1) := by decide +kernel
theorem dX12_variable_119 : decode cX12_variable 119 = .ok (.invokevirtual 315, 3) := by decide +kernel
theorem dX12_variable_122 : decode cX12_variable 122 = .ok (.aload_n 0, 1) := by decide +kernel
theorem dX12_variable_123 : decode cX12_variable 123 = .ok (.getfield 91, 3) := by decide +kernel
theorem dX12_variable_126 : decode cX12_variable 126 = .ok (.aload_n 0, 1) := by decide +kernel
theorem dX12_variable_127 : decode cX12_variable 127 = .ok (.getfield 384, 3) := by decide +kernel
theorem dX12_variable_130 : decode cX12_variable 130 = .ok (.iaload, 1) := by decide +kernel
theorem dX12_variable_131 : decode cX12_variable 131 = .ok (.iconst 1, 1) := by decide +kernel
theorem dX12_variable_132 : decode cX12_variable 132 = .ok (.isub, 1) := by decide +kernel
theorem dX12_variable_133 : decode cX12_variable 133 = .ok (.ireturn, 1) := by decide +kernel
def fX12_variable_2F (k2 : MS → Int32 → Option (MS × Int32)) (h : MS) (x1 : Int32) : Option (MS × Int32) :=
  oC (ix (mI h 65) (mlen 42)) (if (mA h 42 (Int32.toNatClampNeg (mI h 65))) ≤ x1 then (oC (ix (mI h 65) (mlen 42)) (if (mA h 42 (Int32.toNatClampNeg (mI h 65))) = 3 then (oB (fX12_fail h 2) (fun h16 => some (h16, (-1)))) else (oC (ix (mI h 65) (mlen 42)) (oC (ix (mI h 11) (mlen 7)) (oC (ix ((3 * (mI h 65)) + (mA h 42 (Int32.toNatClampNeg (mI h 65)))) (mlen 43)) (oL (mSA h 43 (Int32.toNatClampNeg ((3 * (mI h 65)) + (mA h 42 (Int32.toNatClampNeg (mI h 65))))) (mA h 7 (Int32.toNatClampNeg (mI h 11)))) (fun h8 => oC (ix (mI h8 65) (mlen 42)) (oC (ix (mI h8 65) (mlen 42)) (oL (mSA h8 42 (Int32.toNatClampNeg (mI h8 65)) ((mA h8 42 (Int32.toNatClampNeg (mI h8 65))) + 1)) (fun h11 => oB (fX12_next h11 ) (fun h13 => oC (ix (mI h13 65) (mlen 42)) (some (h13, ((mA h13 42 (Int32.toNatClampNeg (mI h13 65))) - 1)))))))))))))) else (oC (ix ((3 * (mI h 65)) + x1) (mlen 43)) (oC (ix (mI h 11) (mlen 7)) (if (mA h 43 (Int32.toNatClampNeg ((3 * (mI h 65)) + x1))) = (mA h 7 (Int32.toNatClampNeg (mI h 11))) then (oB (fX12_next h ) (fun h21 => some (h21, x1))) else (oL (x1 + 1) (fun y22 => k2 h y22))))))
set_option maxHeartbeats 4000000 in
theorem wfX12_variable_2F {args : Array Value} (b : Bd p s m c cX12_variable 2 RX12 D aC) (hlk : meth.locks = false) (hr : meth.sig.returnType = some .int) {Z : State → Prop} (zs : Z s) (zk : ZOK Z (Rg ad)) {hz : MS} {rz : Int32} {k2 : MS → Int32 → Option (MS × Int32)} (H2 : ∀ (h : MS) (x1 : Int32), ∀ (H : Heap) (locs : List Loc) (ls : Array Slot), k2 h x1 = some (hz, rz) → CE (EM D aC ad h) (Rg ad) s H locs → lv_has ls 2 [(0, .ref (ad 116)), (1, .int x1)] → W p l e (RM 2 41 0 0) s m args below meth c H locs 0 0 (MQ below (PQ (EM D aC ad hz) (Rg ad) (some (.int rz))) args s 0 0 (Rg ad)) (F0 m 2 ls [])) {h : MS} {x1 : Int32}  {H : Heap} {locs : List Loc} {ls : Array Slot} (hf : fX12_variable_2F k2 h x1 = some (hz, rz)) (hE : CE (EM D aC ad h) (Rg ad) s H locs) (hl : lv_has ls 2 [(0, .ref (ad 116)), (1, .int x1)]) : W p l e (RM 2 41 0 0) s m args below meth c H locs 0 0 (MQ below (PQ (EM D aC ad hz) (Rg ad) (some (.int rz))) args s 0 0 (Rg ad)) (F0 m 2 ls []) := by
  unfold fX12_variable_2F at hf
  refine lv_iload_n b.1 b.2.1 dX12_variable_2 rfl (lv_at hl 1 rfl) ?_
  refine lv_aload_n b.1 b.2.1 dX12_variable_3 rfl (lv_at hl 0 rfl) ?_
  refine gM_91 b hE dX12_variable_4 ?_
  refine lv_aload_n b.1 b.2.1 dX12_variable_7 rfl (lv_at hl 0 rfl) ?_
  refine gM_384 b hE dX12_variable_8 ?_
  obtain ⟨g1, hf⟩ := oC_s hf
  refine m_iald b hE rfl rfl g1 dX12_variable_11 ?_
  refine lv_icmp_ge (tgt := 55) b.1 b.2.1 dX12_variable_12 (by decide) (fun c2 => ?_) (fun c2 => ?_)
  · have hf := oI_t c2 hf
    refine lv_aload_n b.1 b.2.1 dX12_variable_55 rfl (lv_at hl 0 rfl) ?_
    refine gM_91 b hE dX12_variable_56 ?_
    refine lv_aload_n b.1 b.2.1 dX12_variable_59 rfl (lv_at hl 0 rfl) ?_
    refine gM_384 b hE dX12_variable_60 ?_
    obtain ⟨g3, hf⟩ := oC_s hf
    refine m_iald b hE rfl rfl g3 dX12_variable_63 ?_
    refine lv_iconst (v := 3) b.1 b.2.1 dX12_variable_64 (by decide) ?_
    refine lv_icmp_ne (tgt := 75) b.1 b.2.1 dX12_variable_65 (by decide) (fun c4 => ?_) (fun c4 => ?_)
    · have hf := oI_f c4 hf
      refine lv_aload_n b.1 b.2.1 dX12_variable_75 rfl (lv_at hl 0 rfl) ?_
      refine gM_94 b hE dX12_variable_76 ?_
      refine lv_iconst (v := 3) b.1 b.2.1 dX12_variable_79 (by decide) ?_
      refine lv_aload_n b.1 b.2.1 dX12_variable_80 rfl (lv_at hl 0 rfl) ?_
      refine gM_384 b hE dX12_variable_81 ?_
      refine lv_imul b.1 b.2.1 dX12_variable_84 ?_
      refine lv_aload_n b.1 b.2.1 dX12_variable_85 rfl (lv_at hl 0 rfl) ?_
      refine gM_91 b hE dX12_variable_86 ?_
      refine lv_aload_n b.1 b.2.1 dX12_variable_89 rfl (lv_at hl 0 rfl) ?_
      refine gM_384 b hE dX12_variable_90 ?_
      obtain ⟨g5, hf⟩ := oC_s hf
      refine m_iald b hE rfl rfl g5 dX12_variable_93 ?_
      refine lv_iadd b.1 b.2.1 dX12_variable_94 ?_
      refine lv_aload_n b.1 b.2.1 dX12_variable_95 rfl (lv_at hl 0 rfl) ?_
      refine gM_27 b hE dX12_variable_96 ?_
      refine lv_aload_n b.1 b.2.1 dX12_variable_99 rfl (lv_at hl 0 rfl) ?_
      refine gM_297 b hE dX12_variable_100 ?_
      obtain ⟨g6, hf⟩ := oC_s hf
      refine m_iald b hE rfl rfl g6 dX12_variable_103 ?_
      obtain ⟨g7, hf⟩ := oC_s hf
      obtain ⟨h8, eh8, hf⟩ := oL_s hf
      refine n_iast b hE rfl rfl g7 eh8 dX12_variable_104 (fun H locs hE => ?_)
      refine lv_aload_n b.1 b.2.1 dX12_variable_105 rfl (lv_at hl 0 rfl) ?_
      refine gM_91 b hE dX12_variable_106 ?_
      refine lv_aload_n b.1 b.2.1 dX12_variable_109 rfl (lv_at hl 0 rfl) ?_
      refine gM_384 b hE dX12_variable_110 ?_
      refine lv_dup2_11 b.1 b.2.1 dX12_variable_113 rfl rfl ?_
      obtain ⟨g9, hf⟩ := oC_s hf
      refine m_iald b hE rfl rfl g9 dX12_variable_114 ?_
      refine lv_iconst (v := 1) b.1 b.2.1 dX12_variable_115 (by decide) ?_
      refine lv_iadd b.1 b.2.1 dX12_variable_116 ?_
      obtain ⟨g10, hf⟩ := oC_s hf
      obtain ⟨h11, eh11, hf⟩ := oL_s hf
      refine n_iast b hE rfl rfl g10 eh11 dX12_variable_117 (fun H locs hE => ?_)
      refine lv_aload_n b.1 b.2.1 dX12_variable_118 rfl (lv_at hl 0 rfl) ?_
      obtain ⟨h13, hc12, hf⟩ := oB_s hf
      refine k_callV0 (C := RX12) b zs zk hE (CX12_next l D aC ad zk hc12) mc_X12_next (in7 117 rfl rfl) mi_X12_next ms_X12_next ini_RX12 ok_X12_next (m_recv b hE) ⟨Nat.le_of_ble_eq_true rfl, Nat.le_of_ble_eq_true rfl⟩ rfl hl.1 rfl (k_room _ (by exact Nat.le_of_ble_eq_true rfl)) ⟨Nat.le_refl _, Nat.le_refl _⟩ dX12_variable_119 (fun H locs hE => ?_)
      refine lv_aload_n b.1 b.2.1 dX12_variable_122 rfl (lv_at hl 0 rfl) ?_
      refine gM_91 b hE dX12_variable_123 ?_
      refine lv_aload_n b.1 b.2.1 dX12_variable_126 rfl (lv_at hl 0 rfl) ?_
      refine gM_384 b hE dX12_variable_127 ?_
      obtain ⟨g14, hf⟩ := oC_s hf
      refine m_iald b hE rfl rfl g14 dX12_variable_130 ?_
      refine lv_iconst (v := 1) b.1 b.2.1 dX12_variable_131 (by decide) ?_
      refine lv_isub b.1 b.2.1 dX12_variable_132 ?_
      cases hf
      exact k_iret b hlk hr hE (Nat.le_refl _) (Nat.le_refl _) dX12_variable_133
    · have hf := oI_t c4 hf
      refine lv_aload_n b.1 b.2.1 dX12_variable_68 rfl (lv_at hl 0 rfl) ?_
      refine lv_iconst (v := 2) b.1 b.2.1 dX12_variable_69 (by decide) ?_
      obtain ⟨h16, hc15, hf⟩ := oB_s hf
      refine k_callV0 (C := RX12) b zs zk hE (CX12_fail l D aC ad zk hc15) mc_X12_fail (in7 121 rfl rfl) mi_X12_fail ms_X12_fail ini_RX12 ok_X12_fail (m_recv b hE) ⟨Nat.le_of_ble_eq_true rfl, Nat.le_of_ble_eq_true rfl⟩ rfl hl.1 rfl (k_room _ (by exact Nat.le_of_ble_eq_true rfl)) ⟨Nat.le_refl _, Nat.le_refl _⟩ dX12_variable_70 (fun H locs hE => ?_)
      refine lv_iconst (v := (-1)) b.1 b.2.1 dX12_variable_73 (by decide) ?_
      cases hf
      exact k_iret b hlk hr hE (Nat.le_refl _) (Nat.le_refl _) dX12_variable_74
  · have hf := oI_f c2 hf
    refine lv_aload_n b.1 b.2.1 dX12_variable_15 rfl (lv_at hl 0 rfl) ?_
    refine gM_94 b hE dX12_variable_16 ?_
    refine lv_iconst (v := 3) b.1 b.2.1 dX12_variable_19 (by decide) ?_
    refine lv_aload_n b.1 b.2.1 dX12_variable_20 rfl (lv_at hl 0 rfl) ?_
    refine gM_384 b hE dX12_variable_21 ?_
    refine lv_imul b.1 b.2.1 dX12_variable_24 ?_
    refine lv_iload_n b.1 b.2.1 dX12_variable_25 rfl (lv_at hl 1 rfl) ?_
    refine lv_iadd b.1 b.2.1 dX12_variable_26 ?_
    obtain ⟨g17, hf⟩ := oC_s hf
    refine m_iald b hE rfl rfl g17 dX12_variable_27 ?_
    refine lv_aload_n b.1 b.2.1 dX12_variable_28 rfl (lv_at hl 0 rfl) ?_
    refine gM_27 b hE dX12_variable_29 ?_
    refine lv_aload_n b.1 b.2.1 dX12_variable_32 rfl (lv_at hl 0 rfl) ?_
    refine gM_297 b hE dX12_variable_33 ?_
    obtain ⟨g18, hf⟩ := oC_s hf
    refine m_iald b hE rfl rfl g18 dX12_variable_36 ?_
    refine lv_icmp_eq (tgt := 43) b.1 b.2.1 dX12_variable_37 (by decide) (fun c19 => ?_) (fun c19 => ?_)
    · have hf := oI_t c19 hf
      refine lv_aload_n b.1 b.2.1 dX12_variable_43 rfl (lv_at hl 0 rfl) ?_
      obtain ⟨h21, hc20, hf⟩ := oB_s hf
      refine k_callV0 (C := RX12) b zs zk hE (CX12_next l D aC ad zk hc20) mc_X12_next (in7 117 rfl rfl) mi_X12_next ms_X12_next ini_RX12 ok_X12_next (m_recv b hE) ⟨Nat.le_of_ble_eq_true rfl, Nat.le_of_ble_eq_true rfl⟩ rfl hl.1 rfl (k_room _ (by exact Nat.le_of_ble_eq_true rfl)) ⟨Nat.le_refl _, Nat.le_refl _⟩ dX12_variable_44 (fun H locs hE => ?_)
      refine lv_iload_n b.1 b.2.1 dX12_variable_47 rfl (lv_at hl 1 rfl) ?_
      cases hf
      exact k_iret b hlk hr hE (Nat.le_refl _) (Nat.le_refl _) dX12_variable_48
    · have hf := oI_f c19 hf
      refine lv_goto (tgt := 49) b.1 b.2.1 dX12_variable_40 (by decide) ?_
      obtain ⟨y22, ey22, hf⟩ := oL_s hf
      refine lv_iinc (v := y22) (lv' := [(1, .int y22), (0, .ref (ad 116))]) b.1 b.2.1 dX12_variable_49 hl (k := 1) rfl (by rw [ey22]; rfl) (by decide) rfl (fun ls hl => ?_)
      refine lv_goto (tgt := 2) b.1 b.2.1 dX12_variable_52 (by decide) ?_
      exact H2 h y22 _ _ _ hf hE (lv_sub hl [1, 0] rfl)
def fX12_variable_2  : Nat → MS → Int32 → Option (MS × Int32)
  | 0 => fun _ _ => none
  | n + 1 => fX12_variable_2F  (fX12_variable_2  n)
set_option maxHeartbeats 4000000 in
theorem wfX12_variable_2 {args : Array Value} (b : Bd p s m c cX12_variable 2 RX12 D aC) (hlk : meth.locks = false) (hr : meth.sig.returnType = some .int) {Z : State → Prop} (zs : Z s) (zk : ZOK Z (Rg ad)) {hz : MS} {rz : Int32} : ∀ n : Nat, ∀ (h : MS) (x1 : Int32), ∀ (H : Heap) (locs : List Loc) (ls : Array Slot), fX12_variable_2  n h x1 = some (hz, rz) → CE (EM D aC ad h) (Rg ad) s H locs → lv_has ls 2 [(0, .ref (ad 116)), (1, .int x1)] → W p l e (RM 2 41 0 0) s m args below meth c H locs 0 0 (MQ below (PQ (EM D aC ad hz) (Rg ad) (some (.int rz))) args s 0 0 (Rg ad)) (F0 m 2 ls []) := by
  intro n
  induction n with
  | zero =>
    intro h x1 H locs ls hf
    have hf : (none : Option (MS × Int32)) = some _ := hf
    cases hf
  | succ n ih =>
    intro h x1 H locs ls hf hE hl
    exact wfX12_variable_2F b hlk hr zs zk  ih hf hE hl
def fX12_variable_0  (h : MS) : Option (MS × Int32) :=
  fX12_variable_2  FU h 0
set_option maxHeartbeats 4000000 in
theorem wfX12_variable_0 {args : Array Value} (b : Bd p s m c cX12_variable 2 RX12 D aC) (hlk : meth.locks = false) (hr : meth.sig.returnType = some .int) {Z : State → Prop} (zs : Z s) (zk : ZOK Z (Rg ad)) {hz : MS} {rz : Int32} {h : MS}  {H : Heap} {locs : List Loc} {ls : Array Slot} (hf : fX12_variable_0 h = some (hz, rz)) (hE : CE (EM D aC ad h) (Rg ad) s H locs) (hl : lv_has ls 2 [(0, .ref (ad 116))]) : W p l e (RM 2 41 0 0) s m args below meth c H locs 0 0 (MQ below (PQ (EM D aC ad hz) (Rg ad) (some (.int rz))) args s 0 0 (Rg ad)) (F0 m 0 ls []) := by
  unfold fX12_variable_0 at hf
  refine lv_iconst (v := 0) b.1 b.2.1 dX12_variable_0 (by decide) ?_
  refine lv_istore_n (lv' := [(1, .int 0), (0, .ref (ad 116))]) b.1 b.2.1 dX12_variable_1 rfl hl (by decide) rfl (fun ls hl => ?_)
  exact wfX12_variable_2 b hlk hr zs zk  FU h 0 _ _ _ hf hE (lv_sub hl [1, 0] rfl)
def fX12_variable (h : MS) : Option (MS × Int32) := fX12_variable_0 h 
set_option maxHeartbeats 4000000 in
theorem CX12_variable (l : Launch) (D : va_G) (aC : Nat → ClassId) (ad : Nat → Nat) {Z : State → Prop} (zk : ZOK Z (Rg ad)) {h : MS} {hz : MS} {rz : Int32} (hf : fX12_variable h = some (hz, rz)) : CM l D aC Z yX12_variable cX12_variable 2 (some .int) 2 41 0 0 (EM D aC ad h) [.ref (ad 116)] (EM D aC ad hz) (some (.int rz)) (Rg ad) := by
  refine CM.of rfl ?_
  intro p e s m below meth c b hr hlk hin2 zs hE
  refine k_ent (Nat.le_of_ble_eq_true rfl) (fun ls hl => ?_)
  exact wfX12_variable_0 b hlk hr zs zk hf hE (lv_sub hl [0] rfl)
theorem dX12_term_0 : decode cX12_term 0 = .ok (.aload_n 0, 1) := by decide +kernel
theorem dX12_term_1 : decode cX12_term 1 = .ok (.iconst 2, 1) := by decide +kernel
theorem dX12_term_2 : decode cX12_term 2 = .ok (.invokevirtual 312, 3) := by decide +kernel
theorem dX12_term_5 : decode cX12_term 5 = .ok (.ifCond .eq 8, 3) := by decide +kernel
theorem dX12_term_8 : decode cX12_term 8 = .ok (.aload_n 0, 1) := by decide +kernel
theorem dX12_term_9 : decode cX12_term 9 = .ok (.invokevirtual 413, 3) := by decide +kernel
theorem dX12_term_12 : decode cX12_term 12 = .ok (.ireturn, 1) := by decide +kernel
theorem dX12_term_13 : decode cX12_term 13 = .ok (.aload_n 0, 1) := by decide +kernel
theorem dX12_term_14 : decode cX12_term 14 = .ok (.getfield 297, 3) := by decide +kernel
theorem dX12_term_17 : decode cX12_term 17 = .ok (.istore_n 1, 1) := by decide +kernel
theorem dX12_term_18 : decode cX12_term 18 = .ok (.aload_n 0, 1) := by decide +kernel
theorem dX12_term_19 : decode cX12_term 19 = .ok (.iconst 1, 1) := by decide +kernel
theorem dX12_term_20 : decode cX12_term 20 = .ok (.invokevirtual 318, 3) := by decide +kernel
theorem dX12_term_23 : decode cX12_term 23 = .ok (.aload_n 0, 1) := by decide +kernel
theorem dX12_term_24 : decode cX12_term 24 = .ok (.getfield 294, 3) := by decide +kernel
theorem dX12_term_27 : decode cX12_term 27 = .ok (.ifCond .le 5, 3) := by decide +kernel
theorem dX12_term_30 : decode cX12_term 30 = .ok (.iconst (-1), 1) := by decide +kernel
theorem dX12_term_31 : decode cX12_term 31 = .ok (.ireturn, 1) := by decide +kernel
theorem dX12_term_32 : decode cX12_term 32 = .ok (.aload_n 0, 1) := by decide +kernel
theorem dX12_term_33 : decode cX12_term 33 = .ok (.aload_n 0, 1) := by decide +kernel
theorem dX12_term_34 : decode cX12_term 34 = .ok (.getfield 40, 3) := by decide +kernel
theorem dX12_term_37 : decode cX12_term 37 = .ok (.aload_n 0, 1) := by decide +kernel
theorem dX12_term_38 : decode cX12_term 38 = .ok (.getfield 338, 3) := by decide +kernel
theorem dX12_term_41 : decode cX12_term 41 = .ok (.iload_n 1, 1) := by decide +kernel
theorem dX12_term_42 : decode cX12_term 42 = .ok (.invokevirtual 374, 3) := by decide +kernel
theorem dX12_term_45 : decode cX12_term 45 = .ok (.istore_n 2, 1) := by decide +kernel
theorem dX12_term_46 : decode cX12_term 46 = .ok (.iload_n 2, 1) := by decide +kernel
theorem dX12_term_47 : decode cX12_term 47 = .ok (.iconst (-1), 1) := by decide +kernel
theorem dX12_term_48 : decode cX12_term 48 = .ok (.if_icmp .ne 7, 3) := by decide +kernel
theorem dX12_term_51 : decode cX12_term 51 = .ok (.iconst (-1), 1) := by decide +kernel
theorem dX12_term_52 : decode cX12_term 52 = .ok (.goto 7, 3) := by decide +kernel
theorem dX12_term_55 : decode cX12_term 55 = .ok (.bipush 10, 2) := by decide +kernel
theorem dX12_term_57 : decode cX12_term 57 = .ok (.iload_n 2, 1) := by decide +kernel
theorem dX12_term_58 : decode cX12_term 58 = .ok (.iadd, 1) := by decide +kernel
theorem dX12_term_59 : decode cX12_term 59 = .ok (.ireturn, 1) := by decide +kernel
def fX12_term_0  (h : MS) : Option (MS × Int32) :=
  oB (fX12_is h 2) (fun r2 => if r2 = 0 then (oL (mI h 11) (fun y4 => oB (fX12_must h 1) (fun h6 => if (mI h6 13) ≤ 0 then (oB2 (fX12_known h6 25 (mI h6 18) y4) (fun h10 r9 => if r9 = (-1) then (some (h10, (-1))) else (some (h10, (10 + r9))))) else (some (h6, (-1)))))) else (oB2 (fX12_variable h ) (fun h14 r13 => some (h14, r13))))
set_option maxHeartbeats 4000000 in
theorem wfX12_term_0 {args : Array Value} (b : Bd p s m c cX12_term 3 RX12 D aC) (hlk : meth.locks = false) (hr : meth.sig.returnType = some .int) {Z : State → Prop} (zs : Z s) (zk : ZOK Z (Rg ad)) {hz : MS} {rz : Int32} {h : MS}  {H : Heap} {locs : List Loc} {ls : Array Slot} (hf : fX12_term_0 h = some (hz, rz)) (hE : CE (EM D aC ad h) (Rg ad) s H locs) (hl : lv_has ls 3 [(0, .ref (ad 116))]) : W p l e (RM 3 62 0 0) s m args below meth c H locs 0 0 (MQ below (PQ (EM D aC ad hz) (Rg ad) (some (.int rz))) args s 0 0 (Rg ad)) (F0 m 0 ls []) := by
  unfold fX12_term_0 at hf
  refine lv_aload_n b.1 b.2.1 dX12_term_0 rfl (lv_at hl 0 rfl) ?_
  refine lv_iconst (v := 2) b.1 b.2.1 dX12_term_1 (by decide) ?_
  obtain ⟨r2, hc1, hf⟩ := oB_s hf
  refine k_callV0 (C := RX12) b zs zk hE (CX12_is l D aC ad zk hc1) mc_X12_is (in7 109 rfl rfl) mi_X12_is ms_X12_is ini_RX12 ok_X12_is (m_recv b hE) ⟨Nat.le_of_ble_eq_true rfl, Nat.le_of_ble_eq_true rfl⟩ rfl hl.1 rfl (k_room _ (by exact Nat.le_of_ble_eq_true rfl)) ⟨Nat.le_refl _, Nat.le_refl _⟩ dX12_term_2 (fun H locs hE => ?_)
  refine lv_if_eq (tgt := 13) b.1 b.2.1 dX12_term_5 (by decide) (fun c3 => ?_) (fun c3 => ?_)
  · have hf := oI_t c3 hf
    refine lv_aload_n b.1 b.2.1 dX12_term_13 rfl (lv_at hl 0 rfl) ?_
    refine gM_297 b hE dX12_term_14 ?_
    obtain ⟨y4, ey4, hf⟩ := oL_s hf
    refine k_nmI ey4 ?_
    refine lv_istore_n (lv' := [(1, .int y4), (0, .ref (ad 116))]) b.1 b.2.1 dX12_term_17 rfl hl (by decide) rfl (fun ls hl => ?_)
    refine lv_aload_n b.1 b.2.1 dX12_term_18 rfl (lv_at hl 1 rfl) ?_
    refine lv_iconst (v := 1) b.1 b.2.1 dX12_term_19 (by decide) ?_
    obtain ⟨h6, hc5, hf⟩ := oB_s hf
    refine k_callV0 (C := RX12) b zs zk hE (CX12_must l D aC ad zk hc5) mc_X12_must (in7 129 rfl rfl) mi_X12_must ms_X12_must ini_RX12 ok_X12_must (m_recv b hE) ⟨Nat.le_of_ble_eq_true rfl, Nat.le_of_ble_eq_true rfl⟩ rfl hl.1 rfl (k_room _ (by exact Nat.le_of_ble_eq_true rfl)) ⟨Nat.le_refl _, Nat.le_refl _⟩ dX12_term_20 (fun H locs hE => ?_)
    refine lv_aload_n b.1 b.2.1 dX12_term_23 rfl (lv_at hl 1 rfl) ?_
    refine gM_294 b hE dX12_term_24 ?_
    refine lv_if_le (tgt := 32) b.1 b.2.1 dX12_term_27 (by decide) (fun c7 => ?_) (fun c7 => ?_)
    · have hf := oI_t c7 hf
      refine lv_aload_n b.1 b.2.1 dX12_term_32 rfl (lv_at hl 1 rfl) ?_
      refine lv_aload_n b.1 b.2.1 dX12_term_33 rfl (lv_at hl 1 rfl) ?_
      refine gM_40 b hE dX12_term_34 ?_
      refine lv_aload_n b.1 b.2.1 dX12_term_37 rfl (lv_at hl 1 rfl) ?_
      refine gM_338 b hE dX12_term_38 ?_
      refine lv_iload_n b.1 b.2.1 dX12_term_41 rfl (lv_at hl 0 rfl) ?_
      obtain ⟨h10, r9, hc8, hf⟩ := oB2_s hf
      refine k_callV0 (C := RX12) b zs zk hE (CX12_known l D aC ad zk hc8) mc_X12_known (in7 165 rfl rfl) mi_X12_known ms_X12_known ini_RX12 ok_X12_known (m_recv b hE) ⟨Nat.le_of_ble_eq_true rfl, Nat.le_of_ble_eq_true rfl⟩ rfl hl.1 rfl (k_room _ (by exact Nat.le_of_ble_eq_true rfl)) ⟨Nat.le_refl _, Nat.le_refl _⟩ dX12_term_42 (fun H locs hE => ?_)
      refine lv_istore_n (lv' := [(2, .int r9), (1, .int y4), (0, .ref (ad 116))]) b.1 b.2.1 dX12_term_45 rfl hl (by decide) rfl (fun ls hl => ?_)
      have hl := lv_sub (l' := [(2, .int r9)]) hl [0] rfl
      refine lv_iload_n b.1 b.2.1 dX12_term_46 rfl (lv_at hl 0 rfl) ?_
      refine lv_iconst (v := (-1)) b.1 b.2.1 dX12_term_47 (by decide) ?_
      refine lv_icmp_ne (tgt := 55) b.1 b.2.1 dX12_term_48 (by decide) (fun c11 => ?_) (fun c11 => ?_)
      · have hf := oI_f c11 hf
        refine lv_bipush (v := 10) b.1 b.2.1 dX12_term_55 (by decide) ?_
        refine lv_iload_n b.1 b.2.1 dX12_term_57 rfl (lv_at hl 0 rfl) ?_
        refine lv_iadd b.1 b.2.1 dX12_term_58 ?_
        cases hf
        exact k_iret b hlk hr hE (Nat.le_refl _) (Nat.le_refl _) dX12_term_59
      · have hf := oI_t c11 hf
        refine lv_iconst (v := (-1)) b.1 b.2.1 dX12_term_51 (by decide) ?_
        refine lv_goto (tgt := 59) b.1 b.2.1 dX12_term_52 (by decide) ?_
        cases hf
        exact k_iret b hlk hr hE (Nat.le_refl _) (Nat.le_refl _) dX12_term_59
    · have hf := oI_f c7 hf
      refine lv_iconst (v := (-1)) b.1 b.2.1 dX12_term_30 (by decide) ?_
      cases hf
      exact k_iret b hlk hr hE (Nat.le_refl _) (Nat.le_refl _) dX12_term_31
  · have hf := oI_f c3 hf
    refine lv_aload_n b.1 b.2.1 dX12_term_8 rfl (lv_at hl 0 rfl) ?_
    obtain ⟨h14, r13, hc12, hf⟩ := oB2_s hf
    refine k_callV0 (C := RX12) b zs zk hE (CX12_variable l D aC ad zk hc12) mc_X12_variable (in7 161 rfl rfl) mi_X12_variable ms_X12_variable ini_RX12 ok_X12_variable (m_recv b hE) ⟨Nat.le_of_ble_eq_true rfl, Nat.le_of_ble_eq_true rfl⟩ rfl hl.1 rfl (k_room _ (by exact Nat.le_of_ble_eq_true rfl)) ⟨Nat.le_refl _, Nat.le_refl _⟩ dX12_term_9 (fun H locs hE => ?_)
    cases hf
    exact k_iret b hlk hr hE (Nat.le_refl _) (Nat.le_refl _) dX12_term_12
def fX12_term (h : MS) : Option (MS × Int32) := fX12_term_0 h 
set_option maxHeartbeats 4000000 in
theorem CX12_term (l : Launch) (D : va_G) (aC : Nat → ClassId) (ad : Nat → Nat) {Z : State → Prop} (zk : ZOK Z (Rg ad)) {h : MS} {hz : MS} {rz : Int32} (hf : fX12_term h = some (hz, rz)) : CM l D aC Z yX12_term cX12_term 3 (some .int) 3 62 0 0 (EM D aC ad h) [.ref (ad 116)] (EM D aC ad hz) (some (.int rz)) (Rg ad) := by
  refine CM.of rfl ?_
  intro p e s m below meth c b hr hlk hin2 zs hE
  refine k_ent (Nat.le_of_ble_eq_true rfl) (fun ls hl => ?_)
  exact wfX12_term_0 b hlk hr zs zk hf hE (lv_sub hl [0] rfl)
theorem dX12_stacks_0 : decode cX12_stacks 0 = .ok (.aload_n 0, 1) := by decide +kernel
theorem dX12_stacks_1 : decode cX12_stacks 1 = .ok (.getfield 159, 3) := by decide +kernel
theorem dX12_stacks_4 : decode cX12_stacks 4 = .ok (.aload_n 0, 1) := by decide +kernel
theorem dX12_stacks_5 : decode cX12_stacks 5 = .ok (.getfield 416, 3) := by decide +kernel
theorem dX12_stacks_8 : decode cX12_stacks 8 = .ok (.iload_n 1, 1) := by decide +kernel
theorem dX12_stacks_9 : decode cX12_stacks 9 = .ok (.iastore, 1) := by decide +kernel
theorem dX12_stacks_10 : decode cX12_stacks 10 = .ok (.aload_n 0, 1) := by decide +kernel
theorem dX12_stacks_11 : decode cX12_stacks 11 = .ok (.dup, 1) := by decide +kernel
theorem dX12_stacks_12 : decode cX12_stacks 12 = .ok (.getfield 416, 3) := by decide +kernel
theorem dX12_stacks_15 : decode cX12_stacks 15 = .ok (.iconst 1, 1) := by decide +kernel
theorem dX12_stacks_16 : decode cX12_stacks 16 = .ok (.iadd, 1) := by decide +kernel
theorem dX12_stacks_17 : decode cX12_stacks 17 = .ok (.putfield 416, 3) := by decide +kernel
theorem dX12_stacks_20 : decode cX12_stacks 20 = .ok (.aload_n 0, 1) := by decide +kernel
theorem dX12_stacks_21 : decode cX12_stacks 21 = .ok (.invokevirtual 315, 3) := by decide +kernel
theorem dX12_stacks_24 : decode cX12_stacks 24 = .ok (.return_, 1) := by decide +kernel
def fX12_stacks_0  (h : MS) (x1 : Int32) : Option (MS) :=
  oC (ix (mI h 70) (mlen 71)) (oL (mSA h 71 (Int32.toNatClampNeg (mI h 70)) x1) (fun h2 => oL (mSI h2 70 ((mI h2 70) + 1)) (fun h3 => oB (fX12_next h3 ) (fun h5 => some (h5)))))
set_option maxHeartbeats 4000000 in
theorem wfX12_stacks_0 {args : Array Value} (b : Bd p s m c cX12_stacks 2 RX12 D aC) (hlk : meth.locks = false) (hr : meth.sig.returnType = none) {Z : State → Prop} (zs : Z s) (zk : ZOK Z (Rg ad)) {hz : MS} {h : MS} {x1 : Int32}  {H : Heap} {locs : List Loc} {ls : Array Slot} (hf : fX12_stacks_0 h x1 = some hz) (hE : CE (EM D aC ad h) (Rg ad) s H locs) (hl : lv_has ls 2 [(0, .ref (ad 116)), (1, .int x1)]) : W p l e (RM 2 41 0 0) s m args below meth c H locs 0 0 (MQ below (PQ (EM D aC ad hz) (Rg ad) none) args s 0 0 (Rg ad)) (F0 m 0 ls []) := by
  unfold fX12_stacks_0 at hf
  refine lv_aload_n b.1 b.2.1 dX12_stacks_0 rfl (lv_at hl 0 rfl) ?_
  refine gM_159 b hE dX12_stacks_1 ?_
  refine lv_aload_n b.1 b.2.1 dX12_stacks_4 rfl (lv_at hl 0 rfl) ?_
  refine gM_416 b hE dX12_stacks_5 ?_
  refine lv_iload_n b.1 b.2.1 dX12_stacks_8 rfl (lv_at hl 1 rfl) ?_
  obtain ⟨g1, hf⟩ := oC_s hf
  obtain ⟨h2, eh2, hf⟩ := oL_s hf
  refine n_iast b hE rfl rfl g1 eh2 dX12_stacks_9 (fun H locs hE => ?_)
  refine lv_aload_n b.1 b.2.1 dX12_stacks_10 rfl (lv_at hl 0 rfl) ?_
  refine lv_dup b.1 b.2.1 dX12_stacks_11 rfl ?_
  refine gM_416 b hE dX12_stacks_12 ?_
  refine lv_iconst (v := 1) b.1 b.2.1 dX12_stacks_15 (by decide) ?_
  refine lv_iadd b.1 b.2.1 dX12_stacks_16 ?_
  obtain ⟨h3, eh3, hf⟩ := oL_s hf
  refine pM_416 b hE eh3 dX12_stacks_17 (fun H locs hE => ?_)
  refine lv_aload_n b.1 b.2.1 dX12_stacks_20 rfl (lv_at hl 0 rfl) ?_
  obtain ⟨h5, hc4, hf⟩ := oB_s hf
  refine k_callV0 (C := RX12) b zs zk hE (CX12_next l D aC ad zk hc4) mc_X12_next (in7 117 rfl rfl) mi_X12_next ms_X12_next ini_RX12 ok_X12_next (m_recv b hE) ⟨Nat.le_of_ble_eq_true rfl, Nat.le_of_ble_eq_true rfl⟩ rfl hl.1 rfl (k_room _ (by exact Nat.le_of_ble_eq_true rfl)) ⟨Nat.le_refl _, Nat.le_refl _⟩ dX12_stacks_21 (fun H locs hE => ?_)
  cases hf
  exact k_vret b hlk hr hE (Nat.le_refl _) (Nat.le_refl _) dX12_stacks_24
def fX12_stacks (h : MS) (x1 : Int32) : Option (MS) := fX12_stacks_0 h x1
set_option maxHeartbeats 4000000 in
theorem CX12_stacks (l : Launch) (D : va_G) (aC : Nat → ClassId) (ad : Nat → Nat) {Z : State → Prop} (zk : ZOK Z (Rg ad)) {h : MS} {x1 : Int32} {hz : MS} (hf : fX12_stacks h x1 = some hz) : CM l D aC Z yX12_stacks cX12_stacks 2 (none) 2 41 0 0 (EM D aC ad h) [.ref (ad 116), .int x1] (EM D aC ad hz) none (Rg ad) := by
  refine CM.of rfl ?_
  intro p e s m below meth c b hr hlk hin2 zs hE
  refine k_ent (Nat.le_of_ble_eq_true rfl) (fun ls hl => ?_)
  exact wfX12_stacks_0 b hlk hr zs zk hf hE (lv_sub hl [0, 1] rfl)
theorem dX12_emit_0 : decode cX12_emit 0 = .ok (.aload_n 0, 1) := by decide +kernel
theorem dX12_emit_1 : decode cX12_emit 1 = .ok (.getfield 147, 3) := by decide +kernel
theorem dX12_emit_4 : decode cX12_emit 4 = .ok (.aload_n 0, 1) := by decide +kernel
theorem dX12_emit_5 : decode cX12_emit 5 = .ok (.getfield 356, 3) := by decide +kernel
theorem dX12_emit_8 : decode cX12_emit 8 = .ok (.iload_n 1, 1) := by decide +kernel
theorem dX12_emit_9 : decode cX12_emit 9 = .ok (.iastore, 1) := by decide +kernel
theorem dX12_emit_10 : decode cX12_emit 10 = .ok (.aload_n 0, 1) := by decide +kernel
theorem dX12_emit_11 : decode cX12_emit 11 = .ok (.getfield 150, 3) := by decide +kernel
theorem dX12_emit_14 : decode cX12_emit 14 = .ok (.aload_n 0, 1) := by decide +kernel
theorem dX12_emit_15 : decode cX12_emit 15 = .ok (.getfield 356, 3) := by decide +kernel
theorem dX12_emit_18 : decode cX12_emit 18 = .ok (.iload_n 2, 1) := by decide +kernel
theorem dX12_emit_19 : decode cX12_emit 19 = .ok (.iastore, 1) := by decide +kernel
theorem dX12_emit_20 : decode cX12_emit 20 = .ok (.aload_n 0, 1) := by decide +kernel
theorem dX12_emit_21 : decode cX12_emit 21 = .ok (.getfield 153, 3) := by decide +kernel
theorem dX12_emit_24 : decode cX12_emit 24 = .ok (.aload_n 0, 1) := by decide +kernel
theorem dX12_emit_25 : decode cX12_emit 25 = .ok (.getfield 356, 3) := by decide +kernel
theorem dX12_emit_28 : decode cX12_emit 28 = .ok (.iload_n 3, 1) := by decide +kernel
theorem dX12_emit_29 : decode cX12_emit 29 = .ok (.iastore, 1) := by decide +kernel
theorem dX12_emit_30 : decode cX12_emit 30 = .ok (.aload_n 0, 1) := by decide +kernel
theorem dX12_emit_31 : decode cX12_emit 31 = .ok (.dup, 1) := by decide +kernel
theorem dX12_emit_32 : decode cX12_emit 32 = .ok (.getfield 356, 3) := by decide +kernel
theorem dX12_emit_35 : decode cX12_emit 35 = .ok (.iconst 1, 1) := by decide +kernel
theorem dX12_emit_36 : decode cX12_emit 36 = .ok (.iadd, 1) := by decide +kernel
theorem dX12_emit_37 : decode cX12_emit 37 = .ok (.putfield 356, 3) := by decide +kernel
theorem dX12_emit_40 : decode cX12_emit 40 = .ok (.return_, 1) := by decide +kernel
def fX12_emit_0  (h : MS) (x1 : Int32) (x2 : Int32) (x3 : Int32) : Option (MS) :=
  oC (ix (mI h 24) (mlen 60)) (oL (mSA h 60 (Int32.toNatClampNeg (mI h 24)) x1) (fun h2 => oC (ix (mI h2 24) (mlen 61)) (oL (mSA h2 61 (Int32.toNatClampNeg (mI h2 24)) x2) (fun h4 => oC (ix (mI h4 24) (mlen 62)) (oL (mSA h4 62 (Int32.toNatClampNeg (mI h4 24)) x3) (fun h6 => oL (mSI h6 24 ((mI h6 24) + 1)) (fun h7 => some (h7))))))))
set_option maxHeartbeats 4000000 in
theorem wfX12_emit_0 {args : Array Value} (b : Bd p s m c cX12_emit 4 RX12 D aC) (hlk : meth.locks = false) (hr : meth.sig.returnType = none) {Z : State → Prop} (zs : Z s) (zk : ZOK Z (Rg ad)) {hz : MS} {h : MS} {x1 : Int32} {x2 : Int32} {x3 : Int32}  {H : Heap} {locs : List Loc} {ls : Array Slot} (hf : fX12_emit_0 h x1 x2 x3 = some hz) (hE : CE (EM D aC ad h) (Rg ad) s H locs) (hl : lv_has ls 4 [(0, .ref (ad 116)), (1, .int x1), (2, .int x2), (3, .int x3)]) : W p l e (RM 0 0 0 0) s m args below meth c H locs 0 0 (MQ below (PQ (EM D aC ad hz) (Rg ad) none) args s 0 0 (Rg ad)) (F0 m 0 ls []) := by
  unfold fX12_emit_0 at hf
  refine lv_aload_n b.1 b.2.1 dX12_emit_0 rfl (lv_at hl 0 rfl) ?_
  refine gM_147 b hE dX12_emit_1 ?_
  refine lv_aload_n b.1 b.2.1 dX12_emit_4 rfl (lv_at hl 0 rfl) ?_
  refine gM_356 b hE dX12_emit_5 ?_
  refine lv_iload_n b.1 b.2.1 dX12_emit_8 rfl (lv_at hl 1 rfl) ?_
  obtain ⟨g1, hf⟩ := oC_s hf
  obtain ⟨h2, eh2, hf⟩ := oL_s hf
  refine n_iast b hE rfl rfl g1 eh2 dX12_emit_9 (fun H locs hE => ?_)
  refine lv_aload_n b.1 b.2.1 dX12_emit_10 rfl (lv_at hl 0 rfl) ?_
  refine gM_150 b hE dX12_emit_11 ?_
  refine lv_aload_n b.1 b.2.1 dX12_emit_14 rfl (lv_at hl 0 rfl) ?_
  refine gM_356 b hE dX12_emit_15 ?_
  refine lv_iload_n b.1 b.2.1 dX12_emit_18 rfl (lv_at hl 2 rfl) ?_
  obtain ⟨g3, hf⟩ := oC_s hf
  obtain ⟨h4, eh4, hf⟩ := oL_s hf
  refine n_iast b hE rfl rfl g3 eh4 dX12_emit_19 (fun H locs hE => ?_)
  refine lv_aload_n b.1 b.2.1 dX12_emit_20 rfl (lv_at hl 0 rfl) ?_
  refine gM_153 b hE dX12_emit_21 ?_
  refine lv_aload_n b.1 b.2.1 dX12_emit_24 rfl (lv_at hl 0 rfl) ?_
  refine gM_356 b hE dX12_emit_25 ?_
  refine lv_iload_n b.1 b.2.1 dX12_emit_28 rfl (lv_at hl 3 rfl) ?_
  obtain ⟨g5, hf⟩ := oC_s hf
  obtain ⟨h6, eh6, hf⟩ := oL_s hf
  refine n_iast b hE rfl rfl g5 eh6 dX12_emit_29 (fun H locs hE => ?_)
  refine lv_aload_n b.1 b.2.1 dX12_emit_30 rfl (lv_at hl 0 rfl) ?_
  refine lv_dup b.1 b.2.1 dX12_emit_31 rfl ?_
  refine gM_356 b hE dX12_emit_32 ?_
  refine lv_iconst (v := 1) b.1 b.2.1 dX12_emit_35 (by decide) ?_
  refine lv_iadd b.1 b.2.1 dX12_emit_36 ?_
  obtain ⟨h7, eh7, hf⟩ := oL_s hf
  refine pM_356 b hE eh7 dX12_emit_37 (fun H locs hE => ?_)
  cases hf
  exact k_vret b hlk hr hE (Nat.le_refl _) (Nat.le_refl _) dX12_emit_40
def fX12_emit (h : MS) (x1 : Int32) (x2 : Int32) (x3 : Int32) : Option (MS) := fX12_emit_0 h x1 x2 x3
set_option maxHeartbeats 4000000 in
theorem CX12_emit (l : Launch) (D : va_G) (aC : Nat → ClassId) (ad : Nat → Nat) {Z : State → Prop} (zk : ZOK Z (Rg ad)) {h : MS} {x1 : Int32} {x2 : Int32} {x3 : Int32} {hz : MS} (hf : fX12_emit h x1 x2 x3 = some hz) : CM l D aC Z yX12_emit cX12_emit 4 (none) 0 0 0 0 (EM D aC ad h) [.ref (ad 116), .int x1, .int x2, .int x3] (EM D aC ad hz) none (Rg ad) := by
  refine CM.of rfl ?_
  intro p e s m below meth c b hr hlk hin2 zs hE
  refine k_ent (Nat.le_of_ble_eq_true rfl) (fun ls hl => ?_)
  exact wfX12_emit_0 b hlk hr zs zk hf hE (lv_sub hl [0, 1, 2, 3] rfl)
theorem dX12_unit_0 : decode cX12_unit 0 = .ok (.aload_n 0, 1) := by decide +kernel
theorem dX12_unit_1 : decode cX12_unit 1 = .ok (.iconst 3, 1) := by decide +kernel
theorem dX12_unit_2 : decode cX12_unit 2 = .ok (.invokevirtual 312, 3) := by decide +kernel
theorem dX12_unit_5 : decode cX12_unit 5 = .ok (.ifCond .eq 75, 3) := by decide +kernel
theorem dX12_unit_8 : decode cX12_unit 8 = .ok (.aload_n 0, 1) := by decide +kernel
theorem dX12_unit_9 : decode cX12_unit 9 = .ok (.getfield 27, 3) := by decide +kernel
theorem dX12_unit_12 : decode cX12_unit 12 = .ok (.aload_n 0, 1) := by decide +kernel
theorem dX12_unit_13 : decode cX12_unit 13 = .ok (.getfield 297, 3) := by decide +kernel
theorem dX12_unit_16 : decode cX12_unit 16 = .ok (.iaload, 1) := by decide +kernel
theorem dX12_unit_17 : decode cX12_unit 17 = .ok (.istore_n 1, 1) := by decide +kernel
theorem dX12_unit_18 : decode cX12_unit 18 = .ok (.aload_n 0, 1) := by decide +kernel
theorem dX12_unit_19 : decode cX12_unit 19 = .ok (.invokevirtual 315, 3) := by decide +kernel
theorem dX12_unit_22 : decode cX12_unit 22 = .ok (.iconst 1, 1) := by decide +kernel
theorem dX12_unit_23 : decode cX12_unit 23 = .ok (.istore_n 2, 1) := by decide +kernel
theorem dX12_unit_24 : decode cX12_unit 24 = .ok (.aload_n 0, 1) := by decide +kernel
theorem dX12_unit_25 : decode cX12_unit 25 = .ok (.bipush 14, 2) := by decide +kernel
theorem dX12_unit_27 : decode cX12_unit 27 = .ok (.invokevirtual 312, 3) := by decide +kernel
theorem dX12_unit_30 : decode cX12_unit 30 = .ok (.ifCond .eq 42, 3) := by decide +kernel
theorem dX12_unit_33 : decode cX12_unit 33 = .ok (.aload_n 0, 1) := by decide +kernel
theorem dX12_unit_34 : decode cX12_unit 34 = .ok (.invokevirtual 315, 3) := by decide +kernel
theorem dX12_unit_37 : decode cX12_unit 37 = .ok (.aload_n 0, 1) := by decide +kernel
theorem dX12_unit_38 : decode cX12_unit 38 = .ok (.getfield 297, 3) := by decide +kernel
theorem dX12_unit_41 : decode cX12_unit 41 = .ok (.istore_n 3, 1) := by decide +kernel
theorem dX12_unit_42 : decode cX12_unit 42 = .ok (.aload_n 0, 1) := by decide +kernel
theorem dX12_unit_43 : decode cX12_unit 43 = .ok (.iconst 3, 1) := by decide +kernel
theorem dX12_unit_44 : decode cX12_unit 44 = .ok (.invokevirtual 318, 3) := by decide +kernel
theorem dX12_unit_47 : decode cX12_unit 47 = .ok (.aload_n 0, 1) := by decide +kernel
theorem dX12_unit_48 : decode cX12_unit 48 = .ok (.getfield 294, 3) := by decide +kernel
theorem dX12_unit_51 : decode cX12_unit 51 = .ok (.ifCond .le 4, 3) := by decide +kernel
theorem dX12_unit_54 : decode cX12_unit 54 = .ok (.return_, 1) := by decide +kernel
theorem dX12_unit_55 : decode cX12_unit 55 = .ok (.aload_n 0, 1) := by decide +kernel
theorem dX12_unit_56 : decode cX12_unit 56 = .ok (.getfield 27, 3) := by decide +kernel
theorem dX12_unit_59 : decode cX12_unit 59 = .ok (.iload_n 3, 1) := by decide +kernel
theorem dX12_unit_60 : decode cX12_unit 60 = .ok (.iaload, 1) := by decide +kernel
theorem dX12_unit_61 : decode cX12_unit 61 = .ok (.istore_n 2, 1) := by decide +kernel
theorem dX12_unit_62 : decode cX12_unit 62 = .ok (.iload_n 2, 1) := by decide +kernel
theorem dX12_unit_63 : decode cX12_unit 63 = .ok (.ifCond .ne 9, 3) := by decide +kernel
theorem dX12_unit_66 : decode cX12_unit 66 = .ok (.aload_n 0, 1) := by decide +kernel
theorem dX12_unit_67 : decode cX12_unit 67 = .ok (.iconst 5, 1) := by decide +kernel
theorem dX12_unit_68 : decode cX12_unit 68 = .ok (.iload_n 3, 1) := by decide +kernel
theorem dX12_unit_69 : decode cX12_unit 69 = .ok (.invokevirtual 325, 3) := by decide +kernel
theorem dX12_unit_72 : decode cX12_unit 72 = .ok (.aload_n 0, 1) := by decide +kernel
theorem dX12_unit_73 : decode cX12_unit 73 = .ok (.iconst 0, 1) := by decide +kernel
theorem dX12_unit_74 : decode cX12_unit 74 = .ok (.iload_n 1, 1) := by decide +kernel
theorem dX12_unit_75 : decode cX12_unit 75 = .ok (.iload_n 2, 1) := by decide +kernel
theorem dX12_unit_76 : decode cX12_unit 76 = .ok (.invokevirtual 422, 3) := by decide +kernel
theorem dX12_unit_79 : decode cX12_unit 79 = .ok (.return_, 1) := by decide +kernel
theorem dX12_unit_80 : decode cX12_unit 80 = .ok (.aload_n 0, 1) := by decide +kernel
theorem dX12_unit_81 : decode cX12_unit 81 = .ok (.invokevirtual 390, 3) := by decide +kernel
theorem dX12_unit_84 : decode cX12_unit 84 = .ok (.istore_n 1, 1) := by decide +kernel
theorem dX12_unit_85 : decode cX12_unit 85 = .ok (.aload_n 0, 1) := by decide +kernel
theorem dX12_unit_86 : decode cX12_unit 86 = .ok (.bipush 8, 2) := by decide +kernel
theorem dX12_unit_88 : decode cX12_unit 88 = .ok (.invokevirtual 318, 3) := by decide +kernel
theorem dX12_unit_91 : decode cX12_unit 91 = .ok (.aload_n 0, 1) := by decide +kernel
theorem dX12_unit_92 : decode cX12_unit 92 = .ok (.iconst 3, 1) := by decide +kernel
theorem dX12_unit_93 : decode cX12_unit 93 = .ok (.invokevirtual 368, 3) := by decide +kernel
theorem dX12_unit_96 : decode cX12_unit 96 = .ok (.istore_n 2, 1) := by decide +kernel
theorem dX12_unit_97 : decode cX12_unit 97 = .ok (.aload_n 0, 1) := by decide +kernel
theorem dX12_unit_98 : decode cX12_unit 98 = .ok (.getfield 294, 3) := by decide +kernel
theorem dX12_unit_101 : decode cX12_unit 101 = .ok (.ifCond .ne 15, 3) := by decide +kernel
theorem dX12_unit_104 : decode cX12_unit 104 = .ok (.aload_n 0, 1) := by decide +kernel
theorem dX12_unit_105 : decode cX12_unit 105 = .ok (.iconst 1, 1) := by decide +kernel
theorem dX12_unit_106 : decode cX12_unit 106 = .ok (.iload_n 1, 1) := by decide +kernel
theorem dX12_unit_107 : decode cX12_unit 107 = .ok (.aload_n 0, 1) := by decide +kernel
theorem dX12_unit_108 : decode cX12_unit 108 = .ok (.getfield 27, 3) := by decide +kernel
theorem dX12_unit_111 : decode cX12_unit 111 = .ok (.iload_n 2, 1) := by decide +kernel
theorem dX12_unit_112 : decode cX12_unit 112 = .ok (.iaload, 1) := by decide +kernel
theorem dX12_unit_113 : decode cX12_unit 113 = .ok (.invokevirtual 422, 3) := by decide +kernel
theorem dX12_unit_116 : decode cX12_unit 116 = .ok (.return_, 1) := by decide +kernel
def fX12_unit_72  (h : MS) (x1 : Int32) (x2 : Int32) : Option (MS) :=
  oB (fX12_emit h 0 x1 x2) (fun h2 => some (h2))
set_option maxHeartbeats 4000000 in
theorem wfX12_unit_72 {args : Array Value} (b : Bd p s m c cX12_unit 4 RX12 D aC) (hlk : meth.locks = false) (hr : meth.sig.returnType = none) {Z : State → Prop} (zs : Z s) (zk : ZOK Z (Rg ad)) {hz : MS} {h : MS} {x1 : Int32} {x2 : Int32}  {H : Heap} {locs : List Loc} {ls : Array Slot} (hf : fX12_unit_72 h x1 x2 = some hz) (hE : CE (EM D aC ad h) (Rg ad) s H locs) (hl : lv_has ls 4 [(0, .ref (ad 116)), (1, .int x1), (2, .int x2)]) : W p l e (RM 4 84 0 0) s m args below meth c H locs 0 0 (MQ below (PQ (EM D aC ad hz) (Rg ad) none) args s 0 0 (Rg ad)) (F0 m 72 ls []) := by
  unfold fX12_unit_72 at hf
  refine lv_aload_n b.1 b.2.1 dX12_unit_72 rfl (lv_at hl 0 rfl) ?_
  refine lv_iconst (v := 0) b.1 b.2.1 dX12_unit_73 (by decide) ?_
  refine lv_iload_n b.1 b.2.1 dX12_unit_74 rfl (lv_at hl 1 rfl) ?_
  refine lv_iload_n b.1 b.2.1 dX12_unit_75 rfl (lv_at hl 2 rfl) ?_
  obtain ⟨h2, hc1, hf⟩ := oB_s hf
  refine k_callV0 (C := RX12) b zs zk hE (CX12_emit l D aC ad zk hc1) mc_X12_emit (in7 181 rfl rfl) mi_X12_emit ms_X12_emit ini_RX12 ok_X12_emit (m_recv b hE) ⟨Nat.le_of_ble_eq_true rfl, Nat.le_of_ble_eq_true rfl⟩ rfl hl.1 rfl (k_room _ (by exact Nat.le_of_ble_eq_true rfl)) ⟨Nat.le_refl _, Nat.le_refl _⟩ dX12_unit_76 (fun H locs hE => ?_)
  cases hf
  exact k_vret b hlk hr hE (Nat.le_refl _) (Nat.le_refl _) dX12_unit_79
def fX12_unit_0  (h : MS) : Option (MS) :=
  oB (fX12_is h 3) (fun r4 => if r4 = 0 then (oB2 (fX12_term h ) (fun h8 r7 => oB (fX12_must h8 8) (fun h10 => oB2 (fX12_whole h10 3) (fun h13 r12 => if (mI h13 13) = 0 then (oC (ix r12 (mlen 7)) (oB (fX12_emit h13 1 r7 (mA h13 7 (Int32.toNatClampNeg r12))) (fun h17 => some (h17)))) else (some (h13)))))) else (oC (ix (mI h 11) (mlen 7)) (oL (mA h 7 (Int32.toNatClampNeg (mI h 11))) (fun y19 => oB (fX12_next h ) (fun h21 => oB (fX12_is h21 14) (fun r23 => if r23 = 0 then (fX12_unit_72  h21 y19 1) else (oB (fX12_next h21 ) (fun h26 => oL (mI h26 11) (fun y27 => oB (fX12_must h26 3) (fun h29 => if (mI h29 13) ≤ 0 then (oC (ix y27 (mlen 7)) (oL (mA h29 7 (Int32.toNatClampNeg y27)) (fun y32 => if y32 = 0 then (oB (fX12_wrong h29 5 y27) (fun h35 => fX12_unit_72  h35 y19 y32)) else (fX12_unit_72  h29 y19 y32)))) else (some (h29))))))))))))
set_option maxHeartbeats 4000000 in
theorem wfX12_unit_0 {args : Array Value} (b : Bd p s m c cX12_unit 4 RX12 D aC) (hlk : meth.locks = false) (hr : meth.sig.returnType = none) {Z : State → Prop} (zs : Z s) (zk : ZOK Z (Rg ad)) {hz : MS} {h : MS}  {H : Heap} {locs : List Loc} {ls : Array Slot} (hf : fX12_unit_0 h = some hz) (hE : CE (EM D aC ad h) (Rg ad) s H locs) (hl : lv_has ls 4 [(0, .ref (ad 116))]) : W p l e (RM 4 84 0 0) s m args below meth c H locs 0 0 (MQ below (PQ (EM D aC ad hz) (Rg ad) none) args s 0 0 (Rg ad)) (F0 m 0 ls []) := by
  unfold fX12_unit_0 at hf
  refine lv_aload_n b.1 b.2.1 dX12_unit_0 rfl (lv_at hl 0 rfl) ?_
  refine lv_iconst (v := 3) b.1 b.2.1 dX12_unit_1 (by decide) ?_
  obtain ⟨r4, hc3, hf⟩ := oB_s hf
  refine k_callV0 (C := RX12) b zs zk hE (CX12_is l D aC ad zk hc3) mc_X12_is (in7 109 rfl rfl) mi_X12_is ms_X12_is ini_RX12 ok_X12_is (m_recv b hE) ⟨Nat.le_of_ble_eq_true rfl, Nat.le_of_ble_eq_true rfl⟩ rfl hl.1 rfl (k_room _ (by exact Nat.le_of_ble_eq_true rfl)) ⟨Nat.le_refl _, Nat.le_refl _⟩ dX12_unit_2 (fun H locs hE => ?_)
  refine lv_if_eq (tgt := 80) b.1 b.2.1 dX12_unit_5 (by decide) (fun c5 => ?_) (fun c5 => ?_)
  · have hf := oI_t c5 hf
    refine lv_aload_n b.1 b.2.1 dX12_unit_80 rfl (lv_at hl 0 rfl) ?_
    obtain ⟨h8, r7, hc6, hf⟩ := oB2_s hf
    refine k_callV0 (C := RX12) b zs zk hE (CX12_term l D aC ad zk hc6) mc_X12_term (in7 157 rfl rfl) mi_X12_term ms_X12_term ini_RX12 ok_X12_term (m_recv b hE) ⟨Nat.le_of_ble_eq_true rfl, Nat.le_of_ble_eq_true rfl⟩ rfl hl.1 rfl (k_room _ (by exact Nat.le_of_ble_eq_true rfl)) ⟨Nat.le_refl _, Nat.le_refl _⟩ dX12_unit_81 (fun H locs hE => ?_)
    refine lv_istore_n (lv' := [(1, .int r7), (0, .ref (ad 116))]) b.1 b.2.1 dX12_unit_84 rfl hl (by decide) rfl (fun ls hl => ?_)
    refine lv_aload_n b.1 b.2.1 dX12_unit_85 rfl (lv_at hl 1 rfl) ?_
    refine lv_bipush (v := 8) b.1 b.2.1 dX12_unit_86 (by decide) ?_
    obtain ⟨h10, hc9, hf⟩ := oB_s hf
    refine k_callV0 (C := RX12) b zs zk hE (CX12_must l D aC ad zk hc9) mc_X12_must (in7 129 rfl rfl) mi_X12_must ms_X12_must ini_RX12 ok_X12_must (m_recv b hE) ⟨Nat.le_of_ble_eq_true rfl, Nat.le_of_ble_eq_true rfl⟩ rfl hl.1 rfl (k_room _ (by exact Nat.le_of_ble_eq_true rfl)) ⟨Nat.le_refl _, Nat.le_refl _⟩ dX12_unit_88 (fun H locs hE => ?_)
    refine lv_aload_n b.1 b.2.1 dX12_unit_91 rfl (lv_at hl 1 rfl) ?_
    refine lv_iconst (v := 3) b.1 b.2.1 dX12_unit_92 (by decide) ?_
    obtain ⟨h13, r12, hc11, hf⟩ := oB2_s hf
    refine k_callV0 (C := RX12) b zs zk hE (CX12_whole l D aC ad zk hc11) mc_X12_whole (in7 140 rfl rfl) mi_X12_whole ms_X12_whole ini_RX12 ok_X12_whole (m_recv b hE) ⟨Nat.le_of_ble_eq_true rfl, Nat.le_of_ble_eq_true rfl⟩ rfl hl.1 rfl (k_room _ (by exact Nat.le_of_ble_eq_true rfl)) ⟨Nat.le_refl _, Nat.le_refl _⟩ dX12_unit_93 (fun H locs hE => ?_)
    refine lv_istore_n (lv' := [(2, .int r12), (1, .int r7), (0, .ref (ad 116))]) b.1 b.2.1 dX12_unit_96 rfl hl (by decide) rfl (fun ls hl => ?_)
    refine lv_aload_n b.1 b.2.1 dX12_unit_97 rfl (lv_at hl 2 rfl) ?_
    refine gM_294 b hE dX12_unit_98 ?_
    refine lv_if_ne (tgt := 116) b.1 b.2.1 dX12_unit_101 (by decide) (fun c14 => ?_) (fun c14 => ?_)
    · have hf := oI_f c14 hf
      cases hf
      exact k_vret b hlk hr hE (Nat.le_refl _) (Nat.le_refl _) dX12_unit_116
    · have hf := oI_t c14 hf
      refine lv_aload_n b.1 b.2.1 dX12_unit_104 rfl (lv_at hl 2 rfl) ?_
      refine lv_iconst (v := 1) b.1 b.2.1 dX12_unit_105 (by decide) ?_
      refine lv_iload_n b.1 b.2.1 dX12_unit_106 rfl (lv_at hl 1 rfl) ?_
      refine lv_aload_n b.1 b.2.1 dX12_unit_107 rfl (lv_at hl 2 rfl) ?_
      refine gM_27 b hE dX12_unit_108 ?_
      refine lv_iload_n b.1 b.2.1 dX12_unit_111 rfl (lv_at hl 0 rfl) ?_
      obtain ⟨g15, hf⟩ := oC_s hf
      refine m_iald b hE rfl rfl g15 dX12_unit_112 ?_
      obtain ⟨h17, hc16, hf⟩ := oB_s hf
      refine k_callV0 (C := RX12) b zs zk hE (CX12_emit l D aC ad zk hc16) mc_X12_emit (in7 181 rfl rfl) mi_X12_emit ms_X12_emit ini_RX12 ok_X12_emit (m_recv b hE) ⟨Nat.le_of_ble_eq_true rfl, Nat.le_of_ble_eq_true rfl⟩ rfl hl.1 rfl (k_room _ (by exact Nat.le_of_ble_eq_true rfl)) ⟨Nat.le_refl _, Nat.le_refl _⟩ dX12_unit_113 (fun H locs hE => ?_)
      cases hf
      exact k_vret b hlk hr hE (Nat.le_refl _) (Nat.le_refl _) dX12_unit_116
  · have hf := oI_f c5 hf
    refine lv_aload_n b.1 b.2.1 dX12_unit_8 rfl (lv_at hl 0 rfl) ?_
    refine gM_27 b hE dX12_unit_9 ?_
    refine lv_aload_n b.1 b.2.1 dX12_unit_12 rfl (lv_at hl 0 rfl) ?_
    refine gM_297 b hE dX12_unit_13 ?_
    obtain ⟨g18, hf⟩ := oC_s hf
    refine m_iald b hE rfl rfl g18 dX12_unit_16 ?_
    obtain ⟨y19, ey19, hf⟩ := oL_s hf
    refine k_nmI ey19 ?_
    refine lv_istore_n (lv' := [(1, .int y19), (0, .ref (ad 116))]) b.1 b.2.1 dX12_unit_17 rfl hl (by decide) rfl (fun ls hl => ?_)
    refine lv_aload_n b.1 b.2.1 dX12_unit_18 rfl (lv_at hl 1 rfl) ?_
    obtain ⟨h21, hc20, hf⟩ := oB_s hf
    refine k_callV0 (C := RX12) b zs zk hE (CX12_next l D aC ad zk hc20) mc_X12_next (in7 117 rfl rfl) mi_X12_next ms_X12_next ini_RX12 ok_X12_next (m_recv b hE) ⟨Nat.le_of_ble_eq_true rfl, Nat.le_of_ble_eq_true rfl⟩ rfl hl.1 rfl (k_room _ (by exact Nat.le_of_ble_eq_true rfl)) ⟨Nat.le_refl _, Nat.le_refl _⟩ dX12_unit_19 (fun H locs hE => ?_)
    refine lv_iconst (v := 1) b.1 b.2.1 dX12_unit_22 (by decide) ?_
    refine lv_istore_n (lv' := [(2, .int 1), (1, .int y19), (0, .ref (ad 116))]) b.1 b.2.1 dX12_unit_23 rfl hl (by decide) rfl (fun ls hl => ?_)
    refine lv_aload_n b.1 b.2.1 dX12_unit_24 rfl (lv_at hl 2 rfl) ?_
    refine lv_bipush (v := 14) b.1 b.2.1 dX12_unit_25 (by decide) ?_
    obtain ⟨r23, hc22, hf⟩ := oB_s hf
    refine k_callV0 (C := RX12) b zs zk hE (CX12_is l D aC ad zk hc22) mc_X12_is (in7 109 rfl rfl) mi_X12_is ms_X12_is ini_RX12 ok_X12_is (m_recv b hE) ⟨Nat.le_of_ble_eq_true rfl, Nat.le_of_ble_eq_true rfl⟩ rfl hl.1 rfl (k_room _ (by exact Nat.le_of_ble_eq_true rfl)) ⟨Nat.le_refl _, Nat.le_refl _⟩ dX12_unit_27 (fun H locs hE => ?_)
    refine lv_if_eq (tgt := 72) b.1 b.2.1 dX12_unit_30 (by decide) (fun c24 => ?_) (fun c24 => ?_)
    · have hf := oI_t c24 hf
      exact wfX12_unit_72 b hlk hr zs zk  hf hE (lv_sub hl [2, 1, 0] rfl)
    · have hf := oI_f c24 hf
      refine lv_aload_n b.1 b.2.1 dX12_unit_33 rfl (lv_at hl 2 rfl) ?_
      obtain ⟨h26, hc25, hf⟩ := oB_s hf
      refine k_callV0 (C := RX12) b zs zk hE (CX12_next l D aC ad zk hc25) mc_X12_next (in7 117 rfl rfl) mi_X12_next ms_X12_next ini_RX12 ok_X12_next (m_recv b hE) ⟨Nat.le_of_ble_eq_true rfl, Nat.le_of_ble_eq_true rfl⟩ rfl hl.1 rfl (k_room _ (by exact Nat.le_of_ble_eq_true rfl)) ⟨Nat.le_refl _, Nat.le_refl _⟩ dX12_unit_34 (fun H locs hE => ?_)
      refine lv_aload_n b.1 b.2.1 dX12_unit_37 rfl (lv_at hl 2 rfl) ?_
      refine gM_297 b hE dX12_unit_38 ?_
      obtain ⟨y27, ey27, hf⟩ := oL_s hf
      refine k_nmI ey27 ?_
      refine lv_istore_n (lv' := [(3, .int y27), (2, .int 1), (1, .int y19), (0, .ref (ad 116))]) b.1 b.2.1 dX12_unit_41 rfl hl (by decide) rfl (fun ls hl => ?_)
      have hl := lv_sub (l' := [(3, .int y27), (1, .int y19), (0, .ref (ad 116))]) hl [0, 2, 3] rfl
      refine lv_aload_n b.1 b.2.1 dX12_unit_42 rfl (lv_at hl 2 rfl) ?_
      refine lv_iconst (v := 3) b.1 b.2.1 dX12_unit_43 (by decide) ?_
      obtain ⟨h29, hc28, hf⟩ := oB_s hf
      refine k_callV0 (C := RX12) b zs zk hE (CX12_must l D aC ad zk hc28) mc_X12_must (in7 129 rfl rfl) mi_X12_must ms_X12_must ini_RX12 ok_X12_must (m_recv b hE) ⟨Nat.le_of_ble_eq_true rfl, Nat.le_of_ble_eq_true rfl⟩ rfl hl.1 rfl (k_room _ (by exact Nat.le_of_ble_eq_true rfl)) ⟨Nat.le_refl _, Nat.le_refl _⟩ dX12_unit_44 (fun H locs hE => ?_)
      refine lv_aload_n b.1 b.2.1 dX12_unit_47 rfl (lv_at hl 2 rfl) ?_
      refine gM_294 b hE dX12_unit_48 ?_
      refine lv_if_le (tgt := 55) b.1 b.2.1 dX12_unit_51 (by decide) (fun c30 => ?_) (fun c30 => ?_)
      · have hf := oI_t c30 hf
        refine lv_aload_n b.1 b.2.1 dX12_unit_55 rfl (lv_at hl 2 rfl) ?_
        refine gM_27 b hE dX12_unit_56 ?_
        refine lv_iload_n b.1 b.2.1 dX12_unit_59 rfl (lv_at hl 0 rfl) ?_
        obtain ⟨g31, hf⟩ := oC_s hf
        refine m_iald b hE rfl rfl g31 dX12_unit_60 ?_
        obtain ⟨y32, ey32, hf⟩ := oL_s hf
        refine k_nmI ey32 ?_
        refine lv_istore_n (lv' := [(2, .int y32), (3, .int y27), (1, .int y19), (0, .ref (ad 116))]) b.1 b.2.1 dX12_unit_61 rfl hl (by decide) rfl (fun ls hl => ?_)
        refine lv_iload_n b.1 b.2.1 dX12_unit_62 rfl (lv_at hl 0 rfl) ?_
        refine lv_if_ne (tgt := 72) b.1 b.2.1 dX12_unit_63 (by decide) (fun c33 => ?_) (fun c33 => ?_)
        · have hf := oI_f c33 hf
          exact wfX12_unit_72 b hlk hr zs zk  hf hE (lv_sub hl [3, 2, 0] rfl)
        · have hf := oI_t c33 hf
          refine lv_aload_n b.1 b.2.1 dX12_unit_66 rfl (lv_at hl 3 rfl) ?_
          refine lv_iconst (v := 5) b.1 b.2.1 dX12_unit_67 (by decide) ?_
          refine lv_iload_n b.1 b.2.1 dX12_unit_68 rfl (lv_at hl 1 rfl) ?_
          obtain ⟨h35, hc34, hf⟩ := oB_s hf
          refine k_callV0 (C := RX12) b zs zk hE (CX12_wrong l D aC ad zk hc34) mc_X12_wrong (in7 136 rfl rfl) mi_X12_wrong ms_X12_wrong ini_RX12 ok_X12_wrong (m_recv b hE) ⟨Nat.le_of_ble_eq_true rfl, Nat.le_of_ble_eq_true rfl⟩ rfl hl.1 rfl (k_room _ (by exact Nat.le_of_ble_eq_true rfl)) ⟨Nat.le_refl _, Nat.le_refl _⟩ dX12_unit_69 (fun H locs hE => ?_)
          exact wfX12_unit_72 b hlk hr zs zk  hf hE (lv_sub hl [3, 2, 0] rfl)
      · have hf := oI_f c30 hf
        cases hf
        exact k_vret b hlk hr hE (Nat.le_refl _) (Nat.le_refl _) dX12_unit_54
def fX12_unit (h : MS) : Option (MS) := fX12_unit_0 h 
set_option maxHeartbeats 4000000 in
theorem CX12_unit (l : Launch) (D : va_G) (aC : Nat → ClassId) (ad : Nat → Nat) {Z : State → Prop} (zk : ZOK Z (Rg ad)) {h : MS} {hz : MS} (hf : fX12_unit h = some hz) : CM l D aC Z yX12_unit cX12_unit 4 (none) 4 84 0 0 (EM D aC ad h) [.ref (ad 116)] (EM D aC ad hz) none (Rg ad) := by
  refine CM.of rfl ?_
  intro p e s m below meth c b hr hlk hin2 zs hE
  refine k_ent (Nat.le_of_ble_eq_true rfl) (fun ls hl => ?_)
  exact wfX12_unit_0 b hlk hr zs zk hf hE (lv_sub hl [0] rfl)
theorem dX12_strength_0 : decode cX12_strength 0 = .ok (.iload_n 0, 1) := by decide +kernel
theorem dX12_strength_1 : decode cX12_strength 1 = .ok (.bipush 9, 2) := by decide +kernel
theorem dX12_strength_3 : decode cX12_strength 3 = .ok (.if_icmp .ne 7, 3) := by decide +kernel
theorem dX12_strength_6 : decode cX12_strength 6 = .ok (.iconst 0, 1) := by decide +kernel
theorem dX12_strength_7 : decode cX12_strength 7 = .ok (.goto 14, 3) := by decide +kernel
theorem dX12_strength_10 : decode cX12_strength 10 = .ok (.iload_n 0, 1) := by decide +kernel
theorem dX12_strength_11 : decode cX12_strength 11 = .ok (.bipush 13, 2) := by decide +kernel
theorem dX12_strength_13 : decode cX12_strength 13 = .ok (.if_icmp .ne 7, 3) := by decide +kernel
theorem dX12_strength_16 : decode cX12_strength 16 = .ok (.iconst 2, 1) := by decide +kernel
theorem dX12_strength_17 : decode cX12_strength 17 = .ok (.goto 4, 3) := by decide +kernel
theorem dX12_strength_20 : decode cX12_strength 20 = .ok (.iconst 1, 1) := by decide +kernel
theorem dX12_strength_21 : decode cX12_strength 21 = .ok (.ireturn, 1) := by decide +kernel
def fX12_strength_0  (x0 : Int32) : Option (Int32) :=
  if x0 = 9 then (some (0)) else (if x0 = 13 then (some (2)) else (some (1)))
set_option maxHeartbeats 4000000 in
theorem wfX12_strength_0 {E : Heap → Prop} {A : Nat → Prop} {args : Array Value} (b : Bd p s m c cX12_strength 1 RX12 D aC) (hlk : meth.locks = false) (hr : meth.sig.returnType = some .int) {Z : State → Prop} (zs : Z s) (zk : ZOK Z A) {rz : Int32} {x0 : Int32}  {H : Heap} {locs : List Loc} {ls : Array Slot} (hf : fX12_strength_0 x0 = some rz) (hE : CE E A s H locs) (hl : lv_has ls 1 [(0, .int x0)]) : W p l e (RM 0 0 0 0) s m args below meth c H locs 0 0 (MQ below (PQ E A (some (.int rz))) args s 0 0 A) (F0 m 0 ls []) := by
  unfold fX12_strength_0 at hf
  refine lv_iload_n b.1 b.2.1 dX12_strength_0 rfl (lv_at hl 0 rfl) ?_
  refine lv_bipush (v := 9) b.1 b.2.1 dX12_strength_1 (by decide) ?_
  refine lv_icmp_ne (tgt := 10) b.1 b.2.1 dX12_strength_3 (by decide) (fun c1 => ?_) (fun c1 => ?_)
  · have hf := oI_f c1 hf
    refine lv_iload_n b.1 b.2.1 dX12_strength_10 rfl (lv_at hl 0 rfl) ?_
    refine lv_bipush (v := 13) b.1 b.2.1 dX12_strength_11 (by decide) ?_
    refine lv_icmp_ne (tgt := 20) b.1 b.2.1 dX12_strength_13 (by decide) (fun c2 => ?_) (fun c2 => ?_)
    · have hf := oI_f c2 hf
      refine lv_iconst (v := 1) b.1 b.2.1 dX12_strength_20 (by decide) ?_
      cases hf
      exact k_iret b hlk hr hE (Nat.le_refl _) (Nat.le_refl _) dX12_strength_21
    · have hf := oI_t c2 hf
      refine lv_iconst (v := 2) b.1 b.2.1 dX12_strength_16 (by decide) ?_
      refine lv_goto (tgt := 21) b.1 b.2.1 dX12_strength_17 (by decide) ?_
      cases hf
      exact k_iret b hlk hr hE (Nat.le_refl _) (Nat.le_refl _) dX12_strength_21
  · have hf := oI_t c1 hf
    refine lv_iconst (v := 0) b.1 b.2.1 dX12_strength_6 (by decide) ?_
    refine lv_goto (tgt := 21) b.1 b.2.1 dX12_strength_7 (by decide) ?_
    cases hf
    exact k_iret b hlk hr hE (Nat.le_refl _) (Nat.le_refl _) dX12_strength_21
def fX12_strength (x0 : Int32) : Option (Int32) := fX12_strength_0 x0
set_option maxHeartbeats 4000000 in
theorem CX12_strength (l : Launch) (D : va_G) (aC : Nat → ClassId) {E : Heap → Prop} {A : Nat → Prop} {Z : State → Prop} (zk : ZOK Z A) {x0 : Int32} {rz : Int32} (hf : fX12_strength x0 = some rz) : CM l D aC Z yX12_strength cX12_strength 1 (some .int) 0 0 0 0 E [.int x0] E (some (.int rz)) A := by
  refine CM.of rfl ?_
  intro p e s m below meth c b hr hlk hin2 zs hE
  refine k_ent (Nat.le_of_ble_eq_true rfl) (fun ls hl => ?_)
  exact wfX12_strength_0 b hlk hr zs zk hf hE (lv_sub hl [0] rfl)
end
