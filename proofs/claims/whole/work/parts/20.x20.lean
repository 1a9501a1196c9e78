section
variable {p : Program} {l : Launch} {e : Env} {s : State} {m : MethodId} {below : List Frame} {meth : Method} {c : Code} {D : va_G} {aC : Nat → ClassId} {ad : Nat → Nat}
theorem dX11_above_0 : decode cX11_above 0 = .ok (.aload_n 0, 1) := by decide +kernel
theorem dX11_above_1 : decode cX11_above 1 = .ok (.getfield 22, 3) := by decide +kernel
theorem dX11_above_4 : decode cX11_above 4 = .ok (.iload_n 1, 1) := by decide +kernel
theorem dX11_above_5 : decode cX11_above 5 = .ok (.invokevirtual 211, 3) := by decide +kernel
theorem dX11_above_8 : decode cX11_above 8 = .ok (.ifCond .eq 14, 3) := by decide +kernel
theorem dX11_above_11 : decode cX11_above 11 = .ok (.aload_n 0, 1) := by decide +kernel
theorem dX11_above_12 : decode cX11_above 12 = .ok (.getfield 22, 3) := by decide +kernel
theorem dX11_above_15 : decode cX11_above 15 = .ok (.iload_n 2, 1) := by decide +kernel
theorem dX11_above_16 : decode cX11_above 16 = .ok (.invokevirtual 211, 3) := by decide +kernel
theorem dX11_above_19 : decode cX11_above 19 = .ok (.ifCond .ne 5, 3) := by decide +kernel
theorem dX11_above_22 : decode cX11_above 22 = .ok (.iconst (-1), 1) := by decide +kernel
theorem dX11_above_23 : decode cX11_above 23 = .ok (.ireturn, 1) := by decide +kernel
theorem dX11_above_24 : decode cX11_above 24 = .ok (.aload_n 0, 1) := by decide +kernel
theorem dX11_above_25 : decode cX11_above 25 = .ok (.getfield 22, 3) := by decide +kernel
theorem dX11_above_28 : decode cX11_above 28 = .ok (.iload_n 1, 1) := by decide +kernel
theorem dX11_above_29 : decode cX11_above 29 = .ok (.iload_n 2, 1) := by decide +kernel
theorem dX11_above_30 : decode cX11_above 30 = .ok (.invokevirtual 214, 3) := by decide +kernel
theorem dX11_above_33 : decode cX11_above 33 = .ok (.ifCond .eq 7, 3) := by decide +kernel
theorem dX11_above_36 : decode cX11_above 36 = .ok (.iconst 1, 1) := by decide +kernel
theorem dX11_above_37 : decode cX11_above 37 = .ok (.goto 4, 3) := by decide +kernel
theorem dX11_above_40 : decode cX11_above 40 = .ok (.iconst 0, 1) := by decide +kernel
theorem dX11_above_41 : decode cX11_above 41 = .ok (.ireturn, 1) := by decide +kernel
def fX11_above_0  (h : PH) (x0 : Nat) (x1 : Int32) (x2 : Int32) : Option (Int32) :=
  oC (decide (hT h x0 = 12)) (oN (hR h 1410 x0) (fun a2 => oC (decide (hT h a2 = 2)) (oB (fX1_isRanked h a2 x1) (fun r5 => if r5 = 0 then (some ((-1))) else (oB (fX1_isRanked h a2 x2) (fun r8 => if r8 = 0 then (some ((-1))) else (oB (fX1_isAbove h a2 x1 x2) (fun r11 => if r11 = 0 then (some (0)) else (some (1))))))))))
set_option maxHeartbeats 4000000 in
theorem wfX11_above_0 {args : Array Value} (b : Bd p s m c cX11_above 3 RX11 D aC) (hlk : meth.locks = false) (hr : meth.sig.returnType = some .int) {Z : State → Prop} (zs : Z s) (zk : ZOK Z (Rg ad)) {rz : Int32} {h : PH} {x0 : Nat} {x1 : Int32} {x2 : Int32}  {H : Heap} {locs : List Loc} {ls : Array Slot} (hf : fX11_above_0 h x0 x1 x2 = some rz) (hE : CE (EX D aC ad h) (Rg ad) s H locs) (hl : lv_has ls 3 [(0, .ref (ad x0)), (1, .int x1), (2, .int x2)]) : W p l e (RM 2 50 0 0) s m args below meth c H locs 0 0 (MQ below (PQ (EX D aC ad h) (Rg ad) (some (.int rz))) args s 0 0 (Rg ad)) (F0 m 0 ls []) := by
  unfold fX11_above_0 at hf
  refine lv_aload_n b.1 b.2.1 dX11_above_0 rfl (lv_at hl 0 rfl) ?_
  obtain ⟨t1, hf⟩ := oC_s hf
  have t1 := of_decide_eq_true t1
  refine gX11_22 (x := (some x0)) b hE rfl t1 dX11_above_1 ?_
  refine lv_iload_n b.1 b.2.1 dX11_above_4 rfl (lv_at hl 1 rfl) ?_
  obtain ⟨a2, ea2, hf⟩ := oN_s hf
  obtain ⟨t3, hf⟩ := oC_s hf
  have t3 := of_decide_eq_true t3
  obtain ⟨r5, hc4, hf⟩ := oB_s hf
  refine k_stk [.int x1] ea2 ?_
  refine k_callV0 (C := RX1) b zs zk hE (CX1_isRanked l D aC ad zk hc4) mc_X1_isRanked (in5 178 rfl rfl) mi_X1_isRanked ms_X1_isRanked ini_RX1 ok_X1_isRanked (x_recv b hE (ci := 1) rfl (by decide) t3) ⟨Nat.le_of_ble_eq_true rfl, Nat.le_of_ble_eq_true rfl⟩ rfl hl.1 rfl (k_room _ (by exact Nat.le_of_ble_eq_true rfl)) ⟨Nat.le_refl _, Nat.le_refl _⟩ dX11_above_5 (fun H locs hE => ?_)
  refine lv_if_eq (tgt := 22) b.1 b.2.1 dX11_above_8 (by decide) (fun c6 => ?_) (fun c6 => ?_)
  · have hf := oI_t c6 hf
    refine lv_iconst (v := (-1)) b.1 b.2.1 dX11_above_22 (by decide) ?_
    cases hf
    exact k_iret b hlk hr hE (Nat.le_refl _) (Nat.le_refl _) dX11_above_23
  · have hf := oI_f c6 hf
    refine lv_aload_n b.1 b.2.1 dX11_above_11 rfl (lv_at hl 0 rfl) ?_
    refine gX11_22 (x := (some x0)) b hE rfl t1 dX11_above_12 ?_
    refine lv_iload_n b.1 b.2.1 dX11_above_15 rfl (lv_at hl 2 rfl) ?_
    obtain ⟨r8, hc7, hf⟩ := oB_s hf
    refine k_stk [.int x2] ea2 ?_
    refine k_callV0 (C := RX1) b zs zk hE (CX1_isRanked l D aC ad zk hc7) mc_X1_isRanked (in5 178 rfl rfl) mi_X1_isRanked ms_X1_isRanked ini_RX1 ok_X1_isRanked (x_recv b hE (ci := 1) rfl (by decide) t3) ⟨Nat.le_of_ble_eq_true rfl, Nat.le_of_ble_eq_true rfl⟩ rfl hl.1 rfl (k_room _ (by exact Nat.le_of_ble_eq_true rfl)) ⟨Nat.le_refl _, Nat.le_refl _⟩ dX11_above_16 (fun H locs hE => ?_)
    refine lv_if_ne (tgt := 24) b.1 b.2.1 dX11_above_19 (by decide) (fun c9 => ?_) (fun c9 => ?_)
    · have hf := oI_f c9 hf
      refine lv_aload_n b.1 b.2.1 dX11_above_24 rfl (lv_at hl 0 rfl) ?_
      refine gX11_22 (x := (some x0)) b hE rfl t1 dX11_above_25 ?_
      refine lv_iload_n b.1 b.2.1 dX11_above_28 rfl (lv_at hl 1 rfl) ?_
      refine lv_iload_n b.1 b.2.1 dX11_above_29 rfl (lv_at hl 2 rfl) ?_
      obtain ⟨r11, hc10, hf⟩ := oB_s hf
      refine k_stk [.int x2, .int x1] ea2 ?_
      refine k_callV0 (C := RX1) b zs zk hE (CX1_isAbove l D aC ad zk hc10) mc_X1_isAbove (in5 179 rfl rfl) mi_X1_isAbove ms_X1_isAbove ini_RX1 ok_X1_isAbove (x_recv b hE (ci := 1) rfl (by decide) t3) ⟨Nat.le_of_ble_eq_true rfl, Nat.le_of_ble_eq_true rfl⟩ rfl hl.1 rfl (k_room _ (by exact Nat.le_of_ble_eq_true rfl)) ⟨Nat.le_refl _, Nat.le_refl _⟩ dX11_above_30 (fun H locs hE => ?_)
      refine lv_if_eq (tgt := 40) b.1 b.2.1 dX11_above_33 (by decide) (fun c12 => ?_) (fun c12 => ?_)
      · have hf := oI_t c12 hf
        refine lv_iconst (v := 0) b.1 b.2.1 dX11_above_40 (by decide) ?_
        cases hf
        exact k_iret b hlk hr hE (Nat.le_refl _) (Nat.le_refl _) dX11_above_41
      · have hf := oI_f c12 hf
        refine lv_iconst (v := 1) b.1 b.2.1 dX11_above_36 (by decide) ?_
        refine lv_goto (tgt := 41) b.1 b.2.1 dX11_above_37 (by decide) ?_
        cases hf
        exact k_iret b hlk hr hE (Nat.le_refl _) (Nat.le_refl _) dX11_above_41
    · have hf := oI_t c9 hf
      refine lv_iconst (v := (-1)) b.1 b.2.1 dX11_above_22 (by decide) ?_
      cases hf
      exact k_iret b hlk hr hE (Nat.le_refl _) (Nat.le_refl _) dX11_above_23
def fX11_above (h : PH) (x0 : Nat) (x1 : Int32) (x2 : Int32) : Option (Int32) := fX11_above_0 h x0 x1 x2
set_option maxHeartbeats 4000000 in
theorem CX11_above (l : Launch) (D : va_G) (aC : Nat → ClassId) (ad : Nat → Nat) {Z : State → Prop} (zk : ZOK Z (Rg ad)) {h : PH} {x0 : Nat} {x1 : Int32} {x2 : Int32} {rz : Int32} (hf : fX11_above h x0 x1 x2 = some rz) : CM l D aC Z yX11_above cX11_above 3 (some .int) 2 50 0 0 (EX D aC ad h) [.ref (ad x0), .int x1, .int x2] (EX D aC ad h) (some (.int rz)) (Rg ad) := by
  refine CM.of rfl ?_
  intro p e s m below meth c b hr hlk hin2 zs hE
  refine k_ent (Nat.le_of_ble_eq_true rfl) (fun ls hl => ?_)
  exact wfX11_above_0 b hlk hr zs zk hf hE (lv_sub hl [0, 1, 2] rfl)
theorem dX11_judgedTally_0 : decode cX11_judgedTally 0 = .ok (.aload_n 0, 1) := by decide +kernel
theorem dX11_judgedTally_1 : decode cX11_judgedTally 1 = .ok (.getfield 112, 3) := by decide +kernel
theorem dX11_judgedTally_4 : decode cX11_judgedTally 4 = .ok (.ifnonnull 7, 3) := by decide +kernel
theorem dX11_judgedTally_7 : decode cX11_judgedTally 7 = .ok (.iconst 0, 1) := by decide +kernel
theorem dX11_judgedTally_8 : decode cX11_judgedTally 8 = .ok (.goto 12, 3) := by decide +kernel
theorem dX11_judgedTally_11 : decode cX11_judgedTally 11 = .ok (.aload_n 0, 1) := by decide +kernel
theorem dX11_judgedTally_12 : decode cX11_judgedTally 12 = .ok (.getfield 112, 3) := by decide +kernel
theorem dX11_judgedTally_15 : decode cX11_judgedTally 15 = .ok (.getfield 147, 3) := by decide +kernel
theorem dX11_judgedTally_18 : decode cX11_judgedTally 18 = .ok (.iload_n 1, 1) := by decide +kernel
theorem dX11_judgedTally_19 : decode cX11_judgedTally 19 = .ok (.iaload, 1) := by decide +kernel
theorem dX11_judgedTally_20 : decode cX11_judgedTally 20 = .ok (.ireturn, 1) := by decide +kernel
def fX11_judgedTally_0  (h : PH) (x0 : Nat) (x1 : Int32) : Option (Int32) :=
  oC (decide (hT h x0 = 12)) (if (hR h 1416 x0) = none then (some (0)) else (oN (hR h 1416 x0) (fun a3 => oC (decide (hT h a3 = 6)) (oN (hR h 656 a3) (fun a5 => oC (decide (hT h a5 = 101)) (oC (ix x1 (hN h a5)) (some ((hA h a5 (Int32.toNatClampNeg x1))))))))))
set_option maxHeartbeats 4000000 in
theorem wfX11_judgedTally_0 {args : Array Value} (b : Bd p s m c cX11_judgedTally 2 RX11 D aC) (hlk : meth.locks = false) (hr : meth.sig.returnType = some .int) {Z : State → Prop} (zs : Z s) (zk : ZOK Z (Rg ad)) {rz : Int32} {h : PH} {x0 : Nat} {x1 : Int32}  {H : Heap} {locs : List Loc} {ls : Array Slot} (hf : fX11_judgedTally_0 h x0 x1 = some rz) (hE : CE (EX D aC ad h) (Rg ad) s H locs) (hl : lv_has ls 2 [(0, .ref (ad x0)), (1, .int x1)]) : W p l e (RM 0 0 0 0) s m args below meth c H locs 0 0 (MQ below (PQ (EX D aC ad h) (Rg ad) (some (.int rz))) args s 0 0 (Rg ad)) (F0 m 0 ls []) := by
  unfold fX11_judgedTally_0 at hf
  refine lv_aload_n b.1 b.2.1 dX11_judgedTally_0 rfl (lv_at hl 0 rfl) ?_
  obtain ⟨t1, hf⟩ := oC_s hf
  have t1 := of_decide_eq_true t1
  refine gX11_112 (x := (some x0)) b hE rfl t1 dX11_judgedTally_1 ?_
  refine k_ifnonnull (x := Option.map ad (hR h 1416 x0)) b dX11_judgedTally_4 (tgt := 11) (by decide) (fun c2 => ?_) (fun c2 => ?_)
  · have hf := oI_f (fun z => c2 (Option.map_eq_none_iff.mpr z)) hf
    refine lv_aload_n b.1 b.2.1 dX11_judgedTally_11 rfl (lv_at hl 0 rfl) ?_
    refine gX11_112 (x := (some x0)) b hE rfl t1 dX11_judgedTally_12 ?_
    obtain ⟨a3, ea3, hf⟩ := oN_s hf
    obtain ⟨t4, hf⟩ := oC_s hf
    have t4 := of_decide_eq_true t4
    refine gX11_147 (x := (hR h 1416 x0)) b hE ea3 t4 dX11_judgedTally_15 ?_
    refine lv_iload_n b.1 b.2.1 dX11_judgedTally_18 rfl (lv_at hl 1 rfl) ?_
    obtain ⟨a5, ea5, hf⟩ := oN_s hf
    obtain ⟨t6, hf⟩ := oC_s hf
    have t6 := of_decide_eq_true t6
    obtain ⟨g7, hf⟩ := oC_s hf
    refine q_iald (x := (hR h 656 a3)) b hE ea5 t6 g7 dX11_judgedTally_19 ?_
    cases hf
    exact k_iret b hlk hr hE (Nat.le_refl _) (Nat.le_refl _) dX11_judgedTally_20
  · have hf := oI_t (Option.map_eq_none_iff.mp c2) hf
    refine lv_iconst (v := 0) b.1 b.2.1 dX11_judgedTally_7 (by decide) ?_
    refine lv_goto (tgt := 20) b.1 b.2.1 dX11_judgedTally_8 (by decide) ?_
    cases hf
    exact k_iret b hlk hr hE (Nat.le_refl _) (Nat.le_refl _) dX11_judgedTally_20
def fX11_judgedTally (h : PH) (x0 : Nat) (x1 : Int32) : Option (Int32) := fX11_judgedTally_0 h x0 x1
set_option maxHeartbeats 4000000 in
theorem CX11_judgedTally (l : Launch) (D : va_G) (aC : Nat → ClassId) (ad : Nat → Nat) {Z : State → Prop} (zk : ZOK Z (Rg ad)) {h : PH} {x0 : Nat} {x1 : Int32} {rz : Int32} (hf : fX11_judgedTally h x0 x1 = some rz) : CM l D aC Z yX11_judgedTally cX11_judgedTally 2 (some .int) 0 0 0 0 (EX D aC ad h) [.ref (ad x0), .int x1] (EX D aC ad h) (some (.int rz)) (Rg ad) := by
  refine CM.of rfl ?_
  intro p e s m below meth c b hr hlk hin2 zs hE
  refine k_ent (Nat.le_of_ble_eq_true rfl) (fun ls hl => ?_)
  exact wfX11_judgedTally_0 b hlk hr zs zk hf hE (lv_sub hl [0, 1] rfl)
theorem dX11_count_0 : decode cX11_count 0 = .ok (.iload_n 1, 1) := by decide +kernel
theorem dX11_count_1 : decode cX11_count 1 = .ok (.tableswitch 172 0 12 #[67, 78, 89, 100, 111, 122, 130, 135, 140, 148, 154, 160, 166], 67) := by decide +kernel
theorem dX11_count_68 : decode cX11_count 68 = .ok (.aload_n 0, 1) := by decide +kernel
theorem dX11_count_69 : decode cX11_count 69 = .ok (.getfield 22, 3) := by decide +kernel
theorem dX11_count_72 : decode cX11_count 72 = .ok (.getfield 89, 3) := by decide +kernel
theorem dX11_count_75 : decode cX11_count 75 = .ok (.getfield 84, 3) := by decide +kernel
theorem dX11_count_78 : decode cX11_count 78 = .ok (.ireturn, 1) := by decide +kernel
theorem dX11_count_79 : decode cX11_count 79 = .ok (.aload_n 0, 1) := by decide +kernel
theorem dX11_count_80 : decode cX11_count 80 = .ok (.getfield 22, 3) := by decide +kernel
theorem dX11_count_83 : decode cX11_count 83 = .ok (.getfield 80, 3) := by decide +kernel
theorem dX11_count_86 : decode cX11_count 86 = .ok (.getfield 84, 3) := by decide +kernel
theorem dX11_count_89 : decode cX11_count 89 = .ok (.ireturn, 1) := by decide +kernel
theorem dX11_count_90 : decode cX11_count 90 = .ok (.aload_n 0, 1) := by decide +kernel
theorem dX11_count_91 : decode cX11_count 91 = .ok (.getfield 22, 3) := by decide +kernel
theorem dX11_count_94 : decode cX11_count 94 = .ok (.getfield 218, 3) := by decide +kernel
theorem dX11_count_97 : decode cX11_count 97 = .ok (.getfield 84, 3) := by decide +kernel
theorem dX11_count_100 : decode cX11_count 100 = .ok (.ireturn, 1) := by decide +kernel
theorem dX11_count_101 : decode cX11_count 101 = .ok (.aload_n 0, 1) := by decide +kernel
theorem dX11_count_102 : decode cX11_count 102 = .ok (.getfield 22, 3) := by decide +kernel
theorem dX11_count_105 : decode cX11_count 105 = .ok (.getfield 221, 3) := by decide +kernel
theorem dX11_count_108 : decode cX11_count 108 = .ok (.getfield 84, 3) := by decide +kernel
theorem dX11_count_111 : decode cX11_count 111 = .ok (.ireturn, 1) := by decide +kernel
theorem dX11_count_112 : decode cX11_count 112 = .ok (.aload_n 0, 1) := by decide +kernel
theorem dX11_count_113 : decode cX11_count 113 = .ok (.getfield 22, 3) := by decide +kernel
theorem dX11_count_116 : decode cX11_count 116 = .ok (.getfield 128, 3) := by decide +kernel
theorem dX11_count_119 : decode cX11_count 119 = .ok (.getfield 84, 3) := by decide +kernel
theorem dX11_count_122 : decode cX11_count 122 = .ok (.ireturn, 1) := by decide +kernel
theorem dX11_count_123 : decode cX11_count 123 = .ok (.aload_n 0, 1) := by decide +kernel
theorem dX11_count_124 : decode cX11_count 124 = .ok (.getfield 22, 3) := by decide +kernel
theorem dX11_count_127 : decode cX11_count 127 = .ok (.getfield 224, 3) := by decide +kernel
theorem dX11_count_130 : decode cX11_count 130 = .ok (.ireturn, 1) := by decide +kernel
theorem dX11_count_131 : decode cX11_count 131 = .ok (.aload_n 0, 1) := by decide +kernel
theorem dX11_count_132 : decode cX11_count 132 = .ok (.getfield 97, 3) := by decide +kernel
theorem dX11_count_135 : decode cX11_count 135 = .ok (.ireturn, 1) := by decide +kernel
theorem dX11_count_136 : decode cX11_count 136 = .ok (.aload_n 0, 1) := by decide +kernel
theorem dX11_count_137 : decode cX11_count 137 = .ok (.getfield 52, 3) := by decide +kernel
theorem dX11_count_140 : decode cX11_count 140 = .ok (.ireturn, 1) := by decide +kernel
theorem dX11_count_141 : decode cX11_count 141 = .ok (.aload_n 0, 1) := by decide +kernel
theorem dX11_count_142 : decode cX11_count 142 = .ok (.getfield 12, 3) := by decide +kernel
theorem dX11_count_145 : decode cX11_count 145 = .ok (.getfield 45, 3) := by decide +kernel
theorem dX11_count_148 : decode cX11_count 148 = .ok (.ireturn, 1) := by decide +kernel
theorem dX11_count_149 : decode cX11_count 149 = .ok (.aload_n 0, 1) := by decide +kernel
theorem dX11_count_150 : decode cX11_count 150 = .ok (.iconst 1, 1) := by decide +kernel
theorem dX11_count_151 : decode cX11_count 151 = .ok (.invokevirtual 227, 3) := by decide +kernel
theorem dX11_count_154 : decode cX11_count 154 = .ok (.ireturn, 1) := by decide +kernel
theorem dX11_count_155 : decode cX11_count 155 = .ok (.aload_n 0, 1) := by decide +kernel
theorem dX11_count_156 : decode cX11_count 156 = .ok (.iconst 0, 1) := by decide +kernel
theorem dX11_count_157 : decode cX11_count 157 = .ok (.invokevirtual 227, 3) := by decide +kernel
theorem dX11_count_160 : decode cX11_count 160 = .ok (.ireturn, 1) := by decide +kernel
theorem dX11_count_161 : decode cX11_count 161 = .ok (.aload_n 0, 1) := by decide +kernel
theorem dX11_count_162 : decode cX11_count 162 = .ok (.iconst 2, 1) := by decide +kernel
theorem dX11_count_163 : decode cX11_count 163 = .ok (.invokevirtual 227, 3) := by decide +kernel
theorem dX11_count_166 : decode cX11_count 166 = .ok (.ireturn, 1) := by decide +kernel
theorem dX11_count_167 : decode cX11_count 167 = .ok (.aload_n 0, 1) := by decide +kernel
theorem dX11_count_168 : decode cX11_count 168 = .ok (.iconst 3, 1) := by decide +kernel
theorem dX11_count_169 : decode cX11_count 169 = .ok (.invokevirtual 227, 3) := by decide +kernel
theorem dX11_count_172 : decode cX11_count 172 = .ok (.ireturn, 1) := by decide +kernel
theorem dX11_count_173 : decode cX11_count 173 = .ok (.iconst (-1), 1) := by decide +kernel
theorem dX11_count_174 : decode cX11_count 174 = .ok (.ireturn, 1) := by decide +kernel
def fX11_count_0  (h : PH) (x0 : Nat) (x1 : Int32) : Option (Int32) :=
  if x1 = 0 then (oC (decide (hT h x0 = 12)) (oN (hR h 1410 x0) (fun a3 => oC (decide (hT h a3 = 2)) (oN (hR h 128 a3) (fun a5 => oC (decide (hT h a5 = 8)) (some ((hI h 897 a5)))))))) else (if x1 = 1 then (oC (decide (hT h x0 = 12)) (oN (hR h 1410 x0) (fun a9 => oC (decide (hT h a9 = 2)) (oN (hR h 129 a9) (fun a11 => oC (decide (hT h a11 = 8)) (some ((hI h 897 a11)))))))) else (if x1 = 2 then (oC (decide (hT h x0 = 12)) (oN (hR h 1410 x0) (fun a15 => oC (decide (hT h a15 = 2)) (oN (hR h 130 a15) (fun a17 => oC (decide (hT h a17 = 8)) (some ((hI h 897 a17)))))))) else (if x1 = 3 then (oC (decide (hT h x0 = 12)) (oN (hR h 1410 x0) (fun a21 => oC (decide (hT h a21 = 2)) (oN (hR h 131 a21) (fun a23 => oC (decide (hT h a23 = 8)) (some ((hI h 897 a23)))))))) else (if x1 = 4 then (oC (decide (hT h x0 = 12)) (oN (hR h 1410 x0) (fun a27 => oC (decide (hT h a27 = 2)) (oN (hR h 132 a27) (fun a29 => oC (decide (hT h a29 = 8)) (some ((hI h 897 a29)))))))) else (if x1 = 5 then (oC (decide (hT h x0 = 12)) (oN (hR h 1410 x0) (fun a33 => oC (decide (hT h a33 = 2)) (some ((hI h 139 a33)))))) else (if x1 = 6 then (oC (decide (hT h x0 = 12)) (some ((hI h 1413 x0)))) else (if x1 = 7 then (oC (decide (hT h x0 = 12)) (some ((hI h 1414 x0)))) else (if x1 = 8 then (oC (decide (hT h x0 = 12)) (oN (hR h 1408 x0) (fun a41 => oC (decide (hT h a41 = 1)) (some ((hI h 1 a41)))))) else (if x1 = 9 then (oC (decide (hT h x0 = 12)) (oB (fX11_judgedTally h x0 1) (fun r46 => some (r46)))) else (if x1 = 10 then (oC (decide (hT h x0 = 12)) (oB (fX11_judgedTally h x0 0) (fun r50 => some (r50)))) else (if x1 = 11 then (oC (decide (hT h x0 = 12)) (oB (fX11_judgedTally h x0 2) (fun r54 => some (r54)))) else (if x1 = 12 then (oC (decide (hT h x0 = 12)) (oB (fX11_judgedTally h x0 3) (fun r58 => some (r58)))) else (some ((-1)))))))))))))))
set_option maxHeartbeats 4000000 in
theorem wfX11_count_0 {args : Array Value} (b : Bd p s m c cX11_count 2 RX11 D aC) (hlk : meth.locks = false) (hr : meth.sig.returnType = some .int) {Z : State → Prop} (zs : Z s) (zk : ZOK Z (Rg ad)) {rz : Int32} {h : PH} {x0 : Nat} {x1 : Int32}  {H : Heap} {locs : List Loc} {ls : Array Slot} (hf : fX11_count_0 h x0 x1 = some rz) (hE : CE (EX D aC ad h) (Rg ad) s H locs) (hl : lv_has ls 2 [(0, .ref (ad x0)), (1, .int x1)]) : W p l e (RM 1 21 0 0) s m args below meth c H locs 0 0 (MQ below (PQ (EX D aC ad h) (Rg ad) (some (.int rz))) args s 0 0 (Rg ad)) (F0 m 0 ls []) := by
  unfold fX11_count_0 at hf
  refine lv_iload_n b.1 b.2.1 dX11_count_0 rfl (lv_at hl 1 rfl) ?_
  rcases Decidable.em (x1 = 0) with c1 | c1
  · have hf := oI_t c1 hf
    refine lv_tableIn (tgt := 68) b.1 b.2.1 dX11_count_1 (off := 67) (by rw [c1]; decide) (by rw [c1]; decide) (by rw [c1] <;> rfl) (by decide) ?_
    refine lv_aload_n b.1 b.2.1 dX11_count_68 rfl (lv_at hl 0 rfl) ?_
    obtain ⟨t2, hf⟩ := oC_s hf
    have t2 := of_decide_eq_true t2
    refine gX11_22 (x := (some x0)) b hE rfl t2 dX11_count_69 ?_
    obtain ⟨a3, ea3, hf⟩ := oN_s hf
    obtain ⟨t4, hf⟩ := oC_s hf
    have t4 := of_decide_eq_true t4
    refine gX11_89 (x := (hR h 1410 x0)) b hE ea3 t4 dX11_count_72 ?_
    obtain ⟨a5, ea5, hf⟩ := oN_s hf
    obtain ⟨t6, hf⟩ := oC_s hf
    have t6 := of_decide_eq_true t6
    refine gX11_84 (x := (hR h 128 a3)) b hE ea5 t6 dX11_count_75 ?_
    cases hf
    exact k_iret b hlk hr hE (Nat.le_refl _) (Nat.le_refl _) dX11_count_78
  have hf := oI_f c1 hf
  rcases Decidable.em (x1 = 1) with c7 | c7
  · have hf := oI_t c7 hf
    refine lv_tableIn (tgt := 79) b.1 b.2.1 dX11_count_1 (off := 78) (by rw [c7]; decide) (by rw [c7]; decide) (by rw [c7] <;> rfl) (by decide) ?_
    refine lv_aload_n b.1 b.2.1 dX11_count_79 rfl (lv_at hl 0 rfl) ?_
    obtain ⟨t8, hf⟩ := oC_s hf
    have t8 := of_decide_eq_true t8
    refine gX11_22 (x := (some x0)) b hE rfl t8 dX11_count_80 ?_
    obtain ⟨a9, ea9, hf⟩ := oN_s hf
    obtain ⟨t10, hf⟩ := oC_s hf
    have t10 := of_decide_eq_true t10
    refine gX11_80 (x := (hR h 1410 x0)) b hE ea9 t10 dX11_count_83 ?_
    obtain ⟨a11, ea11, hf⟩ := oN_s hf
    obtain ⟨t12, hf⟩ := oC_s hf
    have t12 := of_decide_eq_true t12
    refine gX11_84 (x := (hR h 129 a9)) b hE ea11 t12 dX11_count_86 ?_
    cases hf
    exact k_iret b hlk hr hE (Nat.le_refl _) (Nat.le_refl _) dX11_count_89
  have hf := oI_f c7 hf
  rcases Decidable.em (x1 = 2) with c13 | c13
  · have hf := oI_t c13 hf
    refine lv_tableIn (tgt := 90) b.1 b.2.1 dX11_count_1 (off := 89) (by rw [c13]; decide) (by rw [c13]; decide) (by rw [c13] <;> rfl) (by decide) ?_
    refine lv_aload_n b.1 b.2.1 dX11_count_90 rfl (lv_at hl 0 rfl) ?_
    obtain ⟨t14, hf⟩ := oC_s hf
    have t14 := of_decide_eq_true t14
    refine gX11_22 (x := (some x0)) b hE rfl t14 dX11_count_91 ?_
    obtain ⟨a15, ea15, hf⟩ := oN_s hf
    obtain ⟨t16, hf⟩ := oC_s hf
    have t16 := of_decide_eq_true t16
    refine gX11_218 (x := (hR h 1410 x0)) b hE ea15 t16 dX11_count_94 ?_
    obtain ⟨a17, ea17, hf⟩ := oN_s hf
    obtain ⟨t18, hf⟩ := oC_s hf
    have t18 := of_decide_eq_true t18
    refine gX11_84 (x := (hR h 130 a15)) b hE ea17 t18 dX11_count_97 ?_
    cases hf
    exact k_iret b hlk hr hE (Nat.le_refl _) (Nat.le_refl _) dX11_count_100
  have hf := oI_f c13 hf
  rcases Decidable.em (x1 = 3) with c19 | c19
  · have hf := oI_t c19 hf
    refine lv_tableIn (tgt := 101) b.1 b.2.1 dX11_count_1 (off := 100) (by rw [c19]; decide) (by rw [c19]; decide) (by rw [c19] <;> rfl) (by decide) ?_
    refine lv_aload_n b.1 b.2.1 dX11_count_101 rfl (lv_at hl 0 rfl) ?_
    obtain ⟨t20, hf⟩ := oC_s hf
    have t20 := of_decide_eq_true t20
    refine gX11_22 (x := (some x0)) b hE rfl t20 dX11_count_102 ?_
    obtain ⟨a21, ea21, hf⟩ := oN_s hf
    obtain ⟨t22, hf⟩ := oC_s hf
    have t22 := of_decide_eq_true t22
    refine gX11_221 (x := (hR h 1410 x0)) b hE ea21 t22 dX11_count_105 ?_
    obtain ⟨a23, ea23, hf⟩ := oN_s hf
    obtain ⟨t24, hf⟩ := oC_s hf
    have t24 := of_decide_eq_true t24
    refine gX11_84 (x := (hR h 131 a21)) b hE ea23 t24 dX11_count_108 ?_
    cases hf
    exact k_iret b hlk hr hE (Nat.le_refl _) (Nat.le_refl _) dX11_count_111
  have hf := oI_f c19 hf
  rcases Decidable.em (x1 = 4) with c25 | c25
  · have hf := oI_t c25 hf
    refine lv_tableIn (tgt := 112) b.1 b.2.1 dX11_count_1 (off := 111) (by rw [c25]; decide) (by rw [c25]; decide) (by rw [c25] <;> rfl) (by decide) ?_
    refine lv_aload_n b.1 b.2.1 dX11_count_112 rfl (lv_at hl 0 rfl) ?_
    obtain ⟨t26, hf⟩ := oC_s hf
    have t26 := of_decide_eq_true t26
    refine gX11_22 (x := (some x0)) b hE rfl t26 dX11_count_113 ?_
    obtain ⟨a27, ea27, hf⟩ := oN_s hf
    obtain ⟨t28, hf⟩ := oC_s hf
    have t28 := of_decide_eq_true t28
    refine gX11_128 (x := (hR h 1410 x0)) b hE ea27 t28 dX11_count_116 ?_
    obtain ⟨a29, ea29, hf⟩ := oN_s hf
    obtain ⟨t30, hf⟩ := oC_s hf
    have t30 := of_decide_eq_true t30
    refine gX11_84 (x := (hR h 132 a27)) b hE ea29 t30 dX11_count_119 ?_
    cases hf
    exact k_iret b hlk hr hE (Nat.le_refl _) (Nat.le_refl _) dX11_count_122
  have hf := oI_f c25 hf
  rcases Decidable.em (x1 = 5) with c31 | c31
  · have hf := oI_t c31 hf
    refine lv_tableIn (tgt := 123) b.1 b.2.1 dX11_count_1 (off := 122) (by rw [c31]; decide) (by rw [c31]; decide) (by rw [c31] <;> rfl) (by decide) ?_
    refine lv_aload_n b.1 b.2.1 dX11_count_123 rfl (lv_at hl 0 rfl) ?_
    obtain ⟨t32, hf⟩ := oC_s hf
    have t32 := of_decide_eq_true t32
    refine gX11_22 (x := (some x0)) b hE rfl t32 dX11_count_124 ?_
    obtain ⟨a33, ea33, hf⟩ := oN_s hf
    obtain ⟨t34, hf⟩ := oC_s hf
    have t34 := of_decide_eq_true t34
    refine gX11_224 (x := (hR h 1410 x0)) b hE ea33 t34 dX11_count_127 ?_
    cases hf
    exact k_iret b hlk hr hE (Nat.le_refl _) (Nat.le_refl _) dX11_count_130
  have hf := oI_f c31 hf
  rcases Decidable.em (x1 = 6) with c35 | c35
  · have hf := oI_t c35 hf
    refine lv_tableIn (tgt := 131) b.1 b.2.1 dX11_count_1 (off := 130) (by rw [c35]; decide) (by rw [c35]; decide) (by rw [c35] <;> rfl) (by decide) ?_
    refine lv_aload_n b.1 b.2.1 dX11_count_131 rfl (lv_at hl 0 rfl) ?_
    obtain ⟨t36, hf⟩ := oC_s hf
    have t36 := of_decide_eq_true t36
    refine gX11_97 (x := (some x0)) b hE rfl t36 dX11_count_132 ?_
    cases hf
    exact k_iret b hlk hr hE (Nat.le_refl _) (Nat.le_refl _) dX11_count_135
  have hf := oI_f c35 hf
  rcases Decidable.em (x1 = 7) with c37 | c37
  · have hf := oI_t c37 hf
    refine lv_tableIn (tgt := 136) b.1 b.2.1 dX11_count_1 (off := 135) (by rw [c37]; decide) (by rw [c37]; decide) (by rw [c37] <;> rfl) (by decide) ?_
    refine lv_aload_n b.1 b.2.1 dX11_count_136 rfl (lv_at hl 0 rfl) ?_
    obtain ⟨t38, hf⟩ := oC_s hf
    have t38 := of_decide_eq_true t38
    refine gX11_52 (x := (some x0)) b hE rfl t38 dX11_count_137 ?_
    cases hf
    exact k_iret b hlk hr hE (Nat.le_refl _) (Nat.le_refl _) dX11_count_140
  have hf := oI_f c37 hf
  rcases Decidable.em (x1 = 8) with c39 | c39
  · have hf := oI_t c39 hf
    refine lv_tableIn (tgt := 141) b.1 b.2.1 dX11_count_1 (off := 140) (by rw [c39]; decide) (by rw [c39]; decide) (by rw [c39] <;> rfl) (by decide) ?_
    refine lv_aload_n b.1 b.2.1 dX11_count_141 rfl (lv_at hl 0 rfl) ?_
    obtain ⟨t40, hf⟩ := oC_s hf
    have t40 := of_decide_eq_true t40
    refine gX11_12 (x := (some x0)) b hE rfl t40 dX11_count_142 ?_
    obtain ⟨a41, ea41, hf⟩ := oN_s hf
    obtain ⟨t42, hf⟩ := oC_s hf
    have t42 := of_decide_eq_true t42
    refine gX11_45 (x := (hR h 1408 x0)) b hE ea41 t42 dX11_count_145 ?_
    cases hf
    exact k_iret b hlk hr hE (Nat.le_refl _) (Nat.le_refl _) dX11_count_148
  have hf := oI_f c39 hf
  rcases Decidable.em (x1 = 9) with c43 | c43
  · have hf := oI_t c43 hf
    refine lv_tableIn (tgt := 149) b.1 b.2.1 dX11_count_1 (off := 148) (by rw [c43]; decide) (by rw [c43]; decide) (by rw [c43] <;> rfl) (by decide) ?_
    refine lv_aload_n b.1 b.2.1 dX11_count_149 rfl (lv_at hl 0 rfl) ?_
    refine lv_iconst (v := 1) b.1 b.2.1 dX11_count_150 (by decide) ?_
    obtain ⟨t44, hf⟩ := oC_s hf
    have t44 := of_decide_eq_true t44
    obtain ⟨r46, hc45, hf⟩ := oB_s hf
    refine k_callV0 (C := RX11) b zs zk hE (CX11_judgedTally l D aC ad zk hc45) mc_X11_judgedTally (in5 184 rfl rfl) mi_X11_judgedTally ms_X11_judgedTally ini_RX11 ok_X11_judgedTally (x_recv b hE (ci := 11) rfl (by decide) t44) ⟨Nat.le_of_ble_eq_true rfl, Nat.le_of_ble_eq_true rfl⟩ rfl hl.1 rfl (k_room _ (by exact Nat.le_of_ble_eq_true rfl)) ⟨Nat.le_refl _, Nat.le_refl _⟩ dX11_count_151 (fun H locs hE => ?_)
    cases hf
    exact k_iret b hlk hr hE (Nat.le_refl _) (Nat.le_refl _) dX11_count_154
  have hf := oI_f c43 hf
  rcases Decidable.em (x1 = 10) with c47 | c47
  · have hf := oI_t c47 hf
    refine lv_tableIn (tgt := 155) b.1 b.2.1 dX11_count_1 (off := 154) (by rw [c47]; decide) (by rw [c47]; decide) (by rw [c47] <;> rfl) (by decide) ?_
    refine lv_aload_n b.1 b.2.1 dX11_count_155 rfl (lv_at hl 0 rfl) ?_
    refine lv_iconst (v := 0) b.1 b.2.1 dX11_count_156 (by decide) ?_
    obtain ⟨t48, hf⟩ := oC_s hf
    have t48 := of_decide_eq_true t48
    obtain ⟨r50, hc49, hf⟩ := oB_s hf
    refine k_callV0 (C := RX11) b zs zk hE (CX11_judgedTally l D aC ad zk hc49) mc_X11_judgedTally (in5 184 rfl rfl) mi_X11_judgedTally ms_X11_judgedTally ini_RX11 ok_X11_judgedTally (x_recv b hE (ci := 11) rfl (by decide) t48) ⟨Nat.le_of_ble_eq_true rfl, Nat.le_of_ble_eq_true rfl⟩ rfl hl.1 rfl (k_room _ (by exact Nat.le_of_ble_eq_true rfl)) ⟨Nat.le_refl _, Nat.le_refl _⟩ dX11_count_157 (fun H locs hE => ?_)
    cases hf
    exact k_iret b hlk hr hE (Nat.le_refl _) (Nat.le_refl _) dX11_count_160
  have hf := oI_f c47 hf
  rcases Decidable.em (x1 = 11) with c51 | c51
  · have hf := oI_t c51 hf
    refine lv_tableIn (tgt := 161) b.1 b.2.1 dX11_count_1 (off := 160) (by rw [c51]; decide) (by rw [c51]; decide) (by rw [c51] <;> rfl) (by decide) ?_
    refine lv_aload_n b.1 b.2.1 dX11_count_161 rfl (lv_at hl 0 rfl) ?_
    refine lv_iconst (v := 2) b.1 b.2.1 dX11_count_162 (by decide) ?_
    obtain ⟨t52, hf⟩ := oC_s hf
    have t52 := of_decide_eq_true t52
    obtain ⟨r54, hc53, hf⟩ := oB_s hf
    refine k_callV0 (C := RX11) b zs zk hE (CX11_judgedTally l D aC ad zk hc53) mc_X11_judgedTally (in5 184 rfl rfl) mi_X11_judgedTally ms_X11_judgedTally ini_RX11 ok_X11_judgedTally (x_recv b hE (ci := 11) rfl (by decide) t52) ⟨Nat.le_of_ble_eq_true rfl, Nat.le_of_ble_eq_true rfl⟩ rfl hl.1 rfl (k_room _ (by exact Nat.le_of_ble_eq_true rfl)) ⟨Nat.le_refl _, Nat.le_refl _⟩ dX11_count_163 (fun H locs hE => ?_)
    cases hf
    exact k_iret b hlk hr hE (Nat.le_refl _) (Nat.le_refl _) dX11_count_166
  have hf := oI_f c51 hf
  rcases Decidable.em (x1 = 12) with c55 | c55
  · have hf := oI_t c55 hf
    refine lv_tableIn (tgt := 167) b.1 b.2.1 dX11_count_1 (off := 166) (by rw [c55]; decide) (by rw [c55]; decide) (by rw [c55] <;> rfl) (by decide) ?_
    refine lv_aload_n b.1 b.2.1 dX11_count_167 rfl (lv_at hl 0 rfl) ?_
    refine lv_iconst (v := 3) b.1 b.2.1 dX11_count_168 (by decide) ?_
    obtain ⟨t56, hf⟩ := oC_s hf
    have t56 := of_decide_eq_true t56
    obtain ⟨r58, hc57, hf⟩ := oB_s hf
    refine k_callV0 (C := RX11) b zs zk hE (CX11_judgedTally l D aC ad zk hc57) mc_X11_judgedTally (in5 184 rfl rfl) mi_X11_judgedTally ms_X11_judgedTally ini_RX11 ok_X11_judgedTally (x_recv b hE (ci := 11) rfl (by decide) t56) ⟨Nat.le_of_ble_eq_true rfl, Nat.le_of_ble_eq_true rfl⟩ rfl hl.1 rfl (k_room _ (by exact Nat.le_of_ble_eq_true rfl)) ⟨Nat.le_refl _, Nat.le_refl _⟩ dX11_count_169 (fun H locs hE => ?_)
    cases hf
    exact k_iret b hlk hr hE (Nat.le_refl _) (Nat.le_refl _) dX11_count_172
  have hf := oI_f c55 hf
  have c1 := lv_neT (a := 0) c1 (by decide)
  have c7 := lv_neT (a := 1) c7 (by decide)
  have c13 := lv_neT (a := 2) c13 (by decide)
  have c19 := lv_neT (a := 3) c19 (by decide)
  have c25 := lv_neT (a := 4) c25 (by decide)
  have c31 := lv_neT (a := 5) c31 (by decide)
  have c35 := lv_neT (a := 6) c35 (by decide)
  have c37 := lv_neT (a := 7) c37 (by decide)
  have c39 := lv_neT (a := 8) c39 (by decide)
  have c43 := lv_neT (a := 9) c43 (by decide)
  have c47 := lv_neT (a := 10) c47 (by decide)
  have c51 := lv_neT (a := 11) c51 (by decide)
  have c55 := lv_neT (a := 12) c55 (by decide)
  refine lv_tableOut (tgt := 173) b.1 b.2.1 dX11_count_1 (by omega) (by decide) ?_
  refine lv_iconst (v := (-1)) b.1 b.2.1 dX11_count_173 (by decide) ?_
  cases hf
  exact k_iret b hlk hr hE (Nat.le_refl _) (Nat.le_refl _) dX11_count_174
def fX11_count (h : PH) (x0 : Nat) (x1 : Int32) : Option (Int32) := fX11_count_0 h x0 x1
set_option maxHeartbeats 4000000 in
theorem CX11_count (l : Launch) (D : va_G) (aC : Nat → ClassId) (ad : Nat → Nat) {Z : State → Prop} (zk : ZOK Z (Rg ad)) {h : PH} {x0 : Nat} {x1 : Int32} {rz : Int32} (hf : fX11_count h x0 x1 = some rz) : CM l D aC Z yX11_count cX11_count 2 (some .int) 1 21 0 0 (EX D aC ad h) [.ref (ad x0), .int x1] (EX D aC ad h) (some (.int rz)) (Rg ad) := by
  refine CM.of rfl ?_
  intro p e s m below meth c b hr hlk hin2 zs hE
  refine k_ent (Nat.le_of_ble_eq_true rfl) (fun ls hl => ?_)
  exact wfX11_count_0 b hlk hr zs zk hf hE (lv_sub hl [0, 1] rfl)
end
