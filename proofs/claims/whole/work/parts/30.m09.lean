section
variable {p : Program} {l : Launch} {e : Env} {s : State} {m : MethodId} {below : List Frame} {meth : Method} {c : Code} {D : va_G} {aC : Nat → ClassId} {ad : Nat → Nat}
theorem dX12_isInForce_0 : decode cX12_isInForce 0 = .ok (.aload_n 0, 1) := by decide +kernel
theorem dX12_isInForce_1 : decode cX12_isInForce 1 = .ok (.getfield 82, 3) := by decide +kernel
theorem dX12_isInForce_4 : decode cX12_isInForce 4 = .ok (.iload_n 1, 1) := by decide +kernel
theorem dX12_isInForce_5 : decode cX12_isInForce 5 = .ok (.iaload, 1) := by decide +kernel
theorem dX12_isInForce_6 : decode cX12_isInForce 6 = .ok (.istore 4, 2) := by decide +kernel
theorem dX12_isInForce_8 : decode cX12_isInForce 8 = .ok (.aload_n 0, 1) := by decide +kernel
theorem dX12_isInForce_9 : decode cX12_isInForce 9 = .ok (.getfield 61, 3) := by decide +kernel
theorem dX12_isInForce_12 : decode cX12_isInForce 12 = .ok (.iload 4, 2) := by decide +kernel
theorem dX12_isInForce_14 : decode cX12_isInForce 14 = .ok (.iaload, 1) := by decide +kernel
theorem dX12_isInForce_15 : decode cX12_isInForce 15 = .ok (.iload_n 2, 1) := by decide +kernel
theorem dX12_isInForce_16 : decode cX12_isInForce 16 = .ok (.if_icmp .gt 40, 3) := by decide +kernel
theorem dX12_isInForce_19 : decode cX12_isInForce 19 = .ok (.aload_n 0, 1) := by decide +kernel
theorem dX12_isInForce_20 : decode cX12_isInForce 20 = .ok (.getfield 64, 3) := by decide +kernel
theorem dX12_isInForce_23 : decode cX12_isInForce 23 = .ok (.iload 4, 2) := by decide +kernel
theorem dX12_isInForce_25 : decode cX12_isInForce 25 = .ok (.iaload, 1) := by decide +kernel
theorem dX12_isInForce_26 : decode cX12_isInForce 26 = .ok (.iload_n 3, 1) := by decide +kernel
theorem dX12_isInForce_27 : decode cX12_isInForce 27 = .ok (.if_icmp .gt 29, 3) := by decide +kernel
theorem dX12_isInForce_30 : decode cX12_isInForce 30 = .ok (.aload_n 0, 1) := by decide +kernel
theorem dX12_isInForce_31 : decode cX12_isInForce 31 = .ok (.getfield 67, 3) := by decide +kernel
theorem dX12_isInForce_34 : decode cX12_isInForce 34 = .ok (.iload 4, 2) := by decide +kernel
theorem dX12_isInForce_36 : decode cX12_isInForce 36 = .ok (.iaload, 1) := by decide +kernel
theorem dX12_isInForce_37 : decode cX12_isInForce 37 = .ok (.iconst (-1), 1) := by decide +kernel
theorem dX12_isInForce_38 : decode cX12_isInForce 38 = .ok (.if_icmp .eq 14, 3) := by decide +kernel
theorem dX12_isInForce_41 : decode cX12_isInForce 41 = .ok (.iload_n 3, 1) := by decide +kernel
theorem dX12_isInForce_42 : decode cX12_isInForce 42 = .ok (.aload_n 0, 1) := by decide +kernel
theorem dX12_isInForce_43 : decode cX12_isInForce 43 = .ok (.getfield 67, 3) := by decide +kernel
theorem dX12_isInForce_46 : decode cX12_isInForce 46 = .ok (.iload 4, 2) := by decide +kernel
theorem dX12_isInForce_48 : decode cX12_isInForce 48 = .ok (.iaload, 1) := by decide +kernel
theorem dX12_isInForce_49 : decode cX12_isInForce 49 = .ok (.if_icmp .ge 7, 3) := by decide +kernel
theorem dX12_isInForce_52 : decode cX12_isInForce 52 = .ok (.iconst 1, 1) := by decide +kernel
theorem dX12_isInForce_53 : decode cX12_isInForce 53 = .ok (.goto 4, 3) := by decide +kernel
theorem dX12_isInForce_56 : decode cX12_isInForce 56 = .ok (.iconst 0, 1) := by decide +kernel
theorem dX12_isInForce_57 : decode cX12_isInForce 57 = .ok (.ireturn, 1) := by decide +kernel
def fX12_isInForce_0  (h : MS) (x1 : Int32) (x2 : Int32) (x3 : Int32) : Option (Int32) :=
  oC (ix x1 (mlen 39)) (oL (mA h 39 (Int32.toNatClampNeg x1)) (fun y2 => oC (ix y2 (mlen 32)) (if x2 < (mA h 32 (Int32.toNatClampNeg y2)) then (some (0)) else (oC (ix y2 (mlen 33)) (if x3 < (mA h 33 (Int32.toNatClampNeg y2)) then (some (0)) else (oC (ix y2 (mlen 34)) (if (mA h 34 (Int32.toNatClampNeg y2)) = (-1) then (some (1)) else (oC (ix y2 (mlen 34)) (if (mA h 34 (Int32.toNatClampNeg y2)) ≤ x3 then (some (0)) else (some (1)))))))))))
set_option maxHeartbeats 4000000 in
theorem wfX12_isInForce_0 {args : Array Value} (b : Bd p s m c cX12_isInForce 5 RX12 D aC) (hlk : meth.locks = false) (hr : meth.sig.returnType = some .boolean) {Z : State → Prop} (zs : Z s) (zk : ZOK Z (Rg ad)) {rz : Int32} {h : MS} {x1 : Int32} {x2 : Int32} {x3 : Int32}  {H : Heap} {locs : List Loc} {ls : Array Slot} (hf : fX12_isInForce_0 h x1 x2 x3 = some rz) (hE : CE (EM D aC ad h) (Rg ad) s H locs) (hl : lv_has ls 5 [(0, .ref (ad 116)), (1, .int x1), (2, .int x2), (3, .int x3)]) : W p l e (RM 0 0 0 0) s m args below meth c H locs 0 0 (MQ below (PQ (EM D aC ad h) (Rg ad) (some (.int rz))) args s 0 0 (Rg ad)) (F0 m 0 ls []) := by
  unfold fX12_isInForce_0 at hf
  refine lv_aload_n b.1 b.2.1 dX12_isInForce_0 rfl (lv_at hl 0 rfl) ?_
  refine gM_82 b hE dX12_isInForce_1 ?_
  refine lv_iload_n b.1 b.2.1 dX12_isInForce_4 rfl (lv_at hl 1 rfl) ?_
  obtain ⟨g1, hf⟩ := oC_s hf
  refine m_iald b hE rfl rfl g1 dX12_isInForce_5 ?_
  obtain ⟨y2, ey2, hf⟩ := oL_s hf
  refine k_nmI ey2 ?_
  refine lv_istore (lv' := [(4, .int y2), (0, .ref (ad 116)), (1, .int x1), (2, .int x2), (3, .int x3)]) b.1 b.2.1 dX12_isInForce_6 hl (by decide) rfl (fun ls hl => ?_)
  have hl := lv_sub (l' := [(4, .int y2), (0, .ref (ad 116)), (2, .int x2), (3, .int x3)]) hl [0, 1, 3, 4] rfl
  refine lv_aload_n b.1 b.2.1 dX12_isInForce_8 rfl (lv_at hl 1 rfl) ?_
  refine gM_61 b hE dX12_isInForce_9 ?_
  refine lv_iload b.1 b.2.1 dX12_isInForce_12 (lv_at hl 0 rfl) ?_
  obtain ⟨g3, hf⟩ := oC_s hf
  refine m_iald b hE rfl rfl g3 dX12_isInForce_14 ?_
  refine lv_iload_n b.1 b.2.1 dX12_isInForce_15 rfl (lv_at hl 2 rfl) ?_
  refine lv_icmp_gt (tgt := 56) b.1 b.2.1 dX12_isInForce_16 (by decide) (fun c4 => ?_) (fun c4 => ?_)
  · have hf := oI_t c4 hf
    refine lv_iconst (v := 0) b.1 b.2.1 dX12_isInForce_56 (by decide) ?_
    cases hf
    exact k_zret b hlk hr (by decide) hE (Nat.le_refl _) (Nat.le_refl _) dX12_isInForce_57
  · have hf := oI_f c4 hf
    refine lv_aload_n b.1 b.2.1 dX12_isInForce_19 rfl (lv_at hl 1 rfl) ?_
    refine gM_64 b hE dX12_isInForce_20 ?_
    refine lv_iload b.1 b.2.1 dX12_isInForce_23 (lv_at hl 0 rfl) ?_
    obtain ⟨g5, hf⟩ := oC_s hf
    refine m_iald b hE rfl rfl g5 dX12_isInForce_25 ?_
    refine lv_iload_n b.1 b.2.1 dX12_isInForce_26 rfl (lv_at hl 3 rfl) ?_
    refine lv_icmp_gt (tgt := 56) b.1 b.2.1 dX12_isInForce_27 (by decide) (fun c6 => ?_) (fun c6 => ?_)
    · have hf := oI_t c6 hf
      refine lv_iconst (v := 0) b.1 b.2.1 dX12_isInForce_56 (by decide) ?_
      cases hf
      exact k_zret b hlk hr (by decide) hE (Nat.le_refl _) (Nat.le_refl _) dX12_isInForce_57
    · have hf := oI_f c6 hf
      refine lv_aload_n b.1 b.2.1 dX12_isInForce_30 rfl (lv_at hl 1 rfl) ?_
      refine gM_67 b hE dX12_isInForce_31 ?_
      refine lv_iload b.1 b.2.1 dX12_isInForce_34 (lv_at hl 0 rfl) ?_
      obtain ⟨g7, hf⟩ := oC_s hf
      refine m_iald b hE rfl rfl g7 dX12_isInForce_36 ?_
      refine lv_iconst (v := (-1)) b.1 b.2.1 dX12_isInForce_37 (by decide) ?_
      refine lv_icmp_eq (tgt := 52) b.1 b.2.1 dX12_isInForce_38 (by decide) (fun c8 => ?_) (fun c8 => ?_)
      · have hf := oI_t c8 hf
        refine lv_iconst (v := 1) b.1 b.2.1 dX12_isInForce_52 (by decide) ?_
        refine lv_goto (tgt := 57) b.1 b.2.1 dX12_isInForce_53 (by decide) ?_
        cases hf
        exact k_zret b hlk hr (by decide) hE (Nat.le_refl _) (Nat.le_refl _) dX12_isInForce_57
      · have hf := oI_f c8 hf
        refine lv_iload_n b.1 b.2.1 dX12_isInForce_41 rfl (lv_at hl 3 rfl) ?_
        refine lv_aload_n b.1 b.2.1 dX12_isInForce_42 rfl (lv_at hl 1 rfl) ?_
        refine gM_67 b hE dX12_isInForce_43 ?_
        refine lv_iload b.1 b.2.1 dX12_isInForce_46 (lv_at hl 0 rfl) ?_
        obtain ⟨g9, hf⟩ := oC_s hf
        refine m_iald b hE rfl rfl g9 dX12_isInForce_48 ?_
        refine lv_icmp_ge (tgt := 56) b.1 b.2.1 dX12_isInForce_49 (by decide) (fun c10 => ?_) (fun c10 => ?_)
        · have hf := oI_t c10 hf
          refine lv_iconst (v := 0) b.1 b.2.1 dX12_isInForce_56 (by decide) ?_
          cases hf
          exact k_zret b hlk hr (by decide) hE (Nat.le_refl _) (Nat.le_refl _) dX12_isInForce_57
        · have hf := oI_f c10 hf
          refine lv_iconst (v := 1) b.1 b.2.1 dX12_isInForce_52 (by decide) ?_
          refine lv_goto (tgt := 57) b.1 b.2.1 dX12_isInForce_53 (by decide) ?_
          cases hf
          exact k_zret b hlk hr (by decide) hE (Nat.le_refl _) (Nat.le_refl _) dX12_isInForce_57
def fX12_isInForce (h : MS) (x1 : Int32) (x2 : Int32) (x3 : Int32) : Option (Int32) := fX12_isInForce_0 h x1 x2 x3
set_option maxHeartbeats 4000000 in
theorem CX12_isInForce (l : Launch) (D : va_G) (aC : Nat → ClassId) (ad : Nat → Nat) {Z : State → Prop} (zk : ZOK Z (Rg ad)) {h : MS} {x1 : Int32} {x2 : Int32} {x3 : Int32} {rz : Int32} (hf : fX12_isInForce h x1 x2 x3 = some rz) : CM l D aC Z yX12_isInForce cX12_isInForce 5 (some .boolean) 0 0 0 0 (EM D aC ad h) [.ref (ad 116), .int x1, .int x2, .int x3] (EM D aC ad h) (some (.int rz)) (Rg ad) := by
  refine CM.of rfl ?_
  intro p e s m below meth c b hr hlk hin2 zs hE
  refine k_ent (Nat.le_of_ble_eq_true rfl) (fun ls hl => ?_)
  exact wfX12_isInForce_0 b hlk hr zs zk hf hE (lv_sub hl [0, 1, 2, 3] rfl)
theorem dX12_compares_0 : decode cX12_compares 0 = .ok (.aload_n 0, 1) := by decide +kernel
theorem dX12_compares_1 : decode cX12_compares 1 = .ok (.aload_n 0, 1) := by decide +kernel
theorem dX12_compares_2 : decode cX12_compares 2 = .ok (.getfield 137, 3) := by decide +kernel
theorem dX12_compares_5 : decode cX12_compares 5 = .ok (.iload_n 1, 1) := by decide +kernel
theorem dX12_compares_6 : decode cX12_compares 6 = .ok (.iaload, 1) := by decide +kernel
theorem dX12_compares_7 : decode cX12_compares 7 = .ok (.aload_n 0, 1) := by decide +kernel
theorem dX12_compares_8 : decode cX12_compares 8 = .ok (.getfield 140, 3) := by decide +kernel
theorem dX12_compares_11 : decode cX12_compares 11 = .ok (.iload_n 1, 1) := by decide +kernel
theorem dX12_compares_12 : decode cX12_compares 12 = .ok (.iaload, 1) := by decide +kernel
theorem dX12_compares_13 : decode cX12_compares 13 = .ok (.aload_n 0, 1) := by decide +kernel
theorem dX12_compares_14 : decode cX12_compares 14 = .ok (.getfield 216, 3) := by decide +kernel
theorem dX12_compares_17 : decode cX12_compares 17 = .ok (.invokevirtual 481, 3) := by decide +kernel
theorem dX12_compares_20 : decode cX12_compares 20 = .ok (.aload_n 0, 1) := by decide +kernel
theorem dX12_compares_21 : decode cX12_compares 21 = .ok (.getfield 463, 3) := by decide +kernel
theorem dX12_compares_24 : decode cX12_compares 24 = .ok (.ifCond .eq 5, 3) := by decide +kernel
theorem dX12_compares_27 : decode cX12_compares 27 = .ok (.iconst 0, 1) := by decide +kernel
theorem dX12_compares_28 : decode cX12_compares 28 = .ok (.ireturn, 1) := by decide +kernel
theorem dX12_compares_29 : decode cX12_compares 29 = .ok (.aload_n 0, 1) := by decide +kernel
theorem dX12_compares_30 : decode cX12_compares 30 = .ok (.getfield 452, 3) := by decide +kernel
theorem dX12_compares_33 : decode cX12_compares 33 = .ok (.lstore_n 2, 1) := by decide +kernel
theorem dX12_compares_34 : decode cX12_compares 34 = .ok (.aload_n 0, 1) := by decide +kernel
theorem dX12_compares_35 : decode cX12_compares 35 = .ok (.getfield 456, 3) := by decide +kernel
theorem dX12_compares_38 : decode cX12_compares 38 = .ok (.lstore 4, 2) := by decide +kernel
theorem dX12_compares_40 : decode cX12_compares 40 = .ok (.aload_n 0, 1) := by decide +kernel
theorem dX12_compares_41 : decode cX12_compares 41 = .ok (.aload_n 0, 1) := by decide +kernel
theorem dX12_compares_42 : decode cX12_compares 42 = .ok (.getfield 140, 3) := by decide +kernel
theorem dX12_compares_45 : decode cX12_compares 45 = .ok (.iload_n 1, 1) := by decide +kernel
theorem dX12_compares_46 : decode cX12_compares 46 = .ok (.iaload, 1) := by decide +kernel
theorem dX12_compares_47 : decode cX12_compares 47 = .ok (.aload_n 0, 1) := by decide +kernel
theorem dX12_compares_48 : decode cX12_compares 48 = .ok (.getfield 143, 3) := by decide +kernel
theorem dX12_compares_51 : decode cX12_compares 51 = .ok (.iload_n 1, 1) := by decide +kernel
theorem dX12_compares_52 : decode cX12_compares 52 = .ok (.iaload, 1) := by decide +kernel
theorem dX12_compares_53 : decode cX12_compares 53 = .ok (.aload_n 0, 1) := by decide +kernel
theorem dX12_compares_54 : decode cX12_compares 54 = .ok (.getfield 216, 3) := by decide +kernel
theorem dX12_compares_57 : decode cX12_compares 57 = .ok (.invokevirtual 481, 3) := by decide +kernel
theorem dX12_compares_60 : decode cX12_compares 60 = .ok (.aload_n 0, 1) := by decide +kernel
theorem dX12_compares_61 : decode cX12_compares 61 = .ok (.getfield 463, 3) := by decide +kernel
theorem dX12_compares_64 : decode cX12_compares 64 = .ok (.ifCond .eq 5, 3) := by decide +kernel
theorem dX12_compares_67 : decode cX12_compares 67 = .ok (.iconst 0, 1) := by decide +kernel
theorem dX12_compares_68 : decode cX12_compares 68 = .ok (.ireturn, 1) := by decide +kernel
theorem dX12_compares_69 : decode cX12_compares 69 = .ok (.lload_n 2, 1) := by decide +kernel
theorem dX12_compares_70 : decode cX12_compares 70 = .ok (.lload 4, 2) := by decide +kernel
theorem dX12_compares_72 : decode cX12_compares 72 = .ok (.aload_n 0, 1) := by decide +kernel
theorem dX12_compares_73 : decode cX12_compares 73 = .ok (.getfield 452, 3) := by decide +kernel
theorem dX12_compares_76 : decode cX12_compares 76 = .ok (.aload_n 0, 1) := by decide +kernel
theorem dX12_compares_77 : decode cX12_compares 77 = .ok (.getfield 456, 3) := by decide +kernel
theorem dX12_compares_80 : decode cX12_compares 80 = .ok (.invokestatic 485, 3) := by decide +kernel
theorem dX12_compares_83 : decode cX12_compares 83 = .ok (.istore 6, 2) := by decide +kernel
theorem dX12_compares_85 : decode cX12_compares 85 = .ok (.aload_n 0, 1) := by decide +kernel
theorem dX12_compares_86 : decode cX12_compares 86 = .ok (.getfield 134, 3) := by decide +kernel
theorem dX12_compares_89 : decode cX12_compares 89 = .ok (.iload_n 1, 1) := by decide +kernel
theorem dX12_compares_90 : decode cX12_compares 90 = .ok (.iaload, 1) := by decide +kernel
theorem dX12_compares_91 : decode cX12_compares 91 = .ok (.tableswitch 58 16 18 #[25, 36, 47], 25) := by decide +kernel
theorem dX12_compares_116 : decode cX12_compares 116 = .ok (.iload 6, 2) := by decide +kernel
theorem dX12_compares_118 : decode cX12_compares 118 = .ok (.ifCond .ne 7, 3) := by decide +kernel
theorem dX12_compares_121 : decode cX12_compares 121 = .ok (.iconst 1, 1) := by decide +kernel
theorem dX12_compares_122 : decode cX12_compares 122 = .ok (.goto 4, 3) := by decide +kernel
theorem dX12_compares_125 : decode cX12_compares 125 = .ok (.iconst 0, 1) := by decide +kernel
theorem dX12_compares_126 : decode cX12_compares 126 = .ok (.ireturn, 1) := by decide +kernel
theorem dX12_compares_127 : decode cX12_compares 127 = .ok (.iload 6, 2) := by decide +kernel
theorem dX12_compares_129 : decode cX12_compares 129 = .ok (.ifCond .eq 7, 3) := by decide +kernel
theorem dX12_compares_132 : decode cX12_compares 132 = .ok (.iconst 1, 1) := by decide +kernel
theorem dX12_compares_133 : decode cX12_compares 133 = .ok (.goto 4, 3) := by decide +kernel
theorem dX12_compares_136 : decode cX12_compares 136 = .ok (.iconst 0, 1) := by decide +kernel
theorem dX12_compares_137 : decode cX12_compares 137 = .ok (.ireturn, 1) := by decide +kernel
theorem dX12_compares_138 : decode cX12_compares 138 = .ok (.iload 6, 2) := by decide +kernel
theorem dX12_compares_140 : decode cX12_compares 140 = .ok (.ifCond .ge 7, 3) := by decide +kernel
theorem dX12_compares_143 : decode cX12_compares 143 = .ok (.iconst 1, 1) := by decide +kernel
theorem dX12_compares_144 : decode cX12_compares 144 = .ok (.goto 4, 3) := by decide +kernel
theorem dX12_compares_147 : decode cX12_compares 147 = .ok (.iconst 0, 1) := by decide +kernel
theorem dX12_compares_148 : decode cX12_compares 148 = .ok (.ireturn, 1) := by decide +kernel
theorem dX12_compares_149 : decode cX12_compares 149 = .ok (.iload 6, 2) := by decide +kernel
theorem dX12_compares_151 : decode cX12_compares 151 = .ok (.ifCond .gt 7, 3) := by decide +kernel
theorem dX12_compares_154 : decode cX12_compares 154 = .ok (.iconst 1, 1) := by decide +kernel
theorem dX12_compares_155 : decode cX12_compares 155 = .ok (.goto 4, 3) := by decide +kernel
theorem dX12_compares_158 : decode cX12_compares 158 = .ok (.iconst 0, 1) := by decide +kernel
theorem dX12_compares_159 : decode cX12_compares 159 = .ok (.ireturn, 1) := by decide +kernel
def fX12_compares_0  (h : MS) (x1 : Int32) : Option (MS × Int32) :=
  oC (ix x1 (mlen 57)) (oC (ix x1 (mlen 58)) (oB (fX12_worth h (mA h 57 (Int32.toNatClampNeg x1)) (mA h 58 (Int32.toNatClampNeg x1)) 95) (fun h4 => if (mI h4 79) = 0 then (oL (mL h4 80) (fun y6 => oL (mL h4 81) (fun y7 => oC (ix x1 (mlen 58)) (oC (ix x1 (mlen 59)) (oB (fX12_worth h4 (mA h4 58 (Int32.toNatClampNeg x1)) (mA h4 59 (Int32.toNatClampNeg x1)) 95) (fun h11 => if (mI h11 79) = 0 then (oB (fX12_against y6 y7 (mL h11 80) (mL h11 81)) (fun r14 => oC (ix x1 (mlen 56)) (oL (mA h11 56 (Int32.toNatClampNeg x1)) (fun y16 => if y16 = 16 then (if r14 = 0 then (some (h11, 1)) else (some (h11, 0))) else (if y16 = 17 then (if r14 = 0 then (some (h11, 0)) else (some (h11, 1))) else (if y16 = 18 then (if 0 ≤ r14 then (some (h11, 0)) else (some (h11, 1))) else (if 0 < r14 then (some (h11, 0)) else (some (h11, 1))))))))) else (some (h11, 0)))))))) else (some (h4, 0)))))
set_option maxHeartbeats 4000000 in
theorem wfX12_compares_0 {args : Array Value} (b : Bd p s m c cX12_compares 7 RX12 D aC) (hlk : meth.locks = false) (hr : meth.sig.returnType = some .boolean) {Z : State → Prop} (zs : Z s) (zk : ZOK Z (Rg ad)) {hz : MS} {rz : Int32} {h : MS} {x1 : Int32}  {H : Heap} {locs : List Loc} {ls : Array Slot} (hf : fX12_compares_0 h x1 = some (hz, rz)) (hE : CE (EM D aC ad h) (Rg ad) s H locs) (hl : lv_has ls 7 [(0, .ref (ad 116)), (1, .int x1)]) : W p l e (RM 4 110 0 0) s m args below meth c H locs 0 0 (MQ below (PQ (EM D aC ad hz) (Rg ad) (some (.int rz))) args s 0 0 (Rg ad)) (F0 m 0 ls []) := by
  unfold fX12_compares_0 at hf
  refine lv_aload_n b.1 b.2.1 dX12_compares_0 rfl (lv_at hl 0 rfl) ?_
  refine lv_aload_n b.1 b.2.1 dX12_compares_1 rfl (lv_at hl 0 rfl) ?_
  refine gM_137 b hE dX12_compares_2 ?_
  refine lv_iload_n b.1 b.2.1 dX12_compares_5 rfl (lv_at hl 1 rfl) ?_
  obtain ⟨g1, hf⟩ := oC_s hf
  refine m_iald b hE rfl rfl g1 dX12_compares_6 ?_
  refine lv_aload_n b.1 b.2.1 dX12_compares_7 rfl (lv_at hl 0 rfl) ?_
  refine gM_140 b hE dX12_compares_8 ?_
  refine lv_iload_n b.1 b.2.1 dX12_compares_11 rfl (lv_at hl 1 rfl) ?_
  obtain ⟨g2, hf⟩ := oC_s hf
  refine m_iald b hE rfl rfl g2 dX12_compares_12 ?_
  refine lv_aload_n b.1 b.2.1 dX12_compares_13 rfl (lv_at hl 0 rfl) ?_
  refine gM_216 b hE dX12_compares_14 ?_
  obtain ⟨h4, hc3, hf⟩ := oB_s hf
  refine k_callV0 (C := RX12) b zs zk hE (CX12_worth l D aC ad zk hc3) mc_X12_worth (in8 28 rfl rfl) mi_X12_worth ms_X12_worth ini_RX12 ok_X12_worth (m_recv b hE) ⟨Nat.le_of_ble_eq_true rfl, Nat.le_of_ble_eq_true rfl⟩ rfl hl.1 rfl (k_room _ (by exact Nat.le_of_ble_eq_true rfl)) ⟨Nat.le_refl _, Nat.le_refl _⟩ dX12_compares_17 (fun H locs hE => ?_)
  refine lv_aload_n b.1 b.2.1 dX12_compares_20 rfl (lv_at hl 0 rfl) ?_
  refine gM_463 b hE dX12_compares_21 ?_
  refine lv_if_eq (tgt := 29) b.1 b.2.1 dX12_compares_24 (by decide) (fun c5 => ?_) (fun c5 => ?_)
  · have hf := oI_t c5 hf
    refine lv_aload_n b.1 b.2.1 dX12_compares_29 rfl (lv_at hl 0 rfl) ?_
    refine gM_452 b hE dX12_compares_30 ?_
    obtain ⟨y6, ey6, hf⟩ := oL_s hf
    refine k_nmL ey6 ?_
    refine lv_lstore_n (lv' := [(2, .long y6), (0, .ref (ad 116)), (1, .int x1)]) b.1 b.2.1 dX12_compares_33 rfl hl (by decide) rfl (fun ls hl => ?_)
    refine lv_aload_n b.1 b.2.1 dX12_compares_34 rfl (lv_at hl 1 rfl) ?_
    refine gM_456 b hE dX12_compares_35 ?_
    obtain ⟨y7, ey7, hf⟩ := oL_s hf
    refine k_nmL ey7 ?_
    refine lv_lstore (lv' := [(4, .long y7), (2, .long y6), (0, .ref (ad 116)), (1, .int x1)]) b.1 b.2.1 dX12_compares_38 hl (by decide) rfl (fun ls hl => ?_)
    refine lv_aload_n b.1 b.2.1 dX12_compares_40 rfl (lv_at hl 2 rfl) ?_
    refine lv_aload_n b.1 b.2.1 dX12_compares_41 rfl (lv_at hl 2 rfl) ?_
    refine gM_140 b hE dX12_compares_42 ?_
    refine lv_iload_n b.1 b.2.1 dX12_compares_45 rfl (lv_at hl 3 rfl) ?_
    obtain ⟨g8, hf⟩ := oC_s hf
    refine m_iald b hE rfl rfl g8 dX12_compares_46 ?_
    refine lv_aload_n b.1 b.2.1 dX12_compares_47 rfl (lv_at hl 2 rfl) ?_
    refine gM_143 b hE dX12_compares_48 ?_
    refine lv_iload_n b.1 b.2.1 dX12_compares_51 rfl (lv_at hl 3 rfl) ?_
    obtain ⟨g9, hf⟩ := oC_s hf
    refine m_iald b hE rfl rfl g9 dX12_compares_52 ?_
    refine lv_aload_n b.1 b.2.1 dX12_compares_53 rfl (lv_at hl 2 rfl) ?_
    refine gM_216 b hE dX12_compares_54 ?_
    obtain ⟨h11, hc10, hf⟩ := oB_s hf
    refine k_callV0 (C := RX12) b zs zk hE (CX12_worth l D aC ad zk hc10) mc_X12_worth (in8 28 rfl rfl) mi_X12_worth ms_X12_worth ini_RX12 ok_X12_worth (m_recv b hE) ⟨Nat.le_of_ble_eq_true rfl, Nat.le_of_ble_eq_true rfl⟩ rfl hl.1 rfl (k_room _ (by exact Nat.le_of_ble_eq_true rfl)) ⟨Nat.le_refl _, Nat.le_refl _⟩ dX12_compares_57 (fun H locs hE => ?_)
    refine lv_aload_n b.1 b.2.1 dX12_compares_60 rfl (lv_at hl 2 rfl) ?_
    refine gM_463 b hE dX12_compares_61 ?_
    refine lv_if_eq (tgt := 69) b.1 b.2.1 dX12_compares_64 (by decide) (fun c12 => ?_) (fun c12 => ?_)
    · have hf := oI_t c12 hf
      refine lv_lload_n b.1 b.2.1 dX12_compares_69 rfl (lv_at hl 1 rfl) ?_
      refine lv_lload b.1 b.2.1 dX12_compares_70 (lv_at hl 0 rfl) ?_
      refine lv_aload_n b.1 b.2.1 dX12_compares_72 rfl (lv_at hl 2 rfl) ?_
      refine gM_452 b hE dX12_compares_73 ?_
      refine lv_aload_n b.1 b.2.1 dX12_compares_76 rfl (lv_at hl 2 rfl) ?_
      refine gM_456 b hE dX12_compares_77 ?_
      obtain ⟨r14, hc13, hf⟩ := oB_s hf
      refine k_callS0 b zs zk hE (CX12_against l D aC zk hc13) mc_X12_against (in8 45 rfl rfl) mt_X12_against ini_RX12 ok_X12_against ⟨Nat.le_of_ble_eq_true rfl, Nat.le_of_ble_eq_true rfl⟩ rfl hl.1 rfl (k_room _ (by exact Nat.le_of_ble_eq_true rfl)) ⟨Nat.le_refl _, Nat.le_refl _⟩ dX12_compares_80 (fun H locs hE => ?_)
      refine lv_istore (lv' := [(6, .int r14), (4, .long y7), (2, .long y6), (0, .ref (ad 116)), (1, .int x1)]) b.1 b.2.1 dX12_compares_83 hl (by decide) rfl (fun ls hl => ?_)
      have hl := lv_sub (l' := [(6, .int r14), (0, .ref (ad 116)), (1, .int x1)]) hl [0, 3, 4] rfl
      refine lv_aload_n b.1 b.2.1 dX12_compares_85 rfl (lv_at hl 1 rfl) ?_
      refine gM_134 b hE dX12_compares_86 ?_
      refine lv_iload_n b.1 b.2.1 dX12_compares_89 rfl (lv_at hl 2 rfl) ?_
      obtain ⟨g15, hf⟩ := oC_s hf
      refine m_iald b hE rfl rfl g15 dX12_compares_90 ?_
      obtain ⟨y16, ey16, hf⟩ := oL_s hf
      refine k_nmI ey16 ?_
      rcases Decidable.em (y16 = 16) with c17 | c17
      · have hf := oI_t c17 hf
        refine lv_tableIn (tgt := 116) b.1 b.2.1 dX12_compares_91 (off := 25) (by rw [c17]; decide) (by rw [c17]; decide) (by rw [c17] <;> rfl) (by decide) ?_
        refine lv_iload b.1 b.2.1 dX12_compares_116 (lv_at hl 0 rfl) ?_
        refine lv_if_ne (tgt := 125) b.1 b.2.1 dX12_compares_118 (by decide) (fun c18 => ?_) (fun c18 => ?_)
        · have hf := oI_f c18 hf
          refine lv_iconst (v := 0) b.1 b.2.1 dX12_compares_125 (by decide) ?_
          cases hf
          exact k_zret b hlk hr (by decide) hE (Nat.le_refl _) (Nat.le_refl _) dX12_compares_126
        · have hf := oI_t c18 hf
          refine lv_iconst (v := 1) b.1 b.2.1 dX12_compares_121 (by decide) ?_
          refine lv_goto (tgt := 126) b.1 b.2.1 dX12_compares_122 (by decide) ?_
          cases hf
          exact k_zret b hlk hr (by decide) hE (Nat.le_refl _) (Nat.le_refl _) dX12_compares_126
      have hf := oI_f c17 hf
      rcases Decidable.em (y16 = 17) with c19 | c19
      · have hf := oI_t c19 hf
        refine lv_tableIn (tgt := 127) b.1 b.2.1 dX12_compares_91 (off := 36) (by rw [c19]; decide) (by rw [c19]; decide) (by rw [c19] <;> rfl) (by decide) ?_
        refine lv_iload b.1 b.2.1 dX12_compares_127 (lv_at hl 0 rfl) ?_
        refine lv_if_eq (tgt := 136) b.1 b.2.1 dX12_compares_129 (by decide) (fun c20 => ?_) (fun c20 => ?_)
        · have hf := oI_t c20 hf
          refine lv_iconst (v := 0) b.1 b.2.1 dX12_compares_136 (by decide) ?_
          cases hf
          exact k_zret b hlk hr (by decide) hE (Nat.le_refl _) (Nat.le_refl _) dX12_compares_137
        · have hf := oI_f c20 hf
          refine lv_iconst (v := 1) b.1 b.2.1 dX12_compares_132 (by decide) ?_
          refine lv_goto (tgt := 137) b.1 b.2.1 dX12_compares_133 (by decide) ?_
          cases hf
          exact k_zret b hlk hr (by decide) hE (Nat.le_refl _) (Nat.le_refl _) dX12_compares_137
      have hf := oI_f c19 hf
      rcases Decidable.em (y16 = 18) with c21 | c21
      · have hf := oI_t c21 hf
        refine lv_tableIn (tgt := 138) b.1 b.2.1 dX12_compares_91 (off := 47) (by rw [c21]; decide) (by rw [c21]; decide) (by rw [c21] <;> rfl) (by decide) ?_
        refine lv_iload b.1 b.2.1 dX12_compares_138 (lv_at hl 0 rfl) ?_
        refine lv_if_ge (tgt := 147) b.1 b.2.1 dX12_compares_140 (by decide) (fun c22 => ?_) (fun c22 => ?_)
        · have hf := oI_t c22 hf
          refine lv_iconst (v := 0) b.1 b.2.1 dX12_compares_147 (by decide) ?_
          cases hf
          exact k_zret b hlk hr (by decide) hE (Nat.le_refl _) (Nat.le_refl _) dX12_compares_148
        · have hf := oI_f c22 hf
          refine lv_iconst (v := 1) b.1 b.2.1 dX12_compares_143 (by decide) ?_
          refine lv_goto (tgt := 148) b.1 b.2.1 dX12_compares_144 (by decide) ?_
          cases hf
          exact k_zret b hlk hr (by decide) hE (Nat.le_refl _) (Nat.le_refl _) dX12_compares_148
      have hf := oI_f c21 hf
      have c17 := lv_neT (a := 16) c17 (by decide)
      have c19 := lv_neT (a := 17) c19 (by decide)
      have c21 := lv_neT (a := 18) c21 (by decide)
      refine lv_tableOut (tgt := 149) b.1 b.2.1 dX12_compares_91 (by omega) (by decide) ?_
      refine lv_iload b.1 b.2.1 dX12_compares_149 (lv_at hl 0 rfl) ?_
      refine lv_if_gt (tgt := 158) b.1 b.2.1 dX12_compares_151 (by decide) (fun c23 => ?_) (fun c23 => ?_)
      · have hf := oI_t c23 hf
        refine lv_iconst (v := 0) b.1 b.2.1 dX12_compares_158 (by decide) ?_
        cases hf
        exact k_zret b hlk hr (by decide) hE (Nat.le_refl _) (Nat.le_refl _) dX12_compares_159
      · have hf := oI_f c23 hf
        refine lv_iconst (v := 1) b.1 b.2.1 dX12_compares_154 (by decide) ?_
        refine lv_goto (tgt := 159) b.1 b.2.1 dX12_compares_155 (by decide) ?_
        cases hf
        exact k_zret b hlk hr (by decide) hE (Nat.le_refl _) (Nat.le_refl _) dX12_compares_159
    · have hf := oI_f c12 hf
      refine lv_iconst (v := 0) b.1 b.2.1 dX12_compares_67 (by decide) ?_
      cases hf
      exact k_zret b hlk hr (by decide) hE (Nat.le_refl _) (Nat.le_refl _) dX12_compares_68
  · have hf := oI_f c5 hf
    refine lv_iconst (v := 0) b.1 b.2.1 dX12_compares_27 (by decide) ?_
    cases hf
    exact k_zret b hlk hr (by decide) hE (Nat.le_refl _) (Nat.le_refl _) dX12_compares_28
def fX12_compares (h : MS) (x1 : Int32) : Option (MS × Int32) := fX12_compares_0 h x1
set_option maxHeartbeats 4000000 in
theorem CX12_compares (l : Launch) (D : va_G) (aC : Nat → ClassId) (ad : Nat → Nat) {Z : State → Prop} (zk : ZOK Z (Rg ad)) {h : MS} {x1 : Int32} {hz : MS} {rz : Int32} (hf : fX12_compares h x1 = some (hz, rz)) : CM l D aC Z yX12_compares cX12_compares 7 (some .boolean) 4 110 0 0 (EM D aC ad h) [.ref (ad 116), .int x1] (EM D aC ad hz) (some (.int rz)) (Rg ad) := by
  refine CM.of rfl ?_
  intro p e s m below meth c b hr hlk hin2 zs hE
  refine k_ent (Nat.le_of_ble_eq_true rfl) (fun ls hl => ?_)
  exact wfX12_compares_0 b hlk hr zs zk hf hE (lv_sub hl [0, 1] rfl)
theorem dX12_standing_0 : decode cX12_standing 0 = .ok (.bipush 6, 2) := by decide +kernel
theorem dX12_standing_2 : decode cX12_standing 2 = .ok (.iload_n 1, 1) := by decide +kernel
theorem dX12_standing_3 : decode cX12_standing 3 = .ok (.imul, 1) := by decide +kernel
theorem dX12_standing_4 : decode cX12_standing 4 = .ok (.istore_n 2, 1) := by decide +kernel
theorem dX12_standing_5 : decode cX12_standing 5 = .ok (.iload_n 2, 1) := by decide +kernel
theorem dX12_standing_6 : decode cX12_standing 6 = .ok (.bipush 6, 2) := by decide +kernel
theorem dX12_standing_8 : decode cX12_standing 8 = .ok (.iload_n 1, 1) := by decide +kernel
theorem dX12_standing_9 : decode cX12_standing 9 = .ok (.imul, 1) := by decide +kernel
theorem dX12_standing_10 : decode cX12_standing 10 = .ok (.aload_n 0, 1) := by decide +kernel
theorem dX12_standing_11 : decode cX12_standing 11 = .ok (.getfield 88, 3) := by decide +kernel
theorem dX12_standing_14 : decode cX12_standing 14 = .ok (.iload_n 1, 1) := by decide +kernel
theorem dX12_standing_15 : decode cX12_standing 15 = .ok (.iaload, 1) := by decide +kernel
theorem dX12_standing_16 : decode cX12_standing 16 = .ok (.iadd, 1) := by decide +kernel
theorem dX12_standing_17 : decode cX12_standing 17 = .ok (.if_icmp .ge 108, 3) := by decide +kernel
theorem dX12_standing_20 : decode cX12_standing 20 = .ok (.aload_n 0, 1) := by decide +kernel
theorem dX12_standing_21 : decode cX12_standing 21 = .ok (.getfield 119, 3) := by decide +kernel
theorem dX12_standing_24 : decode cX12_standing 24 = .ok (.iload_n 2, 1) := by decide +kernel
theorem dX12_standing_25 : decode cX12_standing 25 = .ok (.iaload, 1) := by decide +kernel
theorem dX12_standing_26 : decode cX12_standing 26 = .ok (.iconst 1, 1) := by decide +kernel
theorem dX12_standing_27 : decode cX12_standing 27 = .ok (.if_icmp .eq 13, 3) := by decide +kernel
theorem dX12_standing_30 : decode cX12_standing 30 = .ok (.aload_n 0, 1) := by decide +kernel
theorem dX12_standing_31 : decode cX12_standing 31 = .ok (.getfield 119, 3) := by decide +kernel
theorem dX12_standing_34 : decode cX12_standing 34 = .ok (.iload_n 2, 1) := by decide +kernel
theorem dX12_standing_35 : decode cX12_standing 35 = .ok (.iaload, 1) := by decide +kernel
theorem dX12_standing_36 : decode cX12_standing 36 = .ok (.iconst 2, 1) := by decide +kernel
theorem dX12_standing_37 : decode cX12_standing 37 = .ok (.if_icmp .ne 62, 3) := by decide +kernel
theorem dX12_standing_40 : decode cX12_standing 40 = .ok (.aload_n 0, 1) := by decide +kernel
theorem dX12_standing_41 : decode cX12_standing 41 = .ok (.getfield 128, 3) := by decide +kernel
theorem dX12_standing_44 : decode cX12_standing 44 = .ok (.iload_n 2, 1) := by decide +kernel
theorem dX12_standing_45 : decode cX12_standing 45 = .ok (.iaload, 1) := by decide +kernel
theorem dX12_standing_46 : decode cX12_standing 46 = .ok (.aload_n 0, 1) := by decide +kernel
theorem dX12_standing_47 : decode cX12_standing 47 = .ok (.getfield 216, 3) := by decide +kernel
theorem dX12_standing_50 : decode cX12_standing 50 = .ok (.invokestatic 470, 3) := by decide +kernel
theorem dX12_standing_53 : decode cX12_standing 53 = .ok (.aload_n 0, 1) := by decide +kernel
theorem dX12_standing_54 : decode cX12_standing 54 = .ok (.getfield 131, 3) := by decide +kernel
theorem dX12_standing_57 : decode cX12_standing 57 = .ok (.iload_n 2, 1) := by decide +kernel
theorem dX12_standing_58 : decode cX12_standing 58 = .ok (.iaload, 1) := by decide +kernel
theorem dX12_standing_59 : decode cX12_standing 59 = .ok (.aload_n 0, 1) := by decide +kernel
theorem dX12_standing_60 : decode cX12_standing 60 = .ok (.getfield 216, 3) := by decide +kernel
theorem dX12_standing_63 : decode cX12_standing 63 = .ok (.invokestatic 470, 3) := by decide +kernel
theorem dX12_standing_66 : decode cX12_standing 66 = .ok (.if_icmp .ne 7, 3) := by decide +kernel
theorem dX12_standing_69 : decode cX12_standing 69 = .ok (.iconst 1, 1) := by decide +kernel
theorem dX12_standing_70 : decode cX12_standing 70 = .ok (.goto 4, 3) := by decide +kernel
theorem dX12_standing_73 : decode cX12_standing 73 = .ok (.iconst 0, 1) := by decide +kernel
theorem dX12_standing_74 : decode cX12_standing 74 = .ok (.istore_n 3, 1) := by decide +kernel
theorem dX12_standing_75 : decode cX12_standing 75 = .ok (.iload_n 3, 1) := by decide +kernel
theorem dX12_standing_76 : decode cX12_standing 76 = .ok (.aload_n 0, 1) := by decide +kernel
theorem dX12_standing_77 : decode cX12_standing 77 = .ok (.getfield 119, 3) := by decide +kernel
theorem dX12_standing_80 : decode cX12_standing 80 = .ok (.iload_n 2, 1) := by decide +kernel
theorem dX12_standing_81 : decode cX12_standing 81 = .ok (.iaload, 1) := by decide +kernel
theorem dX12_standing_82 : decode cX12_standing 82 = .ok (.iconst 1, 1) := by decide +kernel
theorem dX12_standing_83 : decode cX12_standing 83 = .ok (.if_icmp .ne 7, 3) := by decide +kernel
theorem dX12_standing_86 : decode cX12_standing 86 = .ok (.iconst 1, 1) := by decide +kernel
theorem dX12_standing_87 : decode cX12_standing 87 = .ok (.goto 4, 3) := by decide +kernel
theorem dX12_standing_90 : decode cX12_standing 90 = .ok (.iconst 0, 1) := by decide +kernel
theorem dX12_standing_91 : decode cX12_standing 91 = .ok (.if_icmp .eq 5, 3) := by decide +kernel
theorem dX12_standing_94 : decode cX12_standing 94 = .ok (.iconst 0, 1) := by decide +kernel
theorem dX12_standing_95 : decode cX12_standing 95 = .ok (.ireturn, 1) := by decide +kernel
theorem dX12_standing_96 : decode cX12_standing 96 = .ok (.goto 23, 3) := by decide +kernel
theorem dX12_standing_99 : decode cX12_standing 99 = .ok (.aload_n 0, 1) := by decide +kernel
theorem dX12_standing_100 : decode cX12_standing 100 = .ok (.getfield 119, 3) := by decide +kernel
theorem dX12_standing_103 : decode cX12_standing 103 = .ok (.iload_n 2, 1) := by decide +kernel
theorem dX12_standing_104 : decode cX12_standing 104 = .ok (.iaload, 1) := by decide +kernel
theorem dX12_standing_105 : decode cX12_standing 105 = .ok (.iconst 3, 1) := by decide +kernel
theorem dX12_standing_106 : decode cX12_standing 106 = .ok (.if_icmp .ne 13, 3) := by decide +kernel
theorem dX12_standing_109 : decode cX12_standing 109 = .ok (.aload_n 0, 1) := by decide +kernel
theorem dX12_standing_110 : decode cX12_standing 110 = .ok (.iload_n 2, 1) := by decide +kernel
theorem dX12_standing_111 : decode cX12_standing 111 = .ok (.invokevirtual 478, 3) := by decide +kernel
theorem dX12_standing_114 : decode cX12_standing 114 = .ok (.ifCond .ne 5, 3) := by decide +kernel
theorem dX12_standing_117 : decode cX12_standing 117 = .ok (.iconst 0, 1) := by decide +kernel
theorem dX12_standing_118 : decode cX12_standing 118 = .ok (.ireturn, 1) := by decide +kernel
theorem dX12_standing_119 : decode cX12_standing 119 = .ok (.iinc 2 1, 3) := by decide +kernel
theorem dX12_standing_122 : decode cX12_standing 122 = .ok (.goto (-117), 3) := by decide +kernel
theorem dX12_standing_125 : decode cX12_standing 125 = .ok (.iconst 1, 1) := by decide +kernel
theorem dX12_standing_126 : decode cX12_standing 126 = .ok (.ireturn, 1) := by decide +kernel
def fX12_standing_119 (k5 : MS → Int32 → Int32 → Option (MS × Int32)) (h : MS) (x1 : Int32) (x2 : Int32) : Option (MS × Int32) :=
  oL (x2 + 1) (fun y1 => k5 h x1 y1)
set_option maxHeartbeats 4000000 in
theorem wfX12_standing_119 {args : Array Value} (b : Bd p s m c cX12_standing 4 RX12 D aC) (hlk : meth.locks = false) (hr : meth.sig.returnType = some .boolean) {Z : State → Prop} (zs : Z s) (zk : ZOK Z (Rg ad)) {hz : MS} {rz : Int32} {k5 : MS → Int32 → Int32 → Option (MS × Int32)} (H5 : ∀ (h : MS) (x1 : Int32) (x2 : Int32), ∀ (H : Heap) (locs : List Loc) (ls : Array Slot), k5 h x1 x2 = some (hz, rz) → CE (EM D aC ad h) (Rg ad) s H locs → lv_has ls 4 [(0, .ref (ad 116)), (1, .int x1), (2, .int x2)] → W p l e (RM 5 136 0 0) s m args below meth c H locs 0 0 (MQ below (PQ (EM D aC ad hz) (Rg ad) (some (.int rz))) args s 0 0 (Rg ad)) (F0 m 5 ls [])) {h : MS} {x1 : Int32} {x2 : Int32}  {H : Heap} {locs : List Loc} {ls : Array Slot} (hf : fX12_standing_119 k5 h x1 x2 = some (hz, rz)) (hE : CE (EM D aC ad h) (Rg ad) s H locs) (hl : lv_has ls 4 [(0, .ref (ad 116)), (1, .int x1), (2, .int x2)]) : W p l e (RM 5 136 0 0) s m args below meth c H locs 0 0 (MQ below (PQ (EM D aC ad hz) (Rg ad) (some (.int rz))) args s 0 0 (Rg ad)) (F0 m 119 ls []) := by
  unfold fX12_standing_119 at hf
  obtain ⟨y1, ey1, hf⟩ := oL_s hf
  refine lv_iinc (v := y1) (lv' := [(2, .int y1), (0, .ref (ad 116)), (1, .int x1)]) b.1 b.2.1 dX12_standing_119 hl (k := 2) rfl (by rw [ey1]; rfl) (by decide) rfl (fun ls hl => ?_)
  refine lv_goto (tgt := 5) b.1 b.2.1 dX12_standing_122 (by decide) ?_
  exact H5 h x1 y1 _ _ _ hf hE (lv_sub hl [1, 2, 0] rfl)
def fX12_standing_91 (k5 : MS → Int32 → Int32 → Option (MS × Int32)) (h : MS) (x1 : Int32) (x2 : Int32) (s0 : Int32) (s1 : Int32) : Option (MS × Int32) :=
  if s1 = s0 then (fX12_standing_119 k5 h x1 x2) else (some (h, 0))
set_option maxHeartbeats 4000000 in
theorem wfX12_standing_91 {args : Array Value} (b : Bd p s m c cX12_standing 4 RX12 D aC) (hlk : meth.locks = false) (hr : meth.sig.returnType = some .boolean) {Z : State → Prop} (zs : Z s) (zk : ZOK Z (Rg ad)) {hz : MS} {rz : Int32} {k5 : MS → Int32 → Int32 → Option (MS × Int32)} (H5 : ∀ (h : MS) (x1 : Int32) (x2 : Int32), ∀ (H : Heap) (locs : List Loc) (ls : Array Slot), k5 h x1 x2 = some (hz, rz) → CE (EM D aC ad h) (Rg ad) s H locs → lv_has ls 4 [(0, .ref (ad 116)), (1, .int x1), (2, .int x2)] → W p l e (RM 5 136 0 0) s m args below meth c H locs 0 0 (MQ below (PQ (EM D aC ad hz) (Rg ad) (some (.int rz))) args s 0 0 (Rg ad)) (F0 m 5 ls [])) {h : MS} {x1 : Int32} {x2 : Int32} {s0 : Int32} {s1 : Int32}  {H : Heap} {locs : List Loc} {ls : Array Slot} (hf : fX12_standing_91 k5 h x1 x2 s0 s1 = some (hz, rz)) (hE : CE (EM D aC ad h) (Rg ad) s H locs) (hl : lv_has ls 4 [(0, .ref (ad 116)), (1, .int x1), (2, .int x2)]) : W p l e (RM 5 136 0 0) s m args below meth c H locs 0 0 (MQ below (PQ (EM D aC ad hz) (Rg ad) (some (.int rz))) args s 0 0 (Rg ad)) (F0 m 91 ls [.int s0, .int s1]) := by
  unfold fX12_standing_91 at hf
  refine lv_icmp_eq (tgt := 96) b.1 b.2.1 dX12_standing_91 (by decide) (fun c2 => ?_) (fun c2 => ?_)
  · have hf := oI_t c2 hf
    refine lv_goto (tgt := 119) b.1 b.2.1 dX12_standing_96 (by decide) ?_
    exact wfX12_standing_119 b hlk hr zs zk H5 hf hE (lv_sub hl [0, 1, 2] rfl)
  · have hf := oI_f c2 hf
    refine lv_iconst (v := 0) b.1 b.2.1 dX12_standing_94 (by decide) ?_
    cases hf
    exact k_zret b hlk hr (by decide) hE (Nat.le_refl _) (Nat.le_refl _) dX12_standing_95
def fX12_standing_74 (k5 : MS → Int32 → Int32 → Option (MS × Int32)) (h : MS) (x1 : Int32) (x2 : Int32) (s0 : Int32) : Option (MS × Int32) :=
  oC (ix x2 (mlen 51)) (if (mA h 51 (Int32.toNatClampNeg x2)) = 1 then (fX12_standing_91 k5 h x1 x2 1 s0) else (fX12_standing_91 k5 h x1 x2 0 s0))
set_option maxHeartbeats 4000000 in
theorem wfX12_standing_74 {args : Array Value} (b : Bd p s m c cX12_standing 4 RX12 D aC) (hlk : meth.locks = false) (hr : meth.sig.returnType = some .boolean) {Z : State → Prop} (zs : Z s) (zk : ZOK Z (Rg ad)) {hz : MS} {rz : Int32} {k5 : MS → Int32 → Int32 → Option (MS × Int32)} (H5 : ∀ (h : MS) (x1 : Int32) (x2 : Int32), ∀ (H : Heap) (locs : List Loc) (ls : Array Slot), k5 h x1 x2 = some (hz, rz) → CE (EM D aC ad h) (Rg ad) s H locs → lv_has ls 4 [(0, .ref (ad 116)), (1, .int x1), (2, .int x2)] → W p l e (RM 5 136 0 0) s m args below meth c H locs 0 0 (MQ below (PQ (EM D aC ad hz) (Rg ad) (some (.int rz))) args s 0 0 (Rg ad)) (F0 m 5 ls [])) {h : MS} {x1 : Int32} {x2 : Int32} {s0 : Int32}  {H : Heap} {locs : List Loc} {ls : Array Slot} (hf : fX12_standing_74 k5 h x1 x2 s0 = some (hz, rz)) (hE : CE (EM D aC ad h) (Rg ad) s H locs) (hl : lv_has ls 4 [(0, .ref (ad 116)), (1, .int x1), (2, .int x2)]) : W p l e (RM 5 136 0 0) s m args below meth c H locs 0 0 (MQ below (PQ (EM D aC ad hz) (Rg ad) (some (.int rz))) args s 0 0 (Rg ad)) (F0 m 74 ls [.int s0]) := by
  unfold fX12_standing_74 at hf
  refine lv_istore_n (lv' := [(3, .int s0), (0, .ref (ad 116)), (1, .int x1), (2, .int x2)]) b.1 b.2.1 dX12_standing_74 rfl hl (by decide) rfl (fun ls hl => ?_)
  refine lv_iload_n b.1 b.2.1 dX12_standing_75 rfl (lv_at hl 0 rfl) ?_
  refine lv_aload_n b.1 b.2.1 dX12_standing_76 rfl (lv_at hl 1 rfl) ?_
  refine gM_119 b hE dX12_standing_77 ?_
  refine lv_iload_n b.1 b.2.1 dX12_standing_80 rfl (lv_at hl 3 rfl) ?_
  obtain ⟨g3, hf⟩ := oC_s hf
  refine m_iald b hE rfl rfl g3 dX12_standing_81 ?_
  refine lv_iconst (v := 1) b.1 b.2.1 dX12_standing_82 (by decide) ?_
  refine lv_icmp_ne (tgt := 90) b.1 b.2.1 dX12_standing_83 (by decide) (fun c4 => ?_) (fun c4 => ?_)
  · have hf := oI_f c4 hf
    refine lv_iconst (v := 0) b.1 b.2.1 dX12_standing_90 (by decide) ?_
    exact wfX12_standing_91 b hlk hr zs zk H5 hf hE (lv_sub hl [1, 2, 3] rfl)
  · have hf := oI_t c4 hf
    refine lv_iconst (v := 1) b.1 b.2.1 dX12_standing_86 (by decide) ?_
    refine lv_goto (tgt := 91) b.1 b.2.1 dX12_standing_87 (by decide) ?_
    exact wfX12_standing_91 b hlk hr zs zk H5 hf hE (lv_sub hl [1, 2, 3] rfl)
def fX12_standing_40 (k5 : MS → Int32 → Int32 → Option (MS × Int32)) (h : MS) (x1 : Int32) (x2 : Int32) : Option (MS × Int32) :=
  oC (ix x2 (mlen 54)) (oB (fX12_personOf h (mA h 54 (Int32.toNatClampNeg x2)) 95) (fun r7 => oC (ix x2 (mlen 55)) (oB (fX12_personOf h (mA h 55 (Int32.toNatClampNeg x2)) 95) (fun r10 => if r7 = r10 then (fX12_standing_74 k5 h x1 x2 1) else (fX12_standing_74 k5 h x1 x2 0)))))
set_option maxHeartbeats 4000000 in
theorem wfX12_standing_40 {args : Array Value} (b : Bd p s m c cX12_standing 4 RX12 D aC) (hlk : meth.locks = false) (hr : meth.sig.returnType = some .boolean) {Z : State → Prop} (zs : Z s) (zk : ZOK Z (Rg ad)) {hz : MS} {rz : Int32} {k5 : MS → Int32 → Int32 → Option (MS × Int32)} (H5 : ∀ (h : MS) (x1 : Int32) (x2 : Int32), ∀ (H : Heap) (locs : List Loc) (ls : Array Slot), k5 h x1 x2 = some (hz, rz) → CE (EM D aC ad h) (Rg ad) s H locs → lv_has ls 4 [(0, .ref (ad 116)), (1, .int x1), (2, .int x2)] → W p l e (RM 5 136 0 0) s m args below meth c H locs 0 0 (MQ below (PQ (EM D aC ad hz) (Rg ad) (some (.int rz))) args s 0 0 (Rg ad)) (F0 m 5 ls [])) {h : MS} {x1 : Int32} {x2 : Int32}  {H : Heap} {locs : List Loc} {ls : Array Slot} (hf : fX12_standing_40 k5 h x1 x2 = some (hz, rz)) (hE : CE (EM D aC ad h) (Rg ad) s H locs) (hl : lv_has ls 4 [(0, .ref (ad 116)), (1, .int x1), (2, .int x2)]) : W p l e (RM 5 136 0 0) s m args below meth c H locs 0 0 (MQ below (PQ (EM D aC ad hz) (Rg ad) (some (.int rz))) args s 0 0 (Rg ad)) (F0 m 40 ls []) := by
  unfold fX12_standing_40 at hf
  refine lv_aload_n b.1 b.2.1 dX12_standing_40 rfl (lv_at hl 0 rfl) ?_
  refine gM_128 b hE dX12_standing_41 ?_
  refine lv_iload_n b.1 b.2.1 dX12_standing_44 rfl (lv_at hl 2 rfl) ?_
  obtain ⟨g5, hf⟩ := oC_s hf
  refine m_iald b hE rfl rfl g5 dX12_standing_45 ?_
  refine lv_aload_n b.1 b.2.1 dX12_standing_46 rfl (lv_at hl 0 rfl) ?_
  refine gM_216 b hE dX12_standing_47 ?_
  obtain ⟨r7, hc6, hf⟩ := oB_s hf
  refine k_callS0 b zs zk hE (CX12_personOf l D aC ad zk hc6) mc_X12_personOf (in8 21 rfl rfl) mt_X12_personOf ini_RX12 ok_X12_personOf ⟨Nat.le_of_ble_eq_true rfl, Nat.le_of_ble_eq_true rfl⟩ rfl hl.1 rfl (k_room _ (by exact Nat.le_of_ble_eq_true rfl)) ⟨Nat.le_refl _, Nat.le_refl _⟩ dX12_standing_50 (fun H locs hE => ?_)
  refine lv_aload_n b.1 b.2.1 dX12_standing_53 rfl (lv_at hl 0 rfl) ?_
  refine gM_131 b hE dX12_standing_54 ?_
  refine lv_iload_n b.1 b.2.1 dX12_standing_57 rfl (lv_at hl 2 rfl) ?_
  obtain ⟨g8, hf⟩ := oC_s hf
  refine m_iald b hE rfl rfl g8 dX12_standing_58 ?_
  refine lv_aload_n b.1 b.2.1 dX12_standing_59 rfl (lv_at hl 0 rfl) ?_
  refine gM_216 b hE dX12_standing_60 ?_
  obtain ⟨r10, hc9, hf⟩ := oB_s hf
  refine k_callS0 b zs zk hE (CX12_personOf l D aC ad zk hc9) mc_X12_personOf (in8 21 rfl rfl) mt_X12_personOf ini_RX12 ok_X12_personOf ⟨Nat.le_of_ble_eq_true rfl, Nat.le_of_ble_eq_true rfl⟩ rfl hl.1 rfl (k_room _ (by exact Nat.le_of_ble_eq_true rfl)) ⟨Nat.le_refl _, Nat.le_refl _⟩ dX12_standing_63 (fun H locs hE => ?_)
  refine lv_icmp_ne (tgt := 73) b.1 b.2.1 dX12_standing_66 (by decide) (fun c11 => ?_) (fun c11 => ?_)
  · have hf := oI_f c11 hf
    refine lv_iconst (v := 0) b.1 b.2.1 dX12_standing_73 (by decide) ?_
    exact wfX12_standing_74 b hlk hr zs zk H5 hf hE (lv_sub hl [0, 1, 2] rfl)
  · have hf := oI_t c11 hf
    refine lv_iconst (v := 1) b.1 b.2.1 dX12_standing_69 (by decide) ?_
    refine lv_goto (tgt := 74) b.1 b.2.1 dX12_standing_70 (by decide) ?_
    exact wfX12_standing_74 b hlk hr zs zk H5 hf hE (lv_sub hl [0, 1, 2] rfl)
def fX12_standing_5F (k5 : MS → Int32 → Int32 → Option (MS × Int32)) (h : MS) (x1 : Int32) (x2 : Int32) : Option (MS × Int32) :=
  oC (ix x1 (mlen 41)) (if ((6 * x1) + (mA h 41 (Int32.toNatClampNeg x1))) ≤ x2 then (some (h, 1)) else (oC (ix x2 (mlen 51)) (if (mA h 51 (Int32.toNatClampNeg x2)) = 1 then (fX12_standing_40 k5 h x1 x2) else (oC (ix x2 (mlen 51)) (if (mA h 51 (Int32.toNatClampNeg x2)) = 2 then (fX12_standing_40 k5 h x1 x2) else (oC (ix x2 (mlen 51)) (if (mA h 51 (Int32.toNatClampNeg x2)) = 3 then (oB2 (fX12_compares h x2) (fun h22 r21 => if r21 = 0 then (some (h22, 0)) else (fX12_standing_119 k5 h22 x1 x2))) else (fX12_standing_119 k5 h x1 x2))))))))
set_option maxHeartbeats 4000000 in
theorem wfX12_standing_5F {args : Array Value} (b : Bd p s m c cX12_standing 4 RX12 D aC) (hlk : meth.locks = false) (hr : meth.sig.returnType = some .boolean) {Z : State → Prop} (zs : Z s) (zk : ZOK Z (Rg ad)) {hz : MS} {rz : Int32} {k5 : MS → Int32 → Int32 → Option (MS × Int32)} (H5 : ∀ (h : MS) (x1 : Int32) (x2 : Int32), ∀ (H : Heap) (locs : List Loc) (ls : Array Slot), k5 h x1 x2 = some (hz, rz) → CE (EM D aC ad h) (Rg ad) s H locs → lv_has ls 4 [(0, .ref (ad 116)), (1, .int x1), (2, .int x2)] → W p l e (RM 5 136 0 0) s m args below meth c H locs 0 0 (MQ below (PQ (EM D aC ad hz) (Rg ad) (some (.int rz))) args s 0 0 (Rg ad)) (F0 m 5 ls [])) {h : MS} {x1 : Int32} {x2 : Int32}  {H : Heap} {locs : List Loc} {ls : Array Slot} (hf : fX12_standing_5F k5 h x1 x2 = some (hz, rz)) (hE : CE (EM D aC ad h) (Rg ad) s H locs) (hl : lv_has ls 4 [(0, .ref (ad 116)), (1, .int x1), (2, .int x2)]) : W p l e (RM 5 136 0 0) s m args below meth c H locs 0 0 (MQ below (PQ (EM D aC ad hz) (Rg ad) (some (.int rz))) args s 0 0 (Rg ad)) (F0 m 5 ls []) := by
  unfold fX12_standing_5F at hf
  refine lv_iload_n b.1 b.2.1 dX12_standing_5 rfl (lv_at hl 2 rfl) ?_
  refine lv_bipush (v := 6) b.1 b.2.1 dX12_standing_6 (by decide) ?_
  refine lv_iload_n b.1 b.2.1 dX12_standing_8 rfl (lv_at hl 1 rfl) ?_
  refine lv_imul b.1 b.2.1 dX12_standing_9 ?_
  refine lv_aload_n b.1 b.2.1 dX12_standing_10 rfl (lv_at hl 0 rfl) ?_
  refine gM_88 b hE dX12_standing_11 ?_
  refine lv_iload_n b.1 b.2.1 dX12_standing_14 rfl (lv_at hl 1 rfl) ?_
  obtain ⟨g12, hf⟩ := oC_s hf
  refine m_iald b hE rfl rfl g12 dX12_standing_15 ?_
  refine lv_iadd b.1 b.2.1 dX12_standing_16 ?_
  refine lv_icmp_ge (tgt := 125) b.1 b.2.1 dX12_standing_17 (by decide) (fun c13 => ?_) (fun c13 => ?_)
  · have hf := oI_t c13 hf
    refine lv_iconst (v := 1) b.1 b.2.1 dX12_standing_125 (by decide) ?_
    cases hf
    exact k_zret b hlk hr (by decide) hE (Nat.le_refl _) (Nat.le_refl _) dX12_standing_126
  · have hf := oI_f c13 hf
    refine lv_aload_n b.1 b.2.1 dX12_standing_20 rfl (lv_at hl 0 rfl) ?_
    refine gM_119 b hE dX12_standing_21 ?_
    refine lv_iload_n b.1 b.2.1 dX12_standing_24 rfl (lv_at hl 2 rfl) ?_
    obtain ⟨g14, hf⟩ := oC_s hf
    refine m_iald b hE rfl rfl g14 dX12_standing_25 ?_
    refine lv_iconst (v := 1) b.1 b.2.1 dX12_standing_26 (by decide) ?_
    refine lv_icmp_eq (tgt := 40) b.1 b.2.1 dX12_standing_27 (by decide) (fun c15 => ?_) (fun c15 => ?_)
    · have hf := oI_t c15 hf
      exact wfX12_standing_40 b hlk hr zs zk H5 hf hE (lv_sub hl [0, 1, 2] rfl)
    · have hf := oI_f c15 hf
      refine lv_aload_n b.1 b.2.1 dX12_standing_30 rfl (lv_at hl 0 rfl) ?_
      refine gM_119 b hE dX12_standing_31 ?_
      refine lv_iload_n b.1 b.2.1 dX12_standing_34 rfl (lv_at hl 2 rfl) ?_
      obtain ⟨g16, hf⟩ := oC_s hf
      refine m_iald b hE rfl rfl g16 dX12_standing_35 ?_
      refine lv_iconst (v := 2) b.1 b.2.1 dX12_standing_36 (by decide) ?_
      refine lv_icmp_ne (tgt := 99) b.1 b.2.1 dX12_standing_37 (by decide) (fun c17 => ?_) (fun c17 => ?_)
      · have hf := oI_f c17 hf
        refine lv_aload_n b.1 b.2.1 dX12_standing_99 rfl (lv_at hl 0 rfl) ?_
        refine gM_119 b hE dX12_standing_100 ?_
        refine lv_iload_n b.1 b.2.1 dX12_standing_103 rfl (lv_at hl 2 rfl) ?_
        obtain ⟨g18, hf⟩ := oC_s hf
        refine m_iald b hE rfl rfl g18 dX12_standing_104 ?_
        refine lv_iconst (v := 3) b.1 b.2.1 dX12_standing_105 (by decide) ?_
        refine lv_icmp_ne (tgt := 119) b.1 b.2.1 dX12_standing_106 (by decide) (fun c19 => ?_) (fun c19 => ?_)
        · have hf := oI_f c19 hf
          exact wfX12_standing_119 b hlk hr zs zk H5 hf hE (lv_sub hl [0, 1, 2] rfl)
        · have hf := oI_t c19 hf
          refine lv_aload_n b.1 b.2.1 dX12_standing_109 rfl (lv_at hl 0 rfl) ?_
          refine lv_iload_n b.1 b.2.1 dX12_standing_110 rfl (lv_at hl 2 rfl) ?_
          obtain ⟨h22, r21, hc20, hf⟩ := oB2_s hf
          refine k_callV0 (C := RX12) b zs zk hE (CX12_compares l D aC ad zk hc20) mc_X12_compares (in8 24 rfl rfl) mi_X12_compares ms_X12_compares ini_RX12 ok_X12_compares (m_recv b hE) ⟨Nat.le_of_ble_eq_true rfl, Nat.le_of_ble_eq_true rfl⟩ rfl hl.1 rfl (k_room _ (by exact Nat.le_of_ble_eq_true rfl)) ⟨Nat.le_refl _, Nat.le_refl _⟩ dX12_standing_111 (fun H locs hE => ?_)
          refine lv_if_ne (tgt := 119) b.1 b.2.1 dX12_standing_114 (by decide) (fun c23 => ?_) (fun c23 => ?_)
          · have hf := oI_f c23 hf
            exact wfX12_standing_119 b hlk hr zs zk H5 hf hE (lv_sub hl [0, 1, 2] rfl)
          · have hf := oI_t c23 hf
            refine lv_iconst (v := 0) b.1 b.2.1 dX12_standing_117 (by decide) ?_
            cases hf
            exact k_zret b hlk hr (by decide) hE (Nat.le_refl _) (Nat.le_refl _) dX12_standing_118
      · have hf := oI_t c17 hf
        exact wfX12_standing_40 b hlk hr zs zk H5 hf hE (lv_sub hl [0, 1, 2] rfl)
def fX12_standing_5  : Nat → MS → Int32 → Int32 → Option (MS × Int32)
  | 0 => fun _ _ _ => none
  | n + 1 => fX12_standing_5F  (fX12_standing_5  n)
set_option maxHeartbeats 4000000 in
theorem wfX12_standing_5 {args : Array Value} (b : Bd p s m c cX12_standing 4 RX12 D aC) (hlk : meth.locks = false) (hr : meth.sig.returnType = some .boolean) {Z : State → Prop} (zs : Z s) (zk : ZOK Z (Rg ad)) {hz : MS} {rz : Int32} : ∀ n : Nat, ∀ (h : MS) (x1 : Int32) (x2 : Int32), ∀ (H : Heap) (locs : List Loc) (ls : Array Slot), fX12_standing_5  n h x1 x2 = some (hz, rz) → CE (EM D aC ad h) (Rg ad) s H locs → lv_has ls 4 [(0, .ref (ad 116)), (1, .int x1), (2, .int x2)] → W p l e (RM 5 136 0 0) s m args below meth c H locs 0 0 (MQ below (PQ (EM D aC ad hz) (Rg ad) (some (.int rz))) args s 0 0 (Rg ad)) (F0 m 5 ls []) := by
  intro n
  induction n with
  | zero =>
    intro h x1 x2 H locs ls hf
    have hf : (none : Option (MS × Int32)) = some _ := hf
    cases hf
  | succ n ih =>
    intro h x1 x2 H locs ls hf hE hl
    exact wfX12_standing_5F b hlk hr zs zk  ih hf hE hl
def fX12_standing_0  (h : MS) (x1 : Int32) : Option (MS × Int32) :=
  oL (6 * x1) (fun y24 => fX12_standing_5  FU h x1 y24)
set_option maxHeartbeats 4000000 in
theorem wfX12_standing_0 {args : Array Value} (b : Bd p s m c cX12_standing 4 RX12 D aC) (hlk : meth.locks = false) (hr : meth.sig.returnType = some .boolean) {Z : State → Prop} (zs : Z s) (zk : ZOK Z (Rg ad)) {hz : MS} {rz : Int32} {h : MS} {x1 : Int32}  {H : Heap} {locs : List Loc} {ls : Array Slot} (hf : fX12_standing_0 h x1 = some (hz, rz)) (hE : CE (EM D aC ad h) (Rg ad) s H locs) (hl : lv_has ls 4 [(0, .ref (ad 116)), (1, .int x1)]) : W p l e (RM 5 136 0 0) s m args below meth c H locs 0 0 (MQ below (PQ (EM D aC ad hz) (Rg ad) (some (.int rz))) args s 0 0 (Rg ad)) (F0 m 0 ls []) := by
  unfold fX12_standing_0 at hf
  refine lv_bipush (v := 6) b.1 b.2.1 dX12_standing_0 (by decide) ?_
  refine lv_iload_n b.1 b.2.1 dX12_standing_2 rfl (lv_at hl 1 rfl) ?_
  refine lv_imul b.1 b.2.1 dX12_standing_3 ?_
  obtain ⟨y24, ey24, hf⟩ := oL_s hf
  refine k_nmI ey24 ?_
  refine lv_istore_n (lv' := [(2, .int y24), (0, .ref (ad 116)), (1, .int x1)]) b.1 b.2.1 dX12_standing_4 rfl hl (by decide) rfl (fun ls hl => ?_)
  exact wfX12_standing_5 b hlk hr zs zk  FU h x1 y24 _ _ _ hf hE (lv_sub hl [1, 2, 0] rfl)
def fX12_standing (h : MS) (x1 : Int32) : Option (MS × Int32) := fX12_standing_0 h x1
set_option maxHeartbeats 4000000 in
theorem CX12_standing (l : Launch) (D : va_G) (aC : Nat → ClassId) (ad : Nat → Nat) {Z : State → Prop} (zk : ZOK Z (Rg ad)) {h : MS} {x1 : Int32} {hz : MS} {rz : Int32} (hf : fX12_standing h x1 = some (hz, rz)) : CM l D aC Z yX12_standing cX12_standing 4 (some .boolean) 5 136 0 0 (EM D aC ad h) [.ref (ad 116), .int x1] (EM D aC ad hz) (some (.int rz)) (Rg ad) := by
  refine CM.of rfl ?_
  intro p e s m below meth c b hr hlk hin2 zs hE
  refine k_ent (Nat.le_of_ble_eq_true rfl) (fun ls hl => ?_)
  exact wfX12_standing_0 b hlk hr zs zk hf hE (lv_sub hl [0, 1] rfl)
theorem dX12_isHigher_0 : decode cX12_isHigher 0 = .ok (.iconst 0, 1) := by decide +kernel
theorem dX12_isHigher_1 : decode cX12_isHigher 1 = .ok (.istore 5, 2) := by decide +kernel
theorem dX12_isHigher_3 : decode cX12_isHigher 3 = .ok (.iload 5, 2) := by decide +kernel
theorem dX12_isHigher_5 : decode cX12_isHigher 5 = .ok (.aload_n 0, 1) := by decide +kernel
theorem dX12_isHigher_6 : decode cX12_isHigher 6 = .ok (.getfield 353, 3) := by decide +kernel
theorem dX12_isHigher_9 : decode cX12_isHigher 9 = .ok (.if_icmp .ge 59, 3) := by decide +kernel
theorem dX12_isHigher_12 : decode cX12_isHigher 12 = .ok (.aload_n 0, 1) := by decide +kernel
theorem dX12_isHigher_13 : decode cX12_isHigher 13 = .ok (.getfield 73, 3) := by decide +kernel
theorem dX12_isHigher_16 : decode cX12_isHigher 16 = .ok (.iload 5, 2) := by decide +kernel
theorem dX12_isHigher_18 : decode cX12_isHigher 18 = .ok (.iaload, 1) := by decide +kernel
theorem dX12_isHigher_19 : decode cX12_isHigher 19 = .ok (.iload_n 3, 1) := by decide +kernel
theorem dX12_isHigher_20 : decode cX12_isHigher 20 = .ok (.if_icmp .ne 17, 3) := by decide +kernel
theorem dX12_isHigher_23 : decode cX12_isHigher 23 = .ok (.aload_n 0, 1) := by decide +kernel
theorem dX12_isHigher_24 : decode cX12_isHigher 24 = .ok (.getfield 76, 3) := by decide +kernel
theorem dX12_isHigher_27 : decode cX12_isHigher 27 = .ok (.iload 5, 2) := by decide +kernel
theorem dX12_isHigher_29 : decode cX12_isHigher 29 = .ok (.iaload, 1) := by decide +kernel
theorem dX12_isHigher_30 : decode cX12_isHigher 30 = .ok (.iload 4, 2) := by decide +kernel
theorem dX12_isHigher_32 : decode cX12_isHigher 32 = .ok (.if_icmp .ne 5, 3) := by decide +kernel
theorem dX12_isHigher_35 : decode cX12_isHigher 35 = .ok (.iconst 1, 1) := by decide +kernel
theorem dX12_isHigher_36 : decode cX12_isHigher 36 = .ok (.ireturn, 1) := by decide +kernel
theorem dX12_isHigher_37 : decode cX12_isHigher 37 = .ok (.aload_n 0, 1) := by decide +kernel
theorem dX12_isHigher_38 : decode cX12_isHigher 38 = .ok (.getfield 73, 3) := by decide +kernel
theorem dX12_isHigher_41 : decode cX12_isHigher 41 = .ok (.iload 5, 2) := by decide +kernel
theorem dX12_isHigher_43 : decode cX12_isHigher 43 = .ok (.iaload, 1) := by decide +kernel
theorem dX12_isHigher_44 : decode cX12_isHigher 44 = .ok (.iload 4, 2) := by decide +kernel
theorem dX12_isHigher_46 : decode cX12_isHigher 46 = .ok (.if_icmp .ne 16, 3) := by decide +kernel
theorem dX12_isHigher_49 : decode cX12_isHigher 49 = .ok (.aload_n 0, 1) := by decide +kernel
theorem dX12_isHigher_50 : decode cX12_isHigher 50 = .ok (.getfield 76, 3) := by decide +kernel
theorem dX12_isHigher_53 : decode cX12_isHigher 53 = .ok (.iload 5, 2) := by decide +kernel
theorem dX12_isHigher_55 : decode cX12_isHigher 55 = .ok (.iaload, 1) := by decide +kernel
theorem dX12_isHigher_56 : decode cX12_isHigher 56 = .ok (.iload_n 3, 1) := by decide +kernel
theorem dX12_isHigher_57 : decode cX12_isHigher 57 = .ok (.if_icmp .ne 5, 3) := by decide +kernel
theorem dX12_isHigher_60 : decode cX12_isHigher 60 = .ok (.iconst 0, 1) := by decide +kernel
theorem dX12_isHigher_61 : decode cX12_isHigher 61 = .ok (.ireturn, 1) := by decide +kernel
theorem dX12_isHigher_62 : decode cX12_isHigher 62 = .ok (.iinc 5 1, 3) := by decide +kernel
theorem dX12_isHigher_65 : decode cX12_isHigher 65 = .ok (.goto (-62), 3) := by decide +kernel
theorem dX12_isHigher_68 : decode cX12_isHigher 68 = .ok (.iload_n 3, 1) := by decide +kernel
theorem dX12_isHigher_69 : decode cX12_isHigher 69 = .ok (.iload 4, 2) := by decide +kernel
theorem dX12_isHigher_71 : decode cX12_isHigher 71 = .ok (.if_icmp .ne 5, 3) := by decide +kernel
theorem dX12_isHigher_74 : decode cX12_isHigher 74 = .ok (.iconst 0, 1) := by decide +kernel
theorem dX12_isHigher_75 : decode cX12_isHigher 75 = .ok (.ireturn, 1) := by decide +kernel
theorem dX12_isHigher_76 : decode cX12_isHigher 76 = .ok (.aload_n 0, 1) := by decide +kernel
theorem dX12_isHigher_77 : decode cX12_isHigher 77 = .ok (.getfield 58, 3) := by decide +kernel
theorem dX12_isHigher_80 : decode cX12_isHigher 80 = .ok (.iload_n 1, 1) := by decide +kernel
theorem dX12_isHigher_81 : decode cX12_isHigher 81 = .ok (.iaload, 1) := by decide +kernel
theorem dX12_isHigher_82 : decode cX12_isHigher 82 = .ok (.aload_n 0, 1) := by decide +kernel
theorem dX12_isHigher_83 : decode cX12_isHigher 83 = .ok (.getfield 58, 3) := by decide +kernel
theorem dX12_isHigher_86 : decode cX12_isHigher 86 = .ok (.iload_n 2, 1) := by decide +kernel
theorem dX12_isHigher_87 : decode cX12_isHigher 87 = .ok (.iaload, 1) := by decide +kernel
theorem dX12_isHigher_88 : decode cX12_isHigher 88 = .ok (.if_icmp .eq 24, 3) := by decide +kernel
theorem dX12_isHigher_91 : decode cX12_isHigher 91 = .ok (.aload_n 0, 1) := by decide +kernel
theorem dX12_isHigher_92 : decode cX12_isHigher 92 = .ok (.getfield 58, 3) := by decide +kernel
theorem dX12_isHigher_95 : decode cX12_isHigher 95 = .ok (.iload_n 1, 1) := by decide +kernel
theorem dX12_isHigher_96 : decode cX12_isHigher 96 = .ok (.iaload, 1) := by decide +kernel
theorem dX12_isHigher_97 : decode cX12_isHigher 97 = .ok (.aload_n 0, 1) := by decide +kernel
theorem dX12_isHigher_98 : decode cX12_isHigher 98 = .ok (.getfield 58, 3) := by decide +kernel
theorem dX12_isHigher_101 : decode cX12_isHigher 101 = .ok (.iload_n 2, 1) := by decide +kernel
theorem dX12_isHigher_102 : decode cX12_isHigher 102 = .ok (.iaload, 1) := by decide +kernel
theorem dX12_isHigher_103 : decode cX12_isHigher 103 = .ok (.if_icmp .le 7, 3) := by decide +kernel
theorem dX12_isHigher_106 : decode cX12_isHigher 106 = .ok (.iconst 1, 1) := by decide +kernel
theorem dX12_isHigher_107 : decode cX12_isHigher 107 = .ok (.goto 4, 3) := by decide +kernel
theorem dX12_isHigher_110 : decode cX12_isHigher 110 = .ok (.iconst 0, 1) := by decide +kernel
theorem dX12_isHigher_111 : decode cX12_isHigher 111 = .ok (.ireturn, 1) := by decide +kernel
theorem dX12_isHigher_112 : decode cX12_isHigher 112 = .ok (.aload_n 0, 1) := by decide +kernel
theorem dX12_isHigher_113 : decode cX12_isHigher 113 = .ok (.getfield 61, 3) := by decide +kernel
theorem dX12_isHigher_116 : decode cX12_isHigher 116 = .ok (.iload_n 1, 1) := by decide +kernel
theorem dX12_isHigher_117 : decode cX12_isHigher 117 = .ok (.iaload, 1) := by decide +kernel
theorem dX12_isHigher_118 : decode cX12_isHigher 118 = .ok (.aload_n 0, 1) := by decide +kernel
theorem dX12_isHigher_119 : decode cX12_isHigher 119 = .ok (.getfield 61, 3) := by decide +kernel
theorem dX12_isHigher_122 : decode cX12_isHigher 122 = .ok (.iload_n 2, 1) := by decide +kernel
theorem dX12_isHigher_123 : decode cX12_isHigher 123 = .ok (.iaload, 1) := by decide +kernel
theorem dX12_isHigher_124 : decode cX12_isHigher 124 = .ok (.if_icmp .eq 24, 3) := by decide +kernel
theorem dX12_isHigher_127 : decode cX12_isHigher 127 = .ok (.aload_n 0, 1) := by decide +kernel
theorem dX12_isHigher_128 : decode cX12_isHigher 128 = .ok (.getfield 61, 3) := by decide +kernel
theorem dX12_isHigher_131 : decode cX12_isHigher 131 = .ok (.iload_n 1, 1) := by decide +kernel
theorem dX12_isHigher_132 : decode cX12_isHigher 132 = .ok (.iaload, 1) := by decide +kernel
theorem dX12_isHigher_133 : decode cX12_isHigher 133 = .ok (.aload_n 0, 1) := by decide +kernel
theorem dX12_isHigher_134 : decode cX12_isHigher 134 = .ok (.getfield 61, 3) := by decide +kernel
theorem dX12_isHigher_137 : decode cX12_isHigher 137 = .ok (.iload_n 2, 1) := by decide +kernel
theorem dX12_isHigher_138 : decode cX12_isHigher 138 = .ok (.iaload, 1) := by decide +kernel
theorem dX12_isHigher_139 : decode cX12_isHigher 139 = .ok (.if_icmp .le 7, 3) := by decide +kernel
theorem dX12_isHigher_142 : decode cX12_isHigher 142 = .ok (.iconst 1, 1) := by decide +kernel
theorem dX12_isHigher_143 : decode cX12_isHigher 143 = .ok (.goto 4, 3) := by decide +kernel
theorem dX12_isHigher_146 : decode cX12_isHigher 146 = .ok (.iconst 0, 1) := by decide +kernel
theorem dX12_isHigher_147 : decode cX12_isHigher 147 = .ok (.ireturn, 1) := by decide +kernel
theorem dX12_isHigher_148 : decode cX12_isHigher 148 = .ok (.aload_n 0, 1) := by decide +kernel
theorem dX12_isHigher_149 : decode cX12_isHigher 149 = .ok (.getfield 64, 3) := by decide +kernel
theorem dX12_isHigher_152 : decode cX12_isHigher 152 = .ok (.iload_n 1, 1) := by decide +kernel
theorem dX12_isHigher_153 : decode cX12_isHigher 153 = .ok (.iaload, 1) := by decide +kernel
theorem dX12_isHigher_154 : decode cX12_isHigher 154 = .ok (.aload_n 0, 1) := by decide +kernel
theorem dX12_isHigher_155 : decode cX12_isHigher 155 = .ok (.getfield 64, 3) := by decide +kernel
theorem dX12_isHigher_158 : decode cX12_isHigher 158 = .ok (.iload_n 2, 1) := by decide +kernel
theorem dX12_isHigher_159 : decode cX12_isHigher 159 = .ok (.iaload, 1) := by decide +kernel
theorem dX12_isHigher_160 : decode cX12_isHigher 160 = .ok (.if_icmp .le 7, 3) := by decide +kernel
theorem dX12_isHigher_163 : decode cX12_isHigher 163 = .ok (.iconst 1, 1) := by decide +kernel
theorem dX12_isHigher_164 : decode cX12_isHigher 164 = .ok (.goto 4, 3) := by decide +kernel
theorem dX12_isHigher_167 : decode cX12_isHigher 167 = .ok (.iconst 0, 1) := by decide +kernel
theorem dX12_isHigher_168 : decode cX12_isHigher 168 = .ok (.ireturn, 1) := by decide +kernel
def fX12_isHigher_62 (k3 : MS → Int32 → Int32 → Int32 → Int32 → Int32 → Option (Int32)) (h : MS) (x1 : Int32) (x2 : Int32) (x3 : Int32) (x4 : Int32) (x5 : Int32) : Option (Int32) :=
  oL (x5 + 1) (fun y1 => k3 h x1 x2 x3 x4 y1)
set_option maxHeartbeats 4000000 in
theorem wfX12_isHigher_62 {args : Array Value} (b : Bd p s m c cX12_isHigher 6 RX12 D aC) (hlk : meth.locks = false) (hr : meth.sig.returnType = some .boolean) {Z : State → Prop} (zs : Z s) (zk : ZOK Z (Rg ad)) {rz : Int32} {k3 : MS → Int32 → Int32 → Int32 → Int32 → Int32 → Option (Int32)} (H3 : ∀ (h : MS) (x1 : Int32) (x2 : Int32) (x3 : Int32) (x4 : Int32) (x5 : Int32), ∀ (H : Heap) (locs : List Loc) (ls : Array Slot), k3 h x1 x2 x3 x4 x5 = some rz → CE (EM D aC ad h) (Rg ad) s H locs → lv_has ls 6 [(0, .ref (ad 116)), (1, .int x1), (2, .int x2), (3, .int x3), (4, .int x4), (5, .int x5)] → W p l e (RM 0 0 0 0) s m args below meth c H locs 0 0 (MQ below (PQ (EM D aC ad h) (Rg ad) (some (.int rz))) args s 0 0 (Rg ad)) (F0 m 3 ls [])) {h : MS} {x1 : Int32} {x2 : Int32} {x3 : Int32} {x4 : Int32} {x5 : Int32}  {H : Heap} {locs : List Loc} {ls : Array Slot} (hf : fX12_isHigher_62 k3 h x1 x2 x3 x4 x5 = some rz) (hE : CE (EM D aC ad h) (Rg ad) s H locs) (hl : lv_has ls 6 [(0, .ref (ad 116)), (1, .int x1), (2, .int x2), (3, .int x3), (4, .int x4), (5, .int x5)]) : W p l e (RM 0 0 0 0) s m args below meth c H locs 0 0 (MQ below (PQ (EM D aC ad h) (Rg ad) (some (.int rz))) args s 0 0 (Rg ad)) (F0 m 62 ls []) := by
  unfold fX12_isHigher_62 at hf
  obtain ⟨y1, ey1, hf⟩ := oL_s hf
  refine lv_iinc (v := y1) (lv' := [(5, .int y1), (0, .ref (ad 116)), (1, .int x1), (2, .int x2), (3, .int x3), (4, .int x4)]) b.1 b.2.1 dX12_isHigher_62 hl (k := 5) rfl (by rw [ey1]; rfl) (by decide) rfl (fun ls hl => ?_)
  refine lv_goto (tgt := 3) b.1 b.2.1 dX12_isHigher_65 (by decide) ?_
  exact H3 h x1 x2 x3 x4 y1 _ _ _ hf hE (lv_sub hl [1, 2, 3, 4, 5, 0] rfl)
def fX12_isHigher_37 (k3 : MS → Int32 → Int32 → Int32 → Int32 → Int32 → Option (Int32)) (h : MS) (x1 : Int32) (x2 : Int32) (x3 : Int32) (x4 : Int32) (x5 : Int32) : Option (Int32) :=
  oC (ix x5 (mlen 36)) (if (mA h 36 (Int32.toNatClampNeg x5)) = x4 then (oC (ix x5 (mlen 37)) (if (mA h 37 (Int32.toNatClampNeg x5)) = x3 then (some (0)) else (fX12_isHigher_62 k3 h x1 x2 x3 x4 x5))) else (fX12_isHigher_62 k3 h x1 x2 x3 x4 x5))
set_option maxHeartbeats 4000000 in
theorem wfX12_isHigher_37 {args : Array Value} (b : Bd p s m c cX12_isHigher 6 RX12 D aC) (hlk : meth.locks = false) (hr : meth.sig.returnType = some .boolean) {Z : State → Prop} (zs : Z s) (zk : ZOK Z (Rg ad)) {rz : Int32} {k3 : MS → Int32 → Int32 → Int32 → Int32 → Int32 → Option (Int32)} (H3 : ∀ (h : MS) (x1 : Int32) (x2 : Int32) (x3 : Int32) (x4 : Int32) (x5 : Int32), ∀ (H : Heap) (locs : List Loc) (ls : Array Slot), k3 h x1 x2 x3 x4 x5 = some rz → CE (EM D aC ad h) (Rg ad) s H locs → lv_has ls 6 [(0, .ref (ad 116)), (1, .int x1), (2, .int x2), (3, .int x3), (4, .int x4), (5, .int x5)] → W p l e (RM 0 0 0 0) s m args below meth c H locs 0 0 (MQ below (PQ (EM D aC ad h) (Rg ad) (some (.int rz))) args s 0 0 (Rg ad)) (F0 m 3 ls [])) {h : MS} {x1 : Int32} {x2 : Int32} {x3 : Int32} {x4 : Int32} {x5 : Int32}  {H : Heap} {locs : List Loc} {ls : Array Slot} (hf : fX12_isHigher_37 k3 h x1 x2 x3 x4 x5 = some rz) (hE : CE (EM D aC ad h) (Rg ad) s H locs) (hl : lv_has ls 6 [(0, .ref (ad 116)), (1, .int x1), (2, .int x2), (3, .int x3), (4, .int x4), (5, .int x5)]) : W p l e (RM 0 0 0 0) s m args below meth c H locs 0 0 (MQ below (PQ (EM D aC ad h) (Rg ad) (some (.int rz))) args s 0 0 (Rg ad)) (F0 m 37 ls []) := by
  unfold fX12_isHigher_37 at hf
  refine lv_aload_n b.1 b.2.1 dX12_isHigher_37 rfl (lv_at hl 0 rfl) ?_
  refine gM_73 b hE dX12_isHigher_38 ?_
  refine lv_iload b.1 b.2.1 dX12_isHigher_41 (lv_at hl 5 rfl) ?_
  obtain ⟨g2, hf⟩ := oC_s hf
  refine m_iald b hE rfl rfl g2 dX12_isHigher_43 ?_
  refine lv_iload b.1 b.2.1 dX12_isHigher_44 (lv_at hl 4 rfl) ?_
  refine lv_icmp_ne (tgt := 62) b.1 b.2.1 dX12_isHigher_46 (by decide) (fun c3 => ?_) (fun c3 => ?_)
  · have hf := oI_f c3 hf
    exact wfX12_isHigher_62 b hlk hr zs zk H3 hf hE (lv_sub hl [0, 1, 2, 3, 4, 5] rfl)
  · have hf := oI_t c3 hf
    refine lv_aload_n b.1 b.2.1 dX12_isHigher_49 rfl (lv_at hl 0 rfl) ?_
    refine gM_76 b hE dX12_isHigher_50 ?_
    refine lv_iload b.1 b.2.1 dX12_isHigher_53 (lv_at hl 5 rfl) ?_
    obtain ⟨g4, hf⟩ := oC_s hf
    refine m_iald b hE rfl rfl g4 dX12_isHigher_55 ?_
    refine lv_iload_n b.1 b.2.1 dX12_isHigher_56 rfl (lv_at hl 3 rfl) ?_
    refine lv_icmp_ne (tgt := 62) b.1 b.2.1 dX12_isHigher_57 (by decide) (fun c5 => ?_) (fun c5 => ?_)
    · have hf := oI_f c5 hf
      exact wfX12_isHigher_62 b hlk hr zs zk H3 hf hE (lv_sub hl [0, 1, 2, 3, 4, 5] rfl)
    · have hf := oI_t c5 hf
      refine lv_iconst (v := 0) b.1 b.2.1 dX12_isHigher_60 (by decide) ?_
      cases hf
      exact k_zret b hlk hr (by decide) hE (Nat.le_refl _) (Nat.le_refl _) dX12_isHigher_61
def fX12_isHigher_3F (k3 : MS → Int32 → Int32 → Int32 → Int32 → Int32 → Option (Int32)) (h : MS) (x1 : Int32) (x2 : Int32) (x3 : Int32) (x4 : Int32) (x5 : Int32) : Option (Int32) :=
  if (mI h 23) ≤ x5 then (if x3 = x4 then (some (0)) else (oC (ix x1 (mlen 31)) (oC (ix x2 (mlen 31)) (if (mA h 31 (Int32.toNatClampNeg x1)) = (mA h 31 (Int32.toNatClampNeg x2)) then (oC (ix x1 (mlen 32)) (oC (ix x2 (mlen 32)) (if (mA h 32 (Int32.toNatClampNeg x1)) = (mA h 32 (Int32.toNatClampNeg x2)) then (oC (ix x1 (mlen 33)) (oC (ix x2 (mlen 33)) (if (mA h 33 (Int32.toNatClampNeg x1)) ≤ (mA h 33 (Int32.toNatClampNeg x2)) then (some (0)) else (some (1))))) else (oC (ix x1 (mlen 32)) (oC (ix x2 (mlen 32)) (if (mA h 32 (Int32.toNatClampNeg x1)) ≤ (mA h 32 (Int32.toNatClampNeg x2)) then (some (0)) else (some (1)))))))) else (oC (ix x1 (mlen 31)) (oC (ix x2 (mlen 31)) (if (mA h 31 (Int32.toNatClampNeg x1)) ≤ (mA h 31 (Int32.toNatClampNeg x2)) then (some (0)) else (some (1))))))))) else (oC (ix x5 (mlen 36)) (if (mA h 36 (Int32.toNatClampNeg x5)) = x3 then (oC (ix x5 (mlen 37)) (if (mA h 37 (Int32.toNatClampNeg x5)) = x4 then (some (1)) else (fX12_isHigher_37 k3 h x1 x2 x3 x4 x5))) else (fX12_isHigher_37 k3 h x1 x2 x3 x4 x5)))
set_option maxHeartbeats 4000000 in
theorem wfX12_isHigher_3F {args : Array Value} (b : Bd p s m c cX12_isHigher 6 RX12 D aC) (hlk : meth.locks = false) (hr : meth.sig.returnType = some .boolean) {Z : State → Prop} (zs : Z s) (zk : ZOK Z (Rg ad)) {rz : Int32} {k3 : MS → Int32 → Int32 → Int32 → Int32 → Int32 → Option (Int32)} (H3 : ∀ (h : MS) (x1 : Int32) (x2 : Int32) (x3 : Int32) (x4 : Int32) (x5 : Int32), ∀ (H : Heap) (locs : List Loc) (ls : Array Slot), k3 h x1 x2 x3 x4 x5 = some rz → CE (EM D aC ad h) (Rg ad) s H locs → lv_has ls 6 [(0, .ref (ad 116)), (1, .int x1), (2, .int x2), (3, .int x3), (4, .int x4), (5, .int x5)] → W p l e (RM 0 0 0 0) s m args below meth c H locs 0 0 (MQ below (PQ (EM D aC ad h) (Rg ad) (some (.int rz))) args s 0 0 (Rg ad)) (F0 m 3 ls [])) {h : MS} {x1 : Int32} {x2 : Int32} {x3 : Int32} {x4 : Int32} {x5 : Int32}  {H : Heap} {locs : List Loc} {ls : Array Slot} (hf : fX12_isHigher_3F k3 h x1 x2 x3 x4 x5 = some rz) (hE : CE (EM D aC ad h) (Rg ad) s H locs) (hl : lv_has ls 6 [(0, .ref (ad 116)), (1, .int x1), (2, .int x2), (3, .int x3), (4, .int x4), (5, .int x5)]) : W p l e (RM 0 0 0 0) s m args below meth c H locs 0 0 (MQ below (PQ (EM D aC ad h) (Rg ad) (some (.int rz))) args s 0 0 (Rg ad)) (F0 m 3 ls []) := by
  unfold fX12_isHigher_3F at hf
  refine lv_iload b.1 b.2.1 dX12_isHigher_3 (lv_at hl 5 rfl) ?_
  refine lv_aload_n b.1 b.2.1 dX12_isHigher_5 rfl (lv_at hl 0 rfl) ?_
  refine gM_353 b hE dX12_isHigher_6 ?_
  refine lv_icmp_ge (tgt := 68) b.1 b.2.1 dX12_isHigher_9 (by decide) (fun c6 => ?_) (fun c6 => ?_)
  · have hf := oI_t c6 hf
    refine lv_iload_n b.1 b.2.1 dX12_isHigher_68 rfl (lv_at hl 3 rfl) ?_
    refine lv_iload b.1 b.2.1 dX12_isHigher_69 (lv_at hl 4 rfl) ?_
    refine lv_icmp_ne (tgt := 76) b.1 b.2.1 dX12_isHigher_71 (by decide) (fun c7 => ?_) (fun c7 => ?_)
    · have hf := oI_f c7 hf
      refine lv_aload_n b.1 b.2.1 dX12_isHigher_76 rfl (lv_at hl 0 rfl) ?_
      refine gM_58 b hE dX12_isHigher_77 ?_
      refine lv_iload_n b.1 b.2.1 dX12_isHigher_80 rfl (lv_at hl 1 rfl) ?_
      obtain ⟨g8, hf⟩ := oC_s hf
      refine m_iald b hE rfl rfl g8 dX12_isHigher_81 ?_
      refine lv_aload_n b.1 b.2.1 dX12_isHigher_82 rfl (lv_at hl 0 rfl) ?_
      refine gM_58 b hE dX12_isHigher_83 ?_
      refine lv_iload_n b.1 b.2.1 dX12_isHigher_86 rfl (lv_at hl 2 rfl) ?_
      obtain ⟨g9, hf⟩ := oC_s hf
      refine m_iald b hE rfl rfl g9 dX12_isHigher_87 ?_
      refine lv_icmp_eq (tgt := 112) b.1 b.2.1 dX12_isHigher_88 (by decide) (fun c10 => ?_) (fun c10 => ?_)
      · have hf := oI_t c10 hf
        refine lv_aload_n b.1 b.2.1 dX12_isHigher_112 rfl (lv_at hl 0 rfl) ?_
        refine gM_61 b hE dX12_isHigher_113 ?_
        refine lv_iload_n b.1 b.2.1 dX12_isHigher_116 rfl (lv_at hl 1 rfl) ?_
        obtain ⟨g11, hf⟩ := oC_s hf
        refine m_iald b hE rfl rfl g11 dX12_isHigher_117 ?_
        refine lv_aload_n b.1 b.2.1 dX12_isHigher_118 rfl (lv_at hl 0 rfl) ?_
        refine gM_61 b hE dX12_isHigher_119 ?_
        refine lv_iload_n b.1 b.2.1 dX12_isHigher_122 rfl (lv_at hl 2 rfl) ?_
        obtain ⟨g12, hf⟩ := oC_s hf
        refine m_iald b hE rfl rfl g12 dX12_isHigher_123 ?_
        refine lv_icmp_eq (tgt := 148) b.1 b.2.1 dX12_isHigher_124 (by decide) (fun c13 => ?_) (fun c13 => ?_)
        · have hf := oI_t c13 hf
          refine lv_aload_n b.1 b.2.1 dX12_isHigher_148 rfl (lv_at hl 0 rfl) ?_
          refine gM_64 b hE dX12_isHigher_149 ?_
          refine lv_iload_n b.1 b.2.1 dX12_isHigher_152 rfl (lv_at hl 1 rfl) ?_
          obtain ⟨g14, hf⟩ := oC_s hf
          refine m_iald b hE rfl rfl g14 dX12_isHigher_153 ?_
          refine lv_aload_n b.1 b.2.1 dX12_isHigher_154 rfl (lv_at hl 0 rfl) ?_
          refine gM_64 b hE dX12_isHigher_155 ?_
          refine lv_iload_n b.1 b.2.1 dX12_isHigher_158 rfl (lv_at hl 2 rfl) ?_
          obtain ⟨g15, hf⟩ := oC_s hf
          refine m_iald b hE rfl rfl g15 dX12_isHigher_159 ?_
          refine lv_icmp_le (tgt := 167) b.1 b.2.1 dX12_isHigher_160 (by decide) (fun c16 => ?_) (fun c16 => ?_)
          · have hf := oI_t c16 hf
            refine lv_iconst (v := 0) b.1 b.2.1 dX12_isHigher_167 (by decide) ?_
            cases hf
            exact k_zret b hlk hr (by decide) hE (Nat.le_refl _) (Nat.le_refl _) dX12_isHigher_168
          · have hf := oI_f c16 hf
            refine lv_iconst (v := 1) b.1 b.2.1 dX12_isHigher_163 (by decide) ?_
            refine lv_goto (tgt := 168) b.1 b.2.1 dX12_isHigher_164 (by decide) ?_
            cases hf
            exact k_zret b hlk hr (by decide) hE (Nat.le_refl _) (Nat.le_refl _) dX12_isHigher_168
        · have hf := oI_f c13 hf
          refine lv_aload_n b.1 b.2.1 dX12_isHigher_127 rfl (lv_at hl 0 rfl) ?_
          refine gM_61 b hE dX12_isHigher_128 ?_
          refine lv_iload_n b.1 b.2.1 dX12_isHigher_131 rfl (lv_at hl 1 rfl) ?_
          obtain ⟨g17, hf⟩ := oC_s hf
          refine m_iald b hE rfl rfl g17 dX12_isHigher_132 ?_
          refine lv_aload_n b.1 b.2.1 dX12_isHigher_133 rfl (lv_at hl 0 rfl) ?_
          refine gM_61 b hE dX12_isHigher_134 ?_
          refine lv_iload_n b.1 b.2.1 dX12_isHigher_137 rfl (lv_at hl 2 rfl) ?_
          obtain ⟨g18, hf⟩ := oC_s hf
          refine m_iald b hE rfl rfl g18 dX12_isHigher_138 ?_
          refine lv_icmp_le (tgt := 146) b.1 b.2.1 dX12_isHigher_139 (by decide) (fun c19 => ?_) (fun c19 => ?_)
          · have hf := oI_t c19 hf
            refine lv_iconst (v := 0) b.1 b.2.1 dX12_isHigher_146 (by decide) ?_
            cases hf
            exact k_zret b hlk hr (by decide) hE (Nat.le_refl _) (Nat.le_refl _) dX12_isHigher_147
          · have hf := oI_f c19 hf
            refine lv_iconst (v := 1) b.1 b.2.1 dX12_isHigher_142 (by decide) ?_
            refine lv_goto (tgt := 147) b.1 b.2.1 dX12_isHigher_143 (by decide) ?_
            cases hf
            exact k_zret b hlk hr (by decide) hE (Nat.le_refl _) (Nat.le_refl _) dX12_isHigher_147
      · have hf := oI_f c10 hf
        refine lv_aload_n b.1 b.2.1 dX12_isHigher_91 rfl (lv_at hl 0 rfl) ?_
        refine gM_58 b hE dX12_isHigher_92 ?_
        refine lv_iload_n b.1 b.2.1 dX12_isHigher_95 rfl (lv_at hl 1 rfl) ?_
        obtain ⟨g20, hf⟩ := oC_s hf
        refine m_iald b hE rfl rfl g20 dX12_isHigher_96 ?_
        refine lv_aload_n b.1 b.2.1 dX12_isHigher_97 rfl (lv_at hl 0 rfl) ?_
        refine gM_58 b hE dX12_isHigher_98 ?_
        refine lv_iload_n b.1 b.2.1 dX12_isHigher_101 rfl (lv_at hl 2 rfl) ?_
        obtain ⟨g21, hf⟩ := oC_s hf
        refine m_iald b hE rfl rfl g21 dX12_isHigher_102 ?_
        refine lv_icmp_le (tgt := 110) b.1 b.2.1 dX12_isHigher_103 (by decide) (fun c22 => ?_) (fun c22 => ?_)
        · have hf := oI_t c22 hf
          refine lv_iconst (v := 0) b.1 b.2.1 dX12_isHigher_110 (by decide) ?_
          cases hf
          exact k_zret b hlk hr (by decide) hE (Nat.le_refl _) (Nat.le_refl _) dX12_isHigher_111
        · have hf := oI_f c22 hf
          refine lv_iconst (v := 1) b.1 b.2.1 dX12_isHigher_106 (by decide) ?_
          refine lv_goto (tgt := 111) b.1 b.2.1 dX12_isHigher_107 (by decide) ?_
          cases hf
          exact k_zret b hlk hr (by decide) hE (Nat.le_refl _) (Nat.le_refl _) dX12_isHigher_111
    · have hf := oI_t c7 hf
      refine lv_iconst (v := 0) b.1 b.2.1 dX12_isHigher_74 (by decide) ?_
      cases hf
      exact k_zret b hlk hr (by decide) hE (Nat.le_refl _) (Nat.le_refl _) dX12_isHigher_75
  · have hf := oI_f c6 hf
    refine lv_aload_n b.1 b.2.1 dX12_isHigher_12 rfl (lv_at hl 0 rfl) ?_
    refine gM_73 b hE dX12_isHigher_13 ?_
    refine lv_iload b.1 b.2.1 dX12_isHigher_16 (lv_at hl 5 rfl) ?_
    obtain ⟨g23, hf⟩ := oC_s hf
    refine m_iald b hE rfl rfl g23 dX12_isHigher_18 ?_
    refine lv_iload_n b.1 b.2.1 dX12_isHigher_19 rfl (lv_at hl 3 rfl) ?_
    refine lv_icmp_ne (tgt := 37) b.1 b.2.1 dX12_isHigher_20 (by decide) (fun c24 => ?_) (fun c24 => ?_)
    · have hf := oI_f c24 hf
      exact wfX12_isHigher_37 b hlk hr zs zk H3 hf hE (lv_sub hl [0, 1, 2, 3, 4, 5] rfl)
    · have hf := oI_t c24 hf
      refine lv_aload_n b.1 b.2.1 dX12_isHigher_23 rfl (lv_at hl 0 rfl) ?_
      refine gM_76 b hE dX12_isHigher_24 ?_
      refine lv_iload b.1 b.2.1 dX12_isHigher_27 (lv_at hl 5 rfl) ?_
      obtain ⟨g25, hf⟩ := oC_s hf
      refine m_iald b hE rfl rfl g25 dX12_isHigher_29 ?_
      refine lv_iload b.1 b.2.1 dX12_isHigher_30 (lv_at hl 4 rfl) ?_
      refine lv_icmp_ne (tgt := 37) b.1 b.2.1 dX12_isHigher_32 (by decide) (fun c26 => ?_) (fun c26 => ?_)
      · have hf := oI_f c26 hf
        exact wfX12_isHigher_37 b hlk hr zs zk H3 hf hE (lv_sub hl [0, 1, 2, 3, 4, 5] rfl)
      · have hf := oI_t c26 hf
        refine lv_iconst (v := 1) b.1 b.2.1 dX12_isHigher_35 (by decide) ?_
        cases hf
        exact k_zret b hlk hr (by decide) hE (Nat.le_refl _) (Nat.le_refl _) dX12_isHigher_36
def fX12_isHigher_3  : Nat → MS → Int32 → Int32 → Int32 → Int32 → Int32 → Option (Int32)
  | 0 => fun _ _ _ _ _ _ => none
  | n + 1 => fX12_isHigher_3F  (fX12_isHigher_3  n)
set_option maxHeartbeats 4000000 in
theorem wfX12_isHigher_3 {args : Array Value} (b : Bd p s m c cX12_isHigher 6 RX12 D aC) (hlk : meth.locks = false) (hr : meth.sig.returnType = some .boolean) {Z : State → Prop} (zs : Z s) (zk : ZOK Z (Rg ad)) {rz : Int32} : ∀ n : Nat, ∀ (h : MS) (x1 : Int32) (x2 : Int32) (x3 : Int32) (x4 : Int32) (x5 : Int32), ∀ (H : Heap) (locs : List Loc) (ls : Array Slot), fX12_isHigher_3  n h x1 x2 x3 x4 x5 = some rz → CE (EM D aC ad h) (Rg ad) s H locs → lv_has ls 6 [(0, .ref (ad 116)), (1, .int x1), (2, .int x2), (3, .int x3), (4, .int x4), (5, .int x5)] → W p l e (RM 0 0 0 0) s m args below meth c H locs 0 0 (MQ below (PQ (EM D aC ad h) (Rg ad) (some (.int rz))) args s 0 0 (Rg ad)) (F0 m 3 ls []) := by
  intro n
  induction n with
  | zero =>
    intro h x1 x2 x3 x4 x5 H locs ls hf
    have hf : (none : Option (Int32)) = some _ := hf
    cases hf
  | succ n ih =>
    intro h x1 x2 x3 x4 x5 H locs ls hf hE hl
    exact wfX12_isHigher_3F b hlk hr zs zk  ih hf hE hl
def fX12_isHigher_0  (h : MS) (x1 : Int32) (x2 : Int32) (x3 : Int32) (x4 : Int32) : Option (Int32) :=
  fX12_isHigher_3  FU h x1 x2 x3 x4 0
set_option maxHeartbeats 4000000 in
theorem wfX12_isHigher_0 {args : Array Value} (b : Bd p s m c cX12_isHigher 6 RX12 D aC) (hlk : meth.locks = false) (hr : meth.sig.returnType = some .boolean) {Z : State → Prop} (zs : Z s) (zk : ZOK Z (Rg ad)) {rz : Int32} {h : MS} {x1 : Int32} {x2 : Int32} {x3 : Int32} {x4 : Int32}  {H : Heap} {locs : List Loc} {ls : Array Slot} (hf : fX12_isHigher_0 h x1 x2 x3 x4 = some rz) (hE : CE (EM D aC ad h) (Rg ad) s H locs) (hl : lv_has ls 6 [(0, .ref (ad 116)), (1, .int x1), (2, .int x2), (3, .int x3), (4, .int x4)]) : W p l e (RM 0 0 0 0) s m args below meth c H locs 0 0 (MQ below (PQ (EM D aC ad h) (Rg ad) (some (.int rz))) args s 0 0 (Rg ad)) (F0 m 0 ls []) := by
  unfold fX12_isHigher_0 at hf
  refine lv_iconst (v := 0) b.1 b.2.1 dX12_isHigher_0 (by decide) ?_
  refine lv_istore (lv' := [(5, .int 0), (0, .ref (ad 116)), (1, .int x1), (2, .int x2), (3, .int x3), (4, .int x4)]) b.1 b.2.1 dX12_isHigher_1 hl (by decide) rfl (fun ls hl => ?_)
  exact wfX12_isHigher_3 b hlk hr zs zk  FU h x1 x2 x3 x4 0 _ _ _ hf hE (lv_sub hl [1, 2, 3, 4, 5, 0] rfl)
def fX12_isHigher (h : MS) (x1 : Int32) (x2 : Int32) (x3 : Int32) (x4 : Int32) : Option (Int32) := fX12_isHigher_0 h x1 x2 x3 x4
set_option maxHeartbeats 4000000 in
theorem CX12_isHigher (l : Launch) (D : va_G) (aC : Nat → ClassId) (ad : Nat → Nat) {Z : State → Prop} (zk : ZOK Z (Rg ad)) {h : MS} {x1 : Int32} {x2 : Int32} {x3 : Int32} {x4 : Int32} {rz : Int32} (hf : fX12_isHigher h x1 x2 x3 x4 = some rz) : CM l D aC Z yX12_isHigher cX12_isHigher 6 (some .boolean) 0 0 0 0 (EM D aC ad h) [.ref (ad 116), .int x1, .int x2, .int x3, .int x4] (EM D aC ad h) (some (.int rz)) (Rg ad) := by
  refine CM.of rfl ?_
  intro p e s m below meth c b hr hlk hin2 zs hE
  refine k_ent (Nat.le_of_ble_eq_true rfl) (fun ls hl => ?_)
  exact wfX12_isHigher_0 b hlk hr zs zk hf hE (lv_sub hl [0, 1, 2, 3, 4] rfl)
theorem dX12_above_0 : decode cX12_above 0 = .ok (.iload_n 1, 1) := by decide +kernel
theorem dX12_above_1 : decode cX12_above 1 = .ok (.aload_n 0, 1) := by decide +kernel
theorem dX12_above_2 : decode cX12_above 2 = .ok (.getfield 350, 3) := by decide +kernel
theorem dX12_above_5 : decode cX12_above 5 = .ok (.invokestatic 435, 3) := by decide +kernel
theorem dX12_above_8 : decode cX12_above 8 = .ok (.ifCond .eq 34, 3) := by decide +kernel
theorem dX12_above_11 : decode cX12_above 11 = .ok (.iload_n 2, 1) := by decide +kernel
theorem dX12_above_12 : decode cX12_above 12 = .ok (.aload_n 0, 1) := by decide +kernel
theorem dX12_above_13 : decode cX12_above 13 = .ok (.getfield 350, 3) := by decide +kernel
theorem dX12_above_16 : decode cX12_above 16 = .ok (.invokestatic 435, 3) := by decide +kernel
theorem dX12_above_19 : decode cX12_above 19 = .ok (.ifCond .eq 23, 3) := by decide +kernel
theorem dX12_above_22 : decode cX12_above 22 = .ok (.aload_n 0, 1) := by decide +kernel
theorem dX12_above_23 : decode cX12_above 23 = .ok (.getfield 85, 3) := by decide +kernel
theorem dX12_above_26 : decode cX12_above 26 = .ok (.iload_n 1, 1) := by decide +kernel
theorem dX12_above_27 : decode cX12_above 27 = .ok (.iaload, 1) := by decide +kernel
theorem dX12_above_28 : decode cX12_above 28 = .ok (.iconst 2, 1) := by decide +kernel
theorem dX12_above_29 : decode cX12_above 29 = .ok (.if_icmp .eq 13, 3) := by decide +kernel
theorem dX12_above_32 : decode cX12_above 32 = .ok (.aload_n 0, 1) := by decide +kernel
theorem dX12_above_33 : decode cX12_above 33 = .ok (.getfield 85, 3) := by decide +kernel
theorem dX12_above_36 : decode cX12_above 36 = .ok (.iload_n 2, 1) := by decide +kernel
theorem dX12_above_37 : decode cX12_above 37 = .ok (.iaload, 1) := by decide +kernel
theorem dX12_above_38 : decode cX12_above 38 = .ok (.iconst 2, 1) := by decide +kernel
theorem dX12_above_39 : decode cX12_above 39 = .ok (.if_icmp .ne 5, 3) := by decide +kernel
theorem dX12_above_42 : decode cX12_above 42 = .ok (.iconst (-1), 1) := by decide +kernel
theorem dX12_above_43 : decode cX12_above 43 = .ok (.ireturn, 1) := by decide +kernel
theorem dX12_above_44 : decode cX12_above 44 = .ok (.aload_n 0, 1) := by decide +kernel
theorem dX12_above_45 : decode cX12_above 45 = .ok (.aload_n 0, 1) := by decide +kernel
theorem dX12_above_46 : decode cX12_above 46 = .ok (.getfield 82, 3) := by decide +kernel
theorem dX12_above_49 : decode cX12_above 49 = .ok (.iload_n 1, 1) := by decide +kernel
theorem dX12_above_50 : decode cX12_above 50 = .ok (.iaload, 1) := by decide +kernel
theorem dX12_above_51 : decode cX12_above 51 = .ok (.aload_n 0, 1) := by decide +kernel
theorem dX12_above_52 : decode cX12_above 52 = .ok (.getfield 82, 3) := by decide +kernel
theorem dX12_above_55 : decode cX12_above 55 = .ok (.iload_n 2, 1) := by decide +kernel
theorem dX12_above_56 : decode cX12_above 56 = .ok (.iaload, 1) := by decide +kernel
theorem dX12_above_57 : decode cX12_above 57 = .ok (.iload_n 1, 1) := by decide +kernel
theorem dX12_above_58 : decode cX12_above 58 = .ok (.iload_n 2, 1) := by decide +kernel
theorem dX12_above_59 : decode cX12_above 59 = .ok (.invokevirtual 489, 3) := by decide +kernel
theorem dX12_above_62 : decode cX12_above 62 = .ok (.ifCond .eq 7, 3) := by decide +kernel
theorem dX12_above_65 : decode cX12_above 65 = .ok (.iconst 1, 1) := by decide +kernel
theorem dX12_above_66 : decode cX12_above 66 = .ok (.goto 4, 3) := by decide +kernel
theorem dX12_above_69 : decode cX12_above 69 = .ok (.iconst 0, 1) := by decide +kernel
theorem dX12_above_70 : decode cX12_above 70 = .ok (.ireturn, 1) := by decide +kernel
def fX12_above_0  (h : MS) (x1 : Int32) (x2 : Int32) : Option (Int32) :=
  oB (fX12_isOne x1 (mI h 22)) (fun r2 => if r2 = 0 then (some ((-1))) else (oB (fX12_isOne x2 (mI h 22)) (fun r5 => if r5 = 0 then (some ((-1))) else (oC (ix x1 (mlen 40)) (if (mA h 40 (Int32.toNatClampNeg x1)) = 2 then (some ((-1))) else (oC (ix x2 (mlen 40)) (if (mA h 40 (Int32.toNatClampNeg x2)) = 2 then (some ((-1))) else (oC (ix x1 (mlen 39)) (oC (ix x2 (mlen 39)) (oB (fX12_isHigher h (mA h 39 (Int32.toNatClampNeg x1)) (mA h 39 (Int32.toNatClampNeg x2)) x1 x2) (fun r14 => if r14 = 0 then (some (0)) else (some (1)))))))))))))
set_option maxHeartbeats 4000000 in
theorem wfX12_above_0 {args : Array Value} (b : Bd p s m c cX12_above 3 RX12 D aC) (hlk : meth.locks = false) (hr : meth.sig.returnType = some .int) {Z : State → Prop} (zs : Z s) (zk : ZOK Z (Rg ad)) {rz : Int32} {h : MS} {x1 : Int32} {x2 : Int32}  {H : Heap} {locs : List Loc} {ls : Array Slot} (hf : fX12_above_0 h x1 x2 = some rz) (hE : CE (EM D aC ad h) (Rg ad) s H locs) (hl : lv_has ls 3 [(0, .ref (ad 116)), (1, .int x1), (2, .int x2)]) : W p l e (RM 1 25 0 0) s m args below meth c H locs 0 0 (MQ below (PQ (EM D aC ad h) (Rg ad) (some (.int rz))) args s 0 0 (Rg ad)) (F0 m 0 ls []) := by
  unfold fX12_above_0 at hf
  refine lv_iload_n b.1 b.2.1 dX12_above_0 rfl (lv_at hl 1 rfl) ?_
  refine lv_aload_n b.1 b.2.1 dX12_above_1 rfl (lv_at hl 0 rfl) ?_
  refine gM_350 b hE dX12_above_2 ?_
  obtain ⟨r2, hc1, hf⟩ := oB_s hf
  refine k_callS0 b zs zk hE (CX12_isOne l D aC zk hc1) mc_X12_isOne (in7 216 rfl rfl) mt_X12_isOne ini_RX12 ok_X12_isOne ⟨Nat.le_of_ble_eq_true rfl, Nat.le_of_ble_eq_true rfl⟩ rfl hl.1 rfl (k_room _ (by exact Nat.le_of_ble_eq_true rfl)) ⟨Nat.le_refl _, Nat.le_refl _⟩ dX12_above_5 (fun H locs hE => ?_)
  refine lv_if_eq (tgt := 42) b.1 b.2.1 dX12_above_8 (by decide) (fun c3 => ?_) (fun c3 => ?_)
  · have hf := oI_t c3 hf
    refine lv_iconst (v := (-1)) b.1 b.2.1 dX12_above_42 (by decide) ?_
    cases hf
    exact k_iret b hlk hr hE (Nat.le_refl _) (Nat.le_refl _) dX12_above_43
  · have hf := oI_f c3 hf
    refine lv_iload_n b.1 b.2.1 dX12_above_11 rfl (lv_at hl 2 rfl) ?_
    refine lv_aload_n b.1 b.2.1 dX12_above_12 rfl (lv_at hl 0 rfl) ?_
    refine gM_350 b hE dX12_above_13 ?_
    obtain ⟨r5, hc4, hf⟩ := oB_s hf
    refine k_callS0 b zs zk hE (CX12_isOne l D aC zk hc4) mc_X12_isOne (in7 216 rfl rfl) mt_X12_isOne ini_RX12 ok_X12_isOne ⟨Nat.le_of_ble_eq_true rfl, Nat.le_of_ble_eq_true rfl⟩ rfl hl.1 rfl (k_room _ (by exact Nat.le_of_ble_eq_true rfl)) ⟨Nat.le_refl _, Nat.le_refl _⟩ dX12_above_16 (fun H locs hE => ?_)
    refine lv_if_eq (tgt := 42) b.1 b.2.1 dX12_above_19 (by decide) (fun c6 => ?_) (fun c6 => ?_)
    · have hf := oI_t c6 hf
      refine lv_iconst (v := (-1)) b.1 b.2.1 dX12_above_42 (by decide) ?_
      cases hf
      exact k_iret b hlk hr hE (Nat.le_refl _) (Nat.le_refl _) dX12_above_43
    · have hf := oI_f c6 hf
      refine lv_aload_n b.1 b.2.1 dX12_above_22 rfl (lv_at hl 0 rfl) ?_
      refine gM_85 b hE dX12_above_23 ?_
      refine lv_iload_n b.1 b.2.1 dX12_above_26 rfl (lv_at hl 1 rfl) ?_
      obtain ⟨g7, hf⟩ := oC_s hf
      refine m_iald b hE rfl rfl g7 dX12_above_27 ?_
      refine lv_iconst (v := 2) b.1 b.2.1 dX12_above_28 (by decide) ?_
      refine lv_icmp_eq (tgt := 42) b.1 b.2.1 dX12_above_29 (by decide) (fun c8 => ?_) (fun c8 => ?_)
      · have hf := oI_t c8 hf
        refine lv_iconst (v := (-1)) b.1 b.2.1 dX12_above_42 (by decide) ?_
        cases hf
        exact k_iret b hlk hr hE (Nat.le_refl _) (Nat.le_refl _) dX12_above_43
      · have hf := oI_f c8 hf
        refine lv_aload_n b.1 b.2.1 dX12_above_32 rfl (lv_at hl 0 rfl) ?_
        refine gM_85 b hE dX12_above_33 ?_
        refine lv_iload_n b.1 b.2.1 dX12_above_36 rfl (lv_at hl 2 rfl) ?_
        obtain ⟨g9, hf⟩ := oC_s hf
        refine m_iald b hE rfl rfl g9 dX12_above_37 ?_
        refine lv_iconst (v := 2) b.1 b.2.1 dX12_above_38 (by decide) ?_
        refine lv_icmp_ne (tgt := 44) b.1 b.2.1 dX12_above_39 (by decide) (fun c10 => ?_) (fun c10 => ?_)
        · have hf := oI_f c10 hf
          refine lv_aload_n b.1 b.2.1 dX12_above_44 rfl (lv_at hl 0 rfl) ?_
          refine lv_aload_n b.1 b.2.1 dX12_above_45 rfl (lv_at hl 0 rfl) ?_
          refine gM_82 b hE dX12_above_46 ?_
          refine lv_iload_n b.1 b.2.1 dX12_above_49 rfl (lv_at hl 1 rfl) ?_
          obtain ⟨g11, hf⟩ := oC_s hf
          refine m_iald b hE rfl rfl g11 dX12_above_50 ?_
          refine lv_aload_n b.1 b.2.1 dX12_above_51 rfl (lv_at hl 0 rfl) ?_
          refine gM_82 b hE dX12_above_52 ?_
          refine lv_iload_n b.1 b.2.1 dX12_above_55 rfl (lv_at hl 2 rfl) ?_
          obtain ⟨g12, hf⟩ := oC_s hf
          refine m_iald b hE rfl rfl g12 dX12_above_56 ?_
          refine lv_iload_n b.1 b.2.1 dX12_above_57 rfl (lv_at hl 1 rfl) ?_
          refine lv_iload_n b.1 b.2.1 dX12_above_58 rfl (lv_at hl 2 rfl) ?_
          obtain ⟨r14, hc13, hf⟩ := oB_s hf
          refine k_callV0 (C := RX12) b zs zk hE (CX12_isHigher l D aC ad zk hc13) mc_X12_isHigher (in7 229 rfl rfl) mi_X12_isHigher ms_X12_isHigher ini_RX12 ok_X12_isHigher (m_recv b hE) ⟨Nat.le_of_ble_eq_true rfl, Nat.le_of_ble_eq_true rfl⟩ rfl hl.1 rfl (k_room _ (by exact Nat.le_of_ble_eq_true rfl)) ⟨Nat.le_refl _, Nat.le_refl _⟩ dX12_above_59 (fun H locs hE => ?_)
          refine lv_if_eq (tgt := 69) b.1 b.2.1 dX12_above_62 (by decide) (fun c15 => ?_) (fun c15 => ?_)
          · have hf := oI_t c15 hf
            refine lv_iconst (v := 0) b.1 b.2.1 dX12_above_69 (by decide) ?_
            cases hf
            exact k_iret b hlk hr hE (Nat.le_refl _) (Nat.le_refl _) dX12_above_70
          · have hf := oI_f c15 hf
            refine lv_iconst (v := 1) b.1 b.2.1 dX12_above_65 (by decide) ?_
            refine lv_goto (tgt := 70) b.1 b.2.1 dX12_above_66 (by decide) ?_
            cases hf
            exact k_iret b hlk hr hE (Nat.le_refl _) (Nat.le_refl _) dX12_above_70
        · have hf := oI_t c10 hf
          refine lv_iconst (v := (-1)) b.1 b.2.1 dX12_above_42 (by decide) ?_
          cases hf
          exact k_iret b hlk hr hE (Nat.le_refl _) (Nat.le_refl _) dX12_above_43
def fX12_above (h : MS) (x1 : Int32) (x2 : Int32) : Option (Int32) := fX12_above_0 h x1 x2
set_option maxHeartbeats 4000000 in
theorem CX12_above (l : Launch) (D : va_G) (aC : Nat → ClassId) (ad : Nat → Nat) {Z : State → Prop} (zk : ZOK Z (Rg ad)) {h : MS} {x1 : Int32} {x2 : Int32} {rz : Int32} (hf : fX12_above h x1 x2 = some rz) : CM l D aC Z yX12_above cX12_above 3 (some .int) 1 25 0 0 (EM D aC ad h) [.ref (ad 116), .int x1, .int x2] (EM D aC ad h) (some (.int rz)) (Rg ad) := by
  refine CM.of rfl ?_
  intro p e s m below meth c b hr hlk hin2 zs hE
  refine k_ent (Nat.le_of_ble_eq_true rfl) (fun ls hl => ?_)
  exact wfX12_above_0 b hlk hr zs zk hf hE (lv_sub hl [0, 1, 2] rfl)
end
