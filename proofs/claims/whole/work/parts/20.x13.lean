section
variable {p : Program} {l : Launch} {e : Env} {s : State} {m : MethodId} {below : List Frame} {meth : Method} {c : Code} {D : va_G} {aC : Nat → ClassId} {ad : Nat → Nat}
theorem dX6_holds_0 : decode cX6_holds 0 = .ok (.aload_n 1, 1) := by decide +kernel
theorem dX6_holds_1 : decode cX6_holds 1 = .ok (.getfield 74, 3) := by decide +kernel
theorem dX6_holds_4 : decode cX6_holds 4 = .ok (.lookupswitch 78 #[(314, 28), (315, 53)], 28) := by decide +kernel
theorem dX6_holds_32 : decode cX6_holds 32 = .ok (.aload_n 0, 1) := by decide +kernel
theorem dX6_holds_33 : decode cX6_holds 33 = .ok (.aload_n 1, 1) := by decide +kernel
theorem dX6_holds_34 : decode cX6_holds 34 = .ok (.getfield 58, 3) := by decide +kernel
theorem dX6_holds_37 : decode cX6_holds 37 = .ok (.invokevirtual 61, 3) := by decide +kernel
theorem dX6_holds_40 : decode cX6_holds 40 = .ok (.aload_n 0, 1) := by decide +kernel
theorem dX6_holds_41 : decode cX6_holds 41 = .ok (.aload_n 1, 1) := by decide +kernel
theorem dX6_holds_42 : decode cX6_holds 42 = .ok (.getfield 65, 3) := by decide +kernel
theorem dX6_holds_45 : decode cX6_holds 45 = .ok (.invokevirtual 61, 3) := by decide +kernel
theorem dX6_holds_48 : decode cX6_holds 48 = .ok (.if_icmp .ne 7, 3) := by decide +kernel
theorem dX6_holds_51 : decode cX6_holds 51 = .ok (.iconst 1, 1) := by decide +kernel
theorem dX6_holds_52 : decode cX6_holds 52 = .ok (.goto 4, 3) := by decide +kernel
theorem dX6_holds_55 : decode cX6_holds 55 = .ok (.iconst 0, 1) := by decide +kernel
theorem dX6_holds_56 : decode cX6_holds 56 = .ok (.ireturn, 1) := by decide +kernel
theorem dX6_holds_57 : decode cX6_holds 57 = .ok (.aload_n 0, 1) := by decide +kernel
theorem dX6_holds_58 : decode cX6_holds 58 = .ok (.aload_n 1, 1) := by decide +kernel
theorem dX6_holds_59 : decode cX6_holds 59 = .ok (.getfield 58, 3) := by decide +kernel
theorem dX6_holds_62 : decode cX6_holds 62 = .ok (.invokevirtual 61, 3) := by decide +kernel
theorem dX6_holds_65 : decode cX6_holds 65 = .ok (.aload_n 0, 1) := by decide +kernel
theorem dX6_holds_66 : decode cX6_holds 66 = .ok (.aload_n 1, 1) := by decide +kernel
theorem dX6_holds_67 : decode cX6_holds 67 = .ok (.getfield 65, 3) := by decide +kernel
theorem dX6_holds_70 : decode cX6_holds 70 = .ok (.invokevirtual 61, 3) := by decide +kernel
theorem dX6_holds_73 : decode cX6_holds 73 = .ok (.if_icmp .eq 7, 3) := by decide +kernel
theorem dX6_holds_76 : decode cX6_holds 76 = .ok (.iconst 1, 1) := by decide +kernel
theorem dX6_holds_77 : decode cX6_holds 77 = .ok (.goto 4, 3) := by decide +kernel
theorem dX6_holds_80 : decode cX6_holds 80 = .ok (.iconst 0, 1) := by decide +kernel
theorem dX6_holds_81 : decode cX6_holds 81 = .ok (.ireturn, 1) := by decide +kernel
theorem dX6_holds_82 : decode cX6_holds 82 = .ok (.aload_n 0, 1) := by decide +kernel
theorem dX6_holds_83 : decode cX6_holds 83 = .ok (.getfield 22, 3) := by decide +kernel
theorem dX6_holds_86 : decode cX6_holds 86 = .ok (.aload_n 0, 1) := by decide +kernel
theorem dX6_holds_87 : decode cX6_holds 87 = .ok (.aload_n 1, 1) := by decide +kernel
theorem dX6_holds_88 : decode cX6_holds 88 = .ok (.getfield 77, 3) := by decide +kernel
theorem dX6_holds_91 : decode cX6_holds 91 = .ok (.aload_n 1, 1) := by decide +kernel
theorem dX6_holds_92 : decode cX6_holds 92 = .ok (.getfield 80, 3) := by decide +kernel
theorem dX6_holds_95 : decode cX6_holds 95 = .ok (.invokevirtual 83, 3) := by decide +kernel
theorem dX6_holds_98 : decode cX6_holds 98 = .ok (.invokevirtual 87, 3) := by decide +kernel
theorem dX6_holds_101 : decode cX6_holds 101 = .ok (.aload_n 0, 1) := by decide +kernel
theorem dX6_holds_102 : decode cX6_holds 102 = .ok (.aload_n 1, 1) := by decide +kernel
theorem dX6_holds_103 : decode cX6_holds 103 = .ok (.getfield 80, 3) := by decide +kernel
theorem dX6_holds_106 : decode cX6_holds 106 = .ok (.aload_n 1, 1) := by decide +kernel
theorem dX6_holds_107 : decode cX6_holds 107 = .ok (.getfield 91, 3) := by decide +kernel
theorem dX6_holds_110 : decode cX6_holds 110 = .ok (.invokevirtual 83, 3) := by decide +kernel
theorem dX6_holds_113 : decode cX6_holds 113 = .ok (.astore_n 2, 1) := by decide +kernel
theorem dX6_holds_114 : decode cX6_holds 114 = .ok (.aload_n 0, 1) := by decide +kernel
theorem dX6_holds_115 : decode cX6_holds 115 = .ok (.getfield 22, 3) := by decide +kernel
theorem dX6_holds_118 : decode cX6_holds 118 = .ok (.getfield 94, 3) := by decide +kernel
theorem dX6_holds_121 : decode cX6_holds 121 = .ok (.ifCond .ne 10, 3) := by decide +kernel
theorem dX6_holds_124 : decode cX6_holds 124 = .ok (.aload_n 2, 1) := by decide +kernel
theorem dX6_holds_125 : decode cX6_holds 125 = .ok (.getfield 94, 3) := by decide +kernel
theorem dX6_holds_128 : decode cX6_holds 128 = .ok (.ifCond .eq 5, 3) := by decide +kernel
theorem dX6_holds_131 : decode cX6_holds 131 = .ok (.iconst 0, 1) := by decide +kernel
theorem dX6_holds_132 : decode cX6_holds 132 = .ok (.ireturn, 1) := by decide +kernel
theorem dX6_holds_133 : decode cX6_holds 133 = .ok (.aload_n 0, 1) := by decide +kernel
theorem dX6_holds_134 : decode cX6_holds 134 = .ok (.getfield 22, 3) := by decide +kernel
theorem dX6_holds_137 : decode cX6_holds 137 = .ok (.aload_n 2, 1) := by decide +kernel
theorem dX6_holds_138 : decode cX6_holds 138 = .ok (.invokevirtual 97, 3) := by decide +kernel
theorem dX6_holds_141 : decode cX6_holds 141 = .ok (.istore_n 3, 1) := by decide +kernel
theorem dX6_holds_142 : decode cX6_holds 142 = .ok (.aload_n 1, 1) := by decide +kernel
theorem dX6_holds_143 : decode cX6_holds 143 = .ok (.getfield 74, 3) := by decide +kernel
theorem dX6_holds_146 : decode cX6_holds 146 = .ok (.lookupswitch 64 #[(60, 54), (257, 34), (258, 44)], 34) := by decide +kernel
theorem dX6_holds_180 : decode cX6_holds 180 = .ok (.iload_n 3, 1) := by decide +kernel
theorem dX6_holds_181 : decode cX6_holds 181 = .ok (.ifCond .ne 7, 3) := by decide +kernel
theorem dX6_holds_184 : decode cX6_holds 184 = .ok (.iconst 1, 1) := by decide +kernel
theorem dX6_holds_185 : decode cX6_holds 185 = .ok (.goto 4, 3) := by decide +kernel
theorem dX6_holds_188 : decode cX6_holds 188 = .ok (.iconst 0, 1) := by decide +kernel
theorem dX6_holds_189 : decode cX6_holds 189 = .ok (.ireturn, 1) := by decide +kernel
theorem dX6_holds_190 : decode cX6_holds 190 = .ok (.iload_n 3, 1) := by decide +kernel
theorem dX6_holds_191 : decode cX6_holds 191 = .ok (.ifCond .eq 7, 3) := by decide +kernel
theorem dX6_holds_194 : decode cX6_holds 194 = .ok (.iconst 1, 1) := by decide +kernel
theorem dX6_holds_195 : decode cX6_holds 195 = .ok (.goto 4, 3) := by decide +kernel
theorem dX6_holds_198 : decode cX6_holds 198 = .ok (.iconst 0, 1) := by decide +kernel
theorem dX6_holds_199 : decode cX6_holds 199 = .ok (.ireturn, 1) := by decide +kernel
theorem dX6_holds_200 : decode cX6_holds 200 = .ok (.iload_n 3, 1) := by decide +kernel
theorem dX6_holds_201 : decode cX6_holds 201 = .ok (.ifCond .ge 7, 3) := by decide +kernel
theorem dX6_holds_204 : decode cX6_holds 204 = .ok (.iconst 1, 1) := by decide +kernel
theorem dX6_holds_205 : decode cX6_holds 205 = .ok (.goto 4, 3) := by decide +kernel
theorem dX6_holds_208 : decode cX6_holds 208 = .ok (.iconst 0, 1) := by decide +kernel
theorem dX6_holds_209 : decode cX6_holds 209 = .ok (.ireturn, 1) := by decide +kernel
theorem dX6_holds_210 : decode cX6_holds 210 = .ok (.iload_n 3, 1) := by decide +kernel
theorem dX6_holds_211 : decode cX6_holds 211 = .ok (.ifCond .gt 7, 3) := by decide +kernel
theorem dX6_holds_214 : decode cX6_holds 214 = .ok (.iconst 1, 1) := by decide +kernel
theorem dX6_holds_215 : decode cX6_holds 215 = .ok (.goto 4, 3) := by decide +kernel
theorem dX6_holds_218 : decode cX6_holds 218 = .ok (.iconst 0, 1) := by decide +kernel
theorem dX6_holds_219 : decode cX6_holds 219 = .ok (.ireturn, 1) := by decide +kernel
def fX6_holds_0  (h : PH) (x0 : Nat) (x1 : Option Nat) : Option (PH × Int32) :=
  oN x1 (fun a1 => oC (decide (hT h a1 = 3)) (oL (hI h 256 a1) (fun y3 => if y3 = 314 then (oC (decide (hT h x0 = 7)) (oB (fX6_personOf h x0 (hI h 259 a1)) (fun r7 => oB (fX6_personOf h x0 (hI h 260 a1)) (fun r9 => if r7 = r9 then (some (h, 1)) else (some (h, 0)))))) else (if y3 = 315 then (oC (decide (hT h x0 = 7)) (oB (fX6_personOf h x0 (hI h 259 a1)) (fun r14 => oB (fX6_personOf h x0 (hI h 260 a1)) (fun r16 => if r14 = r16 then (some (h, 0)) else (some (h, 1)))))) else (oC (decide (hT h x0 = 7)) (oB2 (fX6_work h x0 (hI h 261 a1) (hI h 262 a1)) (fun h21 r20 => oN (hR h 771 x0) (fun a22 => oC (decide (hT h21 a22 = 4)) (oB (fX3_copy h21 a22 r20) (fun h25 => oC (decide (hT h25 a1 = 3)) (oC (decide (hT h25 x0 = 7)) (oB2 (fX6_work h25 x0 (hI h25 262 a1) (hI h25 263 a1)) (fun h30 r29 => oC (decide (hT h30 x0 = 7)) (oN (hR h30 771 x0) (fun a32 => oC (decide (hT h30 a32 = 4)) (if (hI h30 386 a32) = 0 then (oN r29 (fun a35 => oC (decide (hT h30 a35 = 4)) (if (hI h30 386 a35) = 0 then (oB (fX3_against h30 a32 r29) (fun r39 => oC (decide (hT h30 a1 = 3)) (oL (hI h30 256 a1) (fun y41 => if y41 = 60 then (if 0 ≤ r39 then (some (h30, 0)) else (some (h30, 1))) else (if y41 = 257 then (if r39 = 0 then (some (h30, 1)) else (some (h30, 0))) else (if y41 = 258 then (if r39 = 0 then (some (h30, 0)) else (some (h30, 1))) else (if 0 < r39 then (some (h30, 0)) else (some (h30, 1))))))))) else (some (h30, 0))))) else (some (h30, 0))))))))))))))))))
set_option maxHeartbeats 4000000 in
theorem wfX6_holds_0 {args : Array Value} (b : Bd p s m c cX6_holds 4 RX6 D aC) (hlk : meth.locks = false) (hr : meth.sig.returnType = some .boolean) {Z : State → Prop} (zs : Z s) (zk : ZOK Z (Rg ad)) {hz : PH} {rz : Int32} {h : PH} {x0 : Nat} {x1 : Option Nat}  {H : Heap} {locs : List Loc} {ls : Array Slot} (hf : fX6_holds_0 h x0 x1 = some (hz, rz)) (hE : CE (EX D aC ad h) (Rg ad) s H locs) (hl : lv_has ls 4 [(0, .ref (ad x0)), (1, va_rf (Option.map ad x1))]) : W p l e (RM 5 130 0 0) s m args below meth c H locs 0 0 (MQ below (PQ (EX D aC ad hz) (Rg ad) (some (.int rz))) args s 0 0 (Rg ad)) (F0 m 0 ls []) := by
  unfold fX6_holds_0 at hf
  refine k_aload_n (x := Option.map ad x1) b dX6_holds_0 rfl (lv_at hl 1 rfl) ?_
  obtain ⟨a1, ea1, hf⟩ := oN_s hf
  obtain ⟨t2, hf⟩ := oC_s hf
  have t2 := of_decide_eq_true t2
  refine gX6_74 (x := x1) b hE ea1 t2 dX6_holds_1 ?_
  obtain ⟨y3, ey3, hf⟩ := oL_s hf
  refine k_nmI ey3 ?_
  rcases Decidable.em (y3 = 314) with c4 | c4
  · have hf := oI_t c4 hf
    refine lv_lookup (tgt := 32) (off := 28) b.1 b.2.1 dX6_holds_4 (by decide) (by rw [c4] <;> rfl) (by decide) ?_
    refine lv_aload_n b.1 b.2.1 dX6_holds_32 rfl (lv_at hl 0 rfl) ?_
    refine k_aload_n (x := Option.map ad x1) b dX6_holds_33 rfl (lv_at hl 1 rfl) ?_
    refine gX6_58 (x := x1) b hE ea1 t2 dX6_holds_34 ?_
    obtain ⟨t5, hf⟩ := oC_s hf
    have t5 := of_decide_eq_true t5
    obtain ⟨r7, hc6, hf⟩ := oB_s hf
    refine k_callV0 (C := RX6) b zs zk hE (CX6_personOf l D aC ad zk hc6) mc_X6_personOf (in4 204 rfl rfl) mi_X6_personOf ms_X6_personOf ini_RX6 ok_X6_personOf (x_recv b hE (ci := 6) rfl (by decide) t5) ⟨Nat.le_of_ble_eq_true rfl, Nat.le_of_ble_eq_true rfl⟩ rfl hl.1 rfl (k_room _ (by exact Nat.le_of_ble_eq_true rfl)) ⟨Nat.le_refl _, Nat.le_refl _⟩ dX6_holds_37 (fun H locs hE => ?_)
    refine lv_aload_n b.1 b.2.1 dX6_holds_40 rfl (lv_at hl 0 rfl) ?_
    refine k_aload_n (x := Option.map ad x1) b dX6_holds_41 rfl (lv_at hl 1 rfl) ?_
    refine gX6_65 (x := x1) b hE ea1 t2 dX6_holds_42 ?_
    obtain ⟨r9, hc8, hf⟩ := oB_s hf
    refine k_callV0 (C := RX6) b zs zk hE (CX6_personOf l D aC ad zk hc8) mc_X6_personOf (in4 204 rfl rfl) mi_X6_personOf ms_X6_personOf ini_RX6 ok_X6_personOf (x_recv b hE (ci := 6) rfl (by decide) t5) ⟨Nat.le_of_ble_eq_true rfl, Nat.le_of_ble_eq_true rfl⟩ rfl hl.1 rfl (k_room _ (by exact Nat.le_of_ble_eq_true rfl)) ⟨Nat.le_refl _, Nat.le_refl _⟩ dX6_holds_45 (fun H locs hE => ?_)
    refine lv_icmp_ne (tgt := 55) b.1 b.2.1 dX6_holds_48 (by decide) (fun c10 => ?_) (fun c10 => ?_)
    · have hf := oI_f c10 hf
      refine lv_iconst (v := 0) b.1 b.2.1 dX6_holds_55 (by decide) ?_
      cases hf
      exact k_zret b hlk hr (by decide) hE (Nat.le_refl _) (Nat.le_refl _) dX6_holds_56
    · have hf := oI_t c10 hf
      refine lv_iconst (v := 1) b.1 b.2.1 dX6_holds_51 (by decide) ?_
      refine lv_goto (tgt := 56) b.1 b.2.1 dX6_holds_52 (by decide) ?_
      cases hf
      exact k_zret b hlk hr (by decide) hE (Nat.le_refl _) (Nat.le_refl _) dX6_holds_56
  have hf := oI_f c4 hf
  rcases Decidable.em (y3 = 315) with c11 | c11
  · have hf := oI_t c11 hf
    refine lv_lookup (tgt := 57) (off := 53) b.1 b.2.1 dX6_holds_4 (by decide) (by rw [c11] <;> rfl) (by decide) ?_
    refine lv_aload_n b.1 b.2.1 dX6_holds_57 rfl (lv_at hl 0 rfl) ?_
    refine k_aload_n (x := Option.map ad x1) b dX6_holds_58 rfl (lv_at hl 1 rfl) ?_
    refine gX6_58 (x := x1) b hE ea1 t2 dX6_holds_59 ?_
    obtain ⟨t12, hf⟩ := oC_s hf
    have t12 := of_decide_eq_true t12
    obtain ⟨r14, hc13, hf⟩ := oB_s hf
    refine k_callV0 (C := RX6) b zs zk hE (CX6_personOf l D aC ad zk hc13) mc_X6_personOf (in4 204 rfl rfl) mi_X6_personOf ms_X6_personOf ini_RX6 ok_X6_personOf (x_recv b hE (ci := 6) rfl (by decide) t12) ⟨Nat.le_of_ble_eq_true rfl, Nat.le_of_ble_eq_true rfl⟩ rfl hl.1 rfl (k_room _ (by exact Nat.le_of_ble_eq_true rfl)) ⟨Nat.le_refl _, Nat.le_refl _⟩ dX6_holds_62 (fun H locs hE => ?_)
    refine lv_aload_n b.1 b.2.1 dX6_holds_65 rfl (lv_at hl 0 rfl) ?_
    refine k_aload_n (x := Option.map ad x1) b dX6_holds_66 rfl (lv_at hl 1 rfl) ?_
    refine gX6_65 (x := x1) b hE ea1 t2 dX6_holds_67 ?_
    obtain ⟨r16, hc15, hf⟩ := oB_s hf
    refine k_callV0 (C := RX6) b zs zk hE (CX6_personOf l D aC ad zk hc15) mc_X6_personOf (in4 204 rfl rfl) mi_X6_personOf ms_X6_personOf ini_RX6 ok_X6_personOf (x_recv b hE (ci := 6) rfl (by decide) t12) ⟨Nat.le_of_ble_eq_true rfl, Nat.le_of_ble_eq_true rfl⟩ rfl hl.1 rfl (k_room _ (by exact Nat.le_of_ble_eq_true rfl)) ⟨Nat.le_refl _, Nat.le_refl _⟩ dX6_holds_70 (fun H locs hE => ?_)
    refine lv_icmp_eq (tgt := 80) b.1 b.2.1 dX6_holds_73 (by decide) (fun c17 => ?_) (fun c17 => ?_)
    · have hf := oI_t c17 hf
      refine lv_iconst (v := 0) b.1 b.2.1 dX6_holds_80 (by decide) ?_
      cases hf
      exact k_zret b hlk hr (by decide) hE (Nat.le_refl _) (Nat.le_refl _) dX6_holds_81
    · have hf := oI_f c17 hf
      refine lv_iconst (v := 1) b.1 b.2.1 dX6_holds_76 (by decide) ?_
      refine lv_goto (tgt := 81) b.1 b.2.1 dX6_holds_77 (by decide) ?_
      cases hf
      exact k_zret b hlk hr (by decide) hE (Nat.le_refl _) (Nat.le_refl _) dX6_holds_81
  have hf := oI_f c11 hf
  refine lv_lookup (tgt := 82) (off := 78) b.1 b.2.1 dX6_holds_4 (by decide) (by rw [lv_osw c4 (by decide), lv_osw c11 (by decide)] <;> rfl) (by decide) ?_
  refine lv_aload_n b.1 b.2.1 dX6_holds_82 rfl (lv_at hl 0 rfl) ?_
  obtain ⟨t18, hf⟩ := oC_s hf
  have t18 := of_decide_eq_true t18
  refine gX6_22 (x := (some x0)) b hE rfl t18 dX6_holds_83 ?_
  refine lv_aload_n b.1 b.2.1 dX6_holds_86 rfl (lv_at hl 0 rfl) ?_
  refine k_aload_n (x := Option.map ad x1) b dX6_holds_87 rfl (lv_at hl 1 rfl) ?_
  refine gX6_77 (x := x1) b hE ea1 t2 dX6_holds_88 ?_
  refine k_aload_n (x := Option.map ad x1) b dX6_holds_91 rfl (lv_at hl 1 rfl) ?_
  refine gX6_80 (x := x1) b hE ea1 t2 dX6_holds_92 ?_
  obtain ⟨h21, r20, hc19, hf⟩ := oB2_s hf
  refine k_callV0 (C := RX6) b zs zk hE (CX6_work l D aC ad zk hc19) mc_X6_work (in4 208 rfl rfl) mi_X6_work ms_X6_work ini_RX6 ok_X6_work (x_recv b hE (ci := 6) rfl (by decide) t18) ⟨Nat.le_of_ble_eq_true rfl, Nat.le_of_ble_eq_true rfl⟩ rfl hl.1 rfl (k_room _ (by exact Nat.le_of_ble_eq_true rfl)) ⟨Nat.le_refl _, Nat.le_refl _⟩ dX6_holds_95 (fun H locs hE => ?_)
  obtain ⟨a22, ea22, hf⟩ := oN_s hf
  obtain ⟨t23, hf⟩ := oC_s hf
  have t23 := of_decide_eq_true t23
  obtain ⟨h25, hc24, hf⟩ := oB_s hf
  refine k_stk [va_rf (Option.map ad r20)] ea22 ?_
  refine k_callV0 (C := RX3) b zs zk hE (CX3_copy l D aC ad zk hc24) mc_X3_copy (in5 2 rfl rfl) mi_X3_copy ms_X3_copy ini_RX3 ok_X3_copy (x_recv b hE (ci := 3) rfl (by decide) t23) ⟨Nat.le_of_ble_eq_true rfl, Nat.le_of_ble_eq_true rfl⟩ rfl hl.1 rfl (k_room _ (by exact Nat.le_of_ble_eq_true rfl)) ⟨Nat.le_refl _, Nat.le_refl _⟩ dX6_holds_98 (fun H locs hE => ?_)
  refine lv_aload_n b.1 b.2.1 dX6_holds_101 rfl (lv_at hl 0 rfl) ?_
  refine k_aload_n (x := Option.map ad x1) b dX6_holds_102 rfl (lv_at hl 1 rfl) ?_
  obtain ⟨t26, hf⟩ := oC_s hf
  have t26 := of_decide_eq_true t26
  refine gX6_80 (x := x1) b hE ea1 t26 dX6_holds_103 ?_
  refine k_aload_n (x := Option.map ad x1) b dX6_holds_106 rfl (lv_at hl 1 rfl) ?_
  refine gX6_91 (x := x1) b hE ea1 t26 dX6_holds_107 ?_
  obtain ⟨t27, hf⟩ := oC_s hf
  have t27 := of_decide_eq_true t27
  obtain ⟨h30, r29, hc28, hf⟩ := oB2_s hf
  refine k_callV0 (C := RX6) b zs zk hE (CX6_work l D aC ad zk hc28) mc_X6_work (in4 208 rfl rfl) mi_X6_work ms_X6_work ini_RX6 ok_X6_work (x_recv b hE (ci := 6) rfl (by decide) t27) ⟨Nat.le_of_ble_eq_true rfl, Nat.le_of_ble_eq_true rfl⟩ rfl hl.1 rfl (k_room _ (by exact Nat.le_of_ble_eq_true rfl)) ⟨Nat.le_refl _, Nat.le_refl _⟩ dX6_holds_110 (fun H locs hE => ?_)
  refine k_astore_n (x := Option.map ad r29) (lv' := [(2, va_rf (Option.map ad r29)), (0, .ref (ad x0)), (1, va_rf (Option.map ad x1))]) b dX6_holds_113 rfl hl (by decide) (by cases x1 <;> rfl) (fun ls hl => ?_)
  refine lv_aload_n b.1 b.2.1 dX6_holds_114 rfl (lv_at hl 1 rfl) ?_
  obtain ⟨t31, hf⟩ := oC_s hf
  have t31 := of_decide_eq_true t31
  refine gX6_22 (x := (some x0)) b hE rfl t31 dX6_holds_115 ?_
  obtain ⟨a32, ea32, hf⟩ := oN_s hf
  obtain ⟨t33, hf⟩ := oC_s hf
  have t33 := of_decide_eq_true t33
  refine gX6_94 (x := (hR h30 771 x0)) b hE ea32 t33 dX6_holds_118 ?_
  refine lv_if_ne (tgt := 131) b.1 b.2.1 dX6_holds_121 (by decide) (fun c34 => ?_) (fun c34 => ?_)
  · have hf := oI_f c34 hf
    refine lv_iconst (v := 0) b.1 b.2.1 dX6_holds_131 (by decide) ?_
    cases hf
    exact k_zret b hlk hr (by decide) hE (Nat.le_refl _) (Nat.le_refl _) dX6_holds_132
  · have hf := oI_t c34 hf
    refine k_aload_n (x := Option.map ad r29) b dX6_holds_124 rfl (lv_at hl 0 rfl) ?_
    obtain ⟨a35, ea35, hf⟩ := oN_s hf
    obtain ⟨t36, hf⟩ := oC_s hf
    have t36 := of_decide_eq_true t36
    refine gX6_94 (x := r29) b hE ea35 t36 dX6_holds_125 ?_
    refine lv_if_eq (tgt := 133) b.1 b.2.1 dX6_holds_128 (by decide) (fun c37 => ?_) (fun c37 => ?_)
    · have hf := oI_t c37 hf
      refine lv_aload_n b.1 b.2.1 dX6_holds_133 rfl (lv_at hl 1 rfl) ?_
      refine gX6_22 (x := (some x0)) b hE rfl t31 dX6_holds_134 ?_
      refine k_aload_n (x := Option.map ad r29) b dX6_holds_137 rfl (lv_at hl 0 rfl) ?_
      obtain ⟨r39, hc38, hf⟩ := oB_s hf
      refine k_stk [va_rf (Option.map ad r29)] ea32 ?_
      refine k_callV0 (C := RX3) b zs zk hE (CX3_against l D aC ad zk hc38) mc_X3_against (in5 6 rfl rfl) mi_X3_against ms_X3_against ini_RX3 ok_X3_against (x_recv b hE (ci := 3) rfl (by decide) t33) ⟨Nat.le_of_ble_eq_true rfl, Nat.le_of_ble_eq_true rfl⟩ rfl hl.1 rfl (k_room _ (by exact Nat.le_of_ble_eq_true rfl)) ⟨Nat.le_refl _, Nat.le_refl _⟩ dX6_holds_138 (fun H locs hE => ?_)
      refine lv_istore_n (lv' := [(3, .int r39), (2, va_rf (Option.map ad r29)), (0, .ref (ad x0)), (1, va_rf (Option.map ad x1))]) b.1 b.2.1 dX6_holds_141 rfl hl (by decide) (by cases r29 <;> rfl) (fun ls hl => ?_)
      have hl := lv_sub (l' := [(3, .int r39), (1, va_rf (Option.map ad x1))]) hl [0, 3] rfl
      refine k_aload_n (x := Option.map ad x1) b dX6_holds_142 rfl (lv_at hl 1 rfl) ?_
      obtain ⟨t40, hf⟩ := oC_s hf
      have t40 := of_decide_eq_true t40
      refine gX6_74 (x := x1) b hE ea1 t40 dX6_holds_143 ?_
      obtain ⟨y41, ey41, hf⟩ := oL_s hf
      refine k_nmI ey41 ?_
      rcases Decidable.em (y41 = 60) with c42 | c42
      · have hf := oI_t c42 hf
        refine lv_lookup (tgt := 200) (off := 54) b.1 b.2.1 dX6_holds_146 (by decide) (by rw [c42] <;> rfl) (by decide) ?_
        refine lv_iload_n b.1 b.2.1 dX6_holds_200 rfl (lv_at hl 0 rfl) ?_
        refine lv_if_ge (tgt := 208) b.1 b.2.1 dX6_holds_201 (by decide) (fun c43 => ?_) (fun c43 => ?_)
        · have hf := oI_t c43 hf
          refine lv_iconst (v := 0) b.1 b.2.1 dX6_holds_208 (by decide) ?_
          cases hf
          exact k_zret b hlk hr (by decide) hE (Nat.le_refl _) (Nat.le_refl _) dX6_holds_209
        · have hf := oI_f c43 hf
          refine lv_iconst (v := 1) b.1 b.2.1 dX6_holds_204 (by decide) ?_
          refine lv_goto (tgt := 209) b.1 b.2.1 dX6_holds_205 (by decide) ?_
          cases hf
          exact k_zret b hlk hr (by decide) hE (Nat.le_refl _) (Nat.le_refl _) dX6_holds_209
      have hf := oI_f c42 hf
      rcases Decidable.em (y41 = 257) with c44 | c44
      · have hf := oI_t c44 hf
        refine lv_lookup (tgt := 180) (off := 34) b.1 b.2.1 dX6_holds_146 (by decide) (by rw [c44] <;> rfl) (by decide) ?_
        refine lv_iload_n b.1 b.2.1 dX6_holds_180 rfl (lv_at hl 0 rfl) ?_
        refine lv_if_ne (tgt := 188) b.1 b.2.1 dX6_holds_181 (by decide) (fun c45 => ?_) (fun c45 => ?_)
        · have hf := oI_f c45 hf
          refine lv_iconst (v := 0) b.1 b.2.1 dX6_holds_188 (by decide) ?_
          cases hf
          exact k_zret b hlk hr (by decide) hE (Nat.le_refl _) (Nat.le_refl _) dX6_holds_189
        · have hf := oI_t c45 hf
          refine lv_iconst (v := 1) b.1 b.2.1 dX6_holds_184 (by decide) ?_
          refine lv_goto (tgt := 189) b.1 b.2.1 dX6_holds_185 (by decide) ?_
          cases hf
          exact k_zret b hlk hr (by decide) hE (Nat.le_refl _) (Nat.le_refl _) dX6_holds_189
      have hf := oI_f c44 hf
      rcases Decidable.em (y41 = 258) with c46 | c46
      · have hf := oI_t c46 hf
        refine lv_lookup (tgt := 190) (off := 44) b.1 b.2.1 dX6_holds_146 (by decide) (by rw [c46] <;> rfl) (by decide) ?_
        refine lv_iload_n b.1 b.2.1 dX6_holds_190 rfl (lv_at hl 0 rfl) ?_
        refine lv_if_eq (tgt := 198) b.1 b.2.1 dX6_holds_191 (by decide) (fun c47 => ?_) (fun c47 => ?_)
        · have hf := oI_t c47 hf
          refine lv_iconst (v := 0) b.1 b.2.1 dX6_holds_198 (by decide) ?_
          cases hf
          exact k_zret b hlk hr (by decide) hE (Nat.le_refl _) (Nat.le_refl _) dX6_holds_199
        · have hf := oI_f c47 hf
          refine lv_iconst (v := 1) b.1 b.2.1 dX6_holds_194 (by decide) ?_
          refine lv_goto (tgt := 199) b.1 b.2.1 dX6_holds_195 (by decide) ?_
          cases hf
          exact k_zret b hlk hr (by decide) hE (Nat.le_refl _) (Nat.le_refl _) dX6_holds_199
      have hf := oI_f c46 hf
      refine lv_lookup (tgt := 210) (off := 64) b.1 b.2.1 dX6_holds_146 (by decide) (by rw [lv_osw c42 (by decide), lv_osw c44 (by decide), lv_osw c46 (by decide)] <;> rfl) (by decide) ?_
      refine lv_iload_n b.1 b.2.1 dX6_holds_210 rfl (lv_at hl 0 rfl) ?_
      refine lv_if_gt (tgt := 218) b.1 b.2.1 dX6_holds_211 (by decide) (fun c48 => ?_) (fun c48 => ?_)
      · have hf := oI_t c48 hf
        refine lv_iconst (v := 0) b.1 b.2.1 dX6_holds_218 (by decide) ?_
        cases hf
        exact k_zret b hlk hr (by decide) hE (Nat.le_refl _) (Nat.le_refl _) dX6_holds_219
      · have hf := oI_f c48 hf
        refine lv_iconst (v := 1) b.1 b.2.1 dX6_holds_214 (by decide) ?_
        refine lv_goto (tgt := 219) b.1 b.2.1 dX6_holds_215 (by decide) ?_
        cases hf
        exact k_zret b hlk hr (by decide) hE (Nat.le_refl _) (Nat.le_refl _) dX6_holds_219
    · have hf := oI_f c37 hf
      refine lv_iconst (v := 0) b.1 b.2.1 dX6_holds_131 (by decide) ?_
      cases hf
      exact k_zret b hlk hr (by decide) hE (Nat.le_refl _) (Nat.le_refl _) dX6_holds_132
def fX6_holds (h : PH) (x0 : Nat) (x1 : Option Nat) : Option (PH × Int32) := fX6_holds_0 h x0 x1
set_option maxHeartbeats 4000000 in
theorem CX6_holds (l : Launch) (D : va_G) (aC : Nat → ClassId) (ad : Nat → Nat) {Z : State → Prop} (zk : ZOK Z (Rg ad)) {h : PH} {x0 : Nat} {x1 : Option Nat} {hz : PH} {rz : Int32} (hf : fX6_holds h x0 x1 = some (hz, rz)) : CM l D aC Z yX6_holds cX6_holds 4 (some .boolean) 5 130 0 0 (EX D aC ad h) [.ref (ad x0), va_rf (Option.map ad x1)] (EX D aC ad hz) (some (.int rz)) (Rg ad) := by
  refine CM.of rfl ?_
  intro p e s m below meth c b hr hlk hin2 zs hE
  cases x1 <;> (
    refine k_ent (Nat.le_of_ble_eq_true rfl) (fun ls hl => ?_)
    exact wfX6_holds_0 b hlk hr zs zk hf hE (lv_sub hl [0, 1] rfl))
theorem dX5_plainConditionsHold_0 : decode cX5_plainConditionsHold 0 = .ok (.iconst 0, 1) := by decide +kernel
theorem dX5_plainConditionsHold_1 : decode cX5_plainConditionsHold 1 = .ok (.istore_n 2, 1) := by decide +kernel
theorem dX5_plainConditionsHold_2 : decode cX5_plainConditionsHold 2 = .ok (.iload_n 2, 1) := by decide +kernel
theorem dX5_plainConditionsHold_3 : decode cX5_plainConditionsHold 3 = .ok (.aload_n 1, 1) := by decide +kernel
theorem dX5_plainConditionsHold_4 : decode cX5_plainConditionsHold 4 = .ok (.getfield 248, 3) := by decide +kernel
theorem dX5_plainConditionsHold_7 : decode cX5_plainConditionsHold 7 = .ok (.if_icmp .ge 43, 3) := by decide +kernel
theorem dX5_plainConditionsHold_10 : decode cX5_plainConditionsHold 10 = .ok (.aload_n 1, 1) := by decide +kernel
theorem dX5_plainConditionsHold_11 : decode cX5_plainConditionsHold 11 = .ok (.getfield 249, 3) := by decide +kernel
theorem dX5_plainConditionsHold_14 : decode cX5_plainConditionsHold 14 = .ok (.iload_n 2, 1) := by decide +kernel
theorem dX5_plainConditionsHold_15 : decode cX5_plainConditionsHold 15 = .ok (.aaload, 1) := by decide +kernel
theorem dX5_plainConditionsHold_16 : decode cX5_plainConditionsHold 16 = .ok (.astore_n 3, 1) := by decide +kernel
theorem dX5_plainConditionsHold_17 : decode cX5_plainConditionsHold 17 = .ok (.aload_n 3, 1) := by decide +kernel
theorem dX5_plainConditionsHold_18 : decode cX5_plainConditionsHold 18 = .ok (.ifnull 26, 3) := by decide +kernel
theorem dX5_plainConditionsHold_21 : decode cX5_plainConditionsHold 21 = .ok (.aload_n 3, 1) := by decide +kernel
theorem dX5_plainConditionsHold_22 : decode cX5_plainConditionsHold 22 = .ok (.getfield 253, 3) := by decide +kernel
theorem dX5_plainConditionsHold_25 : decode cX5_plainConditionsHold 25 = .ok (.sipush 260, 3) := by decide +kernel
theorem dX5_plainConditionsHold_28 : decode cX5_plainConditionsHold 28 = .ok (.if_icmp .eq 16, 3) := by decide +kernel
theorem dX5_plainConditionsHold_31 : decode cX5_plainConditionsHold 31 = .ok (.aload_n 0, 1) := by decide +kernel
theorem dX5_plainConditionsHold_32 : decode cX5_plainConditionsHold 32 = .ok (.getfield 59, 3) := by decide +kernel
theorem dX5_plainConditionsHold_35 : decode cX5_plainConditionsHold 35 = .ok (.aload_n 3, 1) := by decide +kernel
theorem dX5_plainConditionsHold_36 : decode cX5_plainConditionsHold 36 = .ok (.invokevirtual 256, 3) := by decide +kernel
theorem dX5_plainConditionsHold_39 : decode cX5_plainConditionsHold 39 = .ok (.ifCond .ne 5, 3) := by decide +kernel
theorem dX5_plainConditionsHold_42 : decode cX5_plainConditionsHold 42 = .ok (.iconst 0, 1) := by decide +kernel
theorem dX5_plainConditionsHold_43 : decode cX5_plainConditionsHold 43 = .ok (.ireturn, 1) := by decide +kernel
theorem dX5_plainConditionsHold_44 : decode cX5_plainConditionsHold 44 = .ok (.iinc 2 1, 3) := by decide +kernel
theorem dX5_plainConditionsHold_47 : decode cX5_plainConditionsHold 47 = .ok (.goto (-45), 3) := by decide +kernel
theorem dX5_plainConditionsHold_50 : decode cX5_plainConditionsHold 50 = .ok (.iconst 1, 1) := by decide +kernel
theorem dX5_plainConditionsHold_51 : decode cX5_plainConditionsHold 51 = .ok (.ireturn, 1) := by decide +kernel
def fX5_plainConditionsHold_44 (k2 : PH → Nat → Option Nat → Int32 → Option (PH × Int32)) (h : PH) (x0 : Nat) (x1 : Option Nat) (x2 : Int32) : Option (PH × Int32) :=
  oL (x2 + 1) (fun y1 => k2 h x0 x1 y1)
set_option maxHeartbeats 4000000 in
theorem wfX5_plainConditionsHold_44 {args : Array Value} (b : Bd p s m c cX5_plainConditionsHold 4 RX5 D aC) (hlk : meth.locks = false) (hr : meth.sig.returnType = some .boolean) {Z : State → Prop} (zs : Z s) (zk : ZOK Z (Rg ad)) {hz : PH} {rz : Int32} {k2 : PH → Nat → Option Nat → Int32 → Option (PH × Int32)} (H2 : ∀ (h : PH) (x0 : Nat) (x1 : Option Nat) (x2 : Int32), ∀ (H : Heap) (locs : List Loc) (ls : Array Slot), k2 h x0 x1 x2 = some (hz, rz) → CE (EX D aC ad h) (Rg ad) s H locs → lv_has ls 4 [(0, .ref (ad x0)), (1, va_rf (Option.map ad x1)), (2, .int x2)] → W p l e (RM 6 153 0 0) s m args below meth c H locs 0 0 (MQ below (PQ (EX D aC ad hz) (Rg ad) (some (.int rz))) args s 0 0 (Rg ad)) (F0 m 2 ls [])) {h : PH} {x0 : Nat} {x1 : Option Nat} {x2 : Int32}  {H : Heap} {locs : List Loc} {ls : Array Slot} (hf : fX5_plainConditionsHold_44 k2 h x0 x1 x2 = some (hz, rz)) (hE : CE (EX D aC ad h) (Rg ad) s H locs) (hl : lv_has ls 4 [(0, .ref (ad x0)), (1, va_rf (Option.map ad x1)), (2, .int x2)]) : W p l e (RM 6 153 0 0) s m args below meth c H locs 0 0 (MQ below (PQ (EX D aC ad hz) (Rg ad) (some (.int rz))) args s 0 0 (Rg ad)) (F0 m 44 ls []) := by
  unfold fX5_plainConditionsHold_44 at hf
  obtain ⟨y1, ey1, hf⟩ := oL_s hf
  refine lv_iinc (v := y1) (lv' := [(2, .int y1), (0, .ref (ad x0)), (1, va_rf (Option.map ad x1))]) b.1 b.2.1 dX5_plainConditionsHold_44 hl (k := 2) rfl (by rw [ey1]; rfl) (by decide) (by cases x1 <;> rfl) (fun ls hl => ?_)
  refine lv_goto (tgt := 2) b.1 b.2.1 dX5_plainConditionsHold_47 (by decide) ?_
  exact H2 h x0 x1 y1 _ _ _ hf hE (lv_sub hl [1, 2, 0] rfl)
def fX5_plainConditionsHold_2F (k2 : PH → Nat → Option Nat → Int32 → Option (PH × Int32)) (h : PH) (x0 : Nat) (x1 : Option Nat) (x2 : Int32) : Option (PH × Int32) :=
  oN x1 (fun a2 => oC (decide (hT h a2 = 9)) (if (hI h 1027 a2) ≤ x2 then (some (h, 1)) else (oN (hR h 1028 a2) (fun a5 => oC (decide (hT h a5 = 105)) (oC (ix x2 (hN h a5)) (oL (hC h a5 (Int32.toNatClampNeg x2)) (fun y8 => if y8 = none then (fX5_plainConditionsHold_44 k2 h x0 x1 x2) else (oN y8 (fun a10 => oC (decide (hT h a10 = 3)) (if (hI h 256 a10) = 260 then (fX5_plainConditionsHold_44 k2 h x0 x1 x2) else (oC (decide (hT h x0 = 6)) (oN (hR h 641 x0) (fun a14 => oC (decide (hT h a14 = 7)) (oB2 (fX6_holds h a14 y8) (fun h18 r17 => if r17 = 0 then (some (h18, 0)) else (fX5_plainConditionsHold_44 k2 h18 x0 x1 x2))))))))))))))))
set_option maxHeartbeats 4000000 in
theorem wfX5_plainConditionsHold_2F {args : Array Value} (b : Bd p s m c cX5_plainConditionsHold 4 RX5 D aC) (hlk : meth.locks = false) (hr : meth.sig.returnType = some .boolean) {Z : State → Prop} (zs : Z s) (zk : ZOK Z (Rg ad)) {hz : PH} {rz : Int32} {k2 : PH → Nat → Option Nat → Int32 → Option (PH × Int32)} (H2 : ∀ (h : PH) (x0 : Nat) (x1 : Option Nat) (x2 : Int32), ∀ (H : Heap) (locs : List Loc) (ls : Array Slot), k2 h x0 x1 x2 = some (hz, rz) → CE (EX D aC ad h) (Rg ad) s H locs → lv_has ls 4 [(0, .ref (ad x0)), (1, va_rf (Option.map ad x1)), (2, .int x2)] → W p l e (RM 6 153 0 0) s m args below meth c H locs 0 0 (MQ below (PQ (EX D aC ad hz) (Rg ad) (some (.int rz))) args s 0 0 (Rg ad)) (F0 m 2 ls [])) {h : PH} {x0 : Nat} {x1 : Option Nat} {x2 : Int32}  {H : Heap} {locs : List Loc} {ls : Array Slot} (hf : fX5_plainConditionsHold_2F k2 h x0 x1 x2 = some (hz, rz)) (hE : CE (EX D aC ad h) (Rg ad) s H locs) (hl : lv_has ls 4 [(0, .ref (ad x0)), (1, va_rf (Option.map ad x1)), (2, .int x2)]) : W p l e (RM 6 153 0 0) s m args below meth c H locs 0 0 (MQ below (PQ (EX D aC ad hz) (Rg ad) (some (.int rz))) args s 0 0 (Rg ad)) (F0 m 2 ls []) := by
  unfold fX5_plainConditionsHold_2F at hf
  refine lv_iload_n b.1 b.2.1 dX5_plainConditionsHold_2 rfl (lv_at hl 2 rfl) ?_
  refine k_aload_n (x := Option.map ad x1) b dX5_plainConditionsHold_3 rfl (lv_at hl 1 rfl) ?_
  obtain ⟨a2, ea2, hf⟩ := oN_s hf
  obtain ⟨t3, hf⟩ := oC_s hf
  have t3 := of_decide_eq_true t3
  refine gX5_248 (x := x1) b hE ea2 t3 dX5_plainConditionsHold_4 ?_
  refine lv_icmp_ge (tgt := 50) b.1 b.2.1 dX5_plainConditionsHold_7 (by decide) (fun c4 => ?_) (fun c4 => ?_)
  · have hf := oI_t c4 hf
    refine lv_iconst (v := 1) b.1 b.2.1 dX5_plainConditionsHold_50 (by decide) ?_
    cases hf
    exact k_zret b hlk hr (by decide) hE (Nat.le_refl _) (Nat.le_refl _) dX5_plainConditionsHold_51
  · have hf := oI_f c4 hf
    refine k_aload_n (x := Option.map ad x1) b dX5_plainConditionsHold_10 rfl (lv_at hl 1 rfl) ?_
    refine gX5_249 (x := x1) b hE ea2 t3 dX5_plainConditionsHold_11 ?_
    refine lv_iload_n b.1 b.2.1 dX5_plainConditionsHold_14 rfl (lv_at hl 2 rfl) ?_
    obtain ⟨a5, ea5, hf⟩ := oN_s hf
    obtain ⟨t6, hf⟩ := oC_s hf
    have t6 := of_decide_eq_true t6
    obtain ⟨g7, hf⟩ := oC_s hf
    refine q_aald5 (x := (hR h 1028 a2)) b hE ea5 t6 g7 dX5_plainConditionsHold_15 ?_
    obtain ⟨y8, ey8, hf⟩ := oL_s hf
    refine k_nmO ey8 ?_
    refine k_astore_n (x := Option.map ad y8) (lv' := [(3, va_rf (Option.map ad y8)), (0, .ref (ad x0)), (1, va_rf (Option.map ad x1)), (2, .int x2)]) b dX5_plainConditionsHold_16 rfl hl (by decide) rfl (fun ls hl => ?_)
    refine k_aload_n (x := Option.map ad y8) b dX5_plainConditionsHold_17 rfl (lv_at hl 0 rfl) ?_
    refine k_ifnull (x := Option.map ad y8) b dX5_plainConditionsHold_18 (tgt := 44) (by decide) (fun c9 => ?_) (fun c9 => ?_)
    · have hf := oI_t (Option.map_eq_none_iff.mp c9) hf
      exact wfX5_plainConditionsHold_44 b hlk hr zs zk H2 hf hE (lv_sub hl [1, 2, 3] rfl)
    · have hf := oI_f (fun z => c9 (Option.map_eq_none_iff.mpr z)) hf
      refine k_aload_n (x := Option.map ad y8) b dX5_plainConditionsHold_21 rfl (lv_at hl 0 rfl) ?_
      obtain ⟨a10, ea10, hf⟩ := oN_s hf
      obtain ⟨t11, hf⟩ := oC_s hf
      have t11 := of_decide_eq_true t11
      refine gX5_253 (x := y8) b hE ea10 t11 dX5_plainConditionsHold_22 ?_
      refine lv_sipush (v := 260) b.1 b.2.1 dX5_plainConditionsHold_25 (by decide) ?_
      refine lv_icmp_eq (tgt := 44) b.1 b.2.1 dX5_plainConditionsHold_28 (by decide) (fun c12 => ?_) (fun c12 => ?_)
      · have hf := oI_t c12 hf
        exact wfX5_plainConditionsHold_44 b hlk hr zs zk H2 hf hE (lv_sub hl [1, 2, 3] rfl)
      · have hf := oI_f c12 hf
        refine lv_aload_n b.1 b.2.1 dX5_plainConditionsHold_31 rfl (lv_at hl 1 rfl) ?_
        obtain ⟨t13, hf⟩ := oC_s hf
        have t13 := of_decide_eq_true t13
        refine gX5_59 (x := (some x0)) b hE rfl t13 dX5_plainConditionsHold_32 ?_
        refine k_aload_n (x := Option.map ad y8) b dX5_plainConditionsHold_35 rfl (lv_at hl 0 rfl) ?_
        obtain ⟨a14, ea14, hf⟩ := oN_s hf
        obtain ⟨t15, hf⟩ := oC_s hf
        have t15 := of_decide_eq_true t15
        obtain ⟨h18, r17, hc16, hf⟩ := oB2_s hf
        refine k_stk [va_rf (Option.map ad y8)] ea14 ?_
        refine k_callV0 (C := RX6) b zs zk hE (CX6_holds l D aC ad zk hc16) mc_X6_holds (in4 200 rfl rfl) mi_X6_holds ms_X6_holds ini_RX6 ok_X6_holds (x_recv b hE (ci := 6) rfl (by decide) t15) ⟨Nat.le_of_ble_eq_true rfl, Nat.le_of_ble_eq_true rfl⟩ rfl hl.1 rfl (k_room _ (by exact Nat.le_of_ble_eq_true rfl)) ⟨Nat.le_refl _, Nat.le_refl _⟩ dX5_plainConditionsHold_36 (fun H locs hE => ?_)
        refine lv_if_ne (tgt := 44) b.1 b.2.1 dX5_plainConditionsHold_39 (by decide) (fun c19 => ?_) (fun c19 => ?_)
        · have hf := oI_f c19 hf
          exact wfX5_plainConditionsHold_44 b hlk hr zs zk H2 hf hE (lv_sub hl [1, 2, 3] rfl)
        · have hf := oI_t c19 hf
          refine lv_iconst (v := 0) b.1 b.2.1 dX5_plainConditionsHold_42 (by decide) ?_
          cases hf
          exact k_zret b hlk hr (by decide) hE (Nat.le_refl _) (Nat.le_refl _) dX5_plainConditionsHold_43
def fX5_plainConditionsHold_2  : Nat → PH → Nat → Option Nat → Int32 → Option (PH × Int32)
  | 0 => fun _ _ _ _ => none
  | n + 1 => fX5_plainConditionsHold_2F  (fX5_plainConditionsHold_2  n)
set_option maxHeartbeats 4000000 in
theorem wfX5_plainConditionsHold_2 {args : Array Value} (b : Bd p s m c cX5_plainConditionsHold 4 RX5 D aC) (hlk : meth.locks = false) (hr : meth.sig.returnType = some .boolean) {Z : State → Prop} (zs : Z s) (zk : ZOK Z (Rg ad)) {hz : PH} {rz : Int32} : ∀ n : Nat, ∀ (h : PH) (x0 : Nat) (x1 : Option Nat) (x2 : Int32), ∀ (H : Heap) (locs : List Loc) (ls : Array Slot), fX5_plainConditionsHold_2  n h x0 x1 x2 = some (hz, rz) → CE (EX D aC ad h) (Rg ad) s H locs → lv_has ls 4 [(0, .ref (ad x0)), (1, va_rf (Option.map ad x1)), (2, .int x2)] → W p l e (RM 6 153 0 0) s m args below meth c H locs 0 0 (MQ below (PQ (EX D aC ad hz) (Rg ad) (some (.int rz))) args s 0 0 (Rg ad)) (F0 m 2 ls []) := by
  intro n
  induction n with
  | zero =>
    intro h x0 x1 x2 H locs ls hf
    have hf : (none : Option (PH × Int32)) = some _ := hf
    cases hf
  | succ n ih =>
    intro h x0 x1 x2 H locs ls hf hE hl
    exact wfX5_plainConditionsHold_2F b hlk hr zs zk  ih hf hE hl
def fX5_plainConditionsHold_0  (h : PH) (x0 : Nat) (x1 : Option Nat) : Option (PH × Int32) :=
  fX5_plainConditionsHold_2  FU h x0 x1 0
set_option maxHeartbeats 4000000 in
theorem wfX5_plainConditionsHold_0 {args : Array Value} (b : Bd p s m c cX5_plainConditionsHold 4 RX5 D aC) (hlk : meth.locks = false) (hr : meth.sig.returnType = some .boolean) {Z : State → Prop} (zs : Z s) (zk : ZOK Z (Rg ad)) {hz : PH} {rz : Int32} {h : PH} {x0 : Nat} {x1 : Option Nat}  {H : Heap} {locs : List Loc} {ls : Array Slot} (hf : fX5_plainConditionsHold_0 h x0 x1 = some (hz, rz)) (hE : CE (EX D aC ad h) (Rg ad) s H locs) (hl : lv_has ls 4 [(0, .ref (ad x0)), (1, va_rf (Option.map ad x1))]) : W p l e (RM 6 153 0 0) s m args below meth c H locs 0 0 (MQ below (PQ (EX D aC ad hz) (Rg ad) (some (.int rz))) args s 0 0 (Rg ad)) (F0 m 0 ls []) := by
  unfold fX5_plainConditionsHold_0 at hf
  refine lv_iconst (v := 0) b.1 b.2.1 dX5_plainConditionsHold_0 (by decide) ?_
  refine lv_istore_n (lv' := [(2, .int 0), (0, .ref (ad x0)), (1, va_rf (Option.map ad x1))]) b.1 b.2.1 dX5_plainConditionsHold_1 rfl hl (by decide) (by cases x1 <;> rfl) (fun ls hl => ?_)
  exact wfX5_plainConditionsHold_2 b hlk hr zs zk  FU h x0 x1 0 _ _ _ hf hE (lv_sub hl [1, 2, 0] rfl)
def fX5_plainConditionsHold (h : PH) (x0 : Nat) (x1 : Option Nat) : Option (PH × Int32) := fX5_plainConditionsHold_0 h x0 x1
set_option maxHeartbeats 4000000 in
theorem CX5_plainConditionsHold (l : Launch) (D : va_G) (aC : Nat → ClassId) (ad : Nat → Nat) {Z : State → Prop} (zk : ZOK Z (Rg ad)) {h : PH} {x0 : Nat} {x1 : Option Nat} {hz : PH} {rz : Int32} (hf : fX5_plainConditionsHold h x0 x1 = some (hz, rz)) : CM l D aC Z yX5_plainConditionsHold cX5_plainConditionsHold 4 (some .boolean) 6 153 0 0 (EX D aC ad h) [.ref (ad x0), va_rf (Option.map ad x1)] (EX D aC ad hz) (some (.int rz)) (Rg ad) := by
  refine CM.of rfl ?_
  intro p e s m below meth c b hr hlk hin2 zs hE
  cases x1 <;> (
    refine k_ent (Nat.le_of_ble_eq_true rfl) (fun ls hl => ?_)
    exact wfX5_plainConditionsHold_0 b hlk hr zs zk hf hE (lv_sub hl [0, 1] rfl))
theorem dX5_headOf_0 : decode cX5_headOf 0 = .ok (.aload_n 1, 1) := by decide +kernel
theorem dX5_headOf_1 : decode cX5_headOf 1 = .ok (.getfield 121, 3) := by decide +kernel
theorem dX5_headOf_4 : decode cX5_headOf 4 = .ok (.iconst 2, 1) := by decide +kernel
theorem dX5_headOf_5 : decode cX5_headOf 5 = .ok (.if_icmp .ne 32, 3) := by decide +kernel
theorem dX5_headOf_8 : decode cX5_headOf 8 = .ok (.sipush 600, 3) := by decide +kernel
theorem dX5_headOf_11 : decode cX5_headOf 11 = .ok (.aload_n 1, 1) := by decide +kernel
theorem dX5_headOf_12 : decode cX5_headOf 12 = .ok (.getfield 164, 3) := by decide +kernel
theorem dX5_headOf_15 : decode cX5_headOf 15 = .ok (.getfield 260, 3) := by decide +kernel
theorem dX5_headOf_18 : decode cX5_headOf 18 = .ok (.iconst 5, 1) := by decide +kernel
theorem dX5_headOf_19 : decode cX5_headOf 19 = .ok (.imul, 1) := by decide +kernel
theorem dX5_headOf_20 : decode cX5_headOf 20 = .ok (.iadd, 1) := by decide +kernel
theorem dX5_headOf_21 : decode cX5_headOf 21 = .ok (.aload_n 0, 1) := by decide +kernel
theorem dX5_headOf_22 : decode cX5_headOf 22 = .ok (.getfield 59, 3) := by decide +kernel
theorem dX5_headOf_25 : decode cX5_headOf 25 = .ok (.aload_n 1, 1) := by decide +kernel
theorem dX5_headOf_26 : decode cX5_headOf 26 = .ok (.getfield 164, 3) := by decide +kernel
theorem dX5_headOf_29 : decode cX5_headOf 29 = .ok (.getfield 263, 3) := by decide +kernel
theorem dX5_headOf_32 : decode cX5_headOf 32 = .ok (.invokevirtual 195, 3) := by decide +kernel
theorem dX5_headOf_35 : decode cX5_headOf 35 = .ok (.iadd, 1) := by decide +kernel
theorem dX5_headOf_36 : decode cX5_headOf 36 = .ok (.ireturn, 1) := by decide +kernel
theorem dX5_headOf_37 : decode cX5_headOf 37 = .ok (.aload_n 0, 1) := by decide +kernel
theorem dX5_headOf_38 : decode cX5_headOf 38 = .ok (.getfield 59, 3) := by decide +kernel
theorem dX5_headOf_41 : decode cX5_headOf 41 = .ok (.aload_n 1, 1) := by decide +kernel
theorem dX5_headOf_42 : decode cX5_headOf 42 = .ok (.getfield 164, 3) := by decide +kernel
theorem dX5_headOf_45 : decode cX5_headOf 45 = .ok (.invokevirtual 266, 3) := by decide +kernel
theorem dX5_headOf_48 : decode cX5_headOf 48 = .ok (.ireturn, 1) := by decide +kernel
def fX5_headOf_0  (h : PH) (x0 : Nat) (x1 : Option Nat) : Option (Int32) :=
  oN x1 (fun a1 => oC (decide (hT h a1 = 9)) (if (hI h 1025 a1) = 2 then (oN (hR h 1029 a1) (fun a9 => oC (decide (hT h a9 = 3)) (oC (decide (hT h x0 = 6)) (oN (hR h 641 x0) (fun a12 => oC (decide (hT h a12 = 7)) (oB (fX6_personOf h a12 (hI h 259 a9)) (fun r15 => some (((600 + ((hI h 257 a9) * 5)) + r15))))))))) else (oC (decide (hT h x0 = 6)) (oN (hR h 641 x0) (fun a5 => oC (decide (hT h a5 = 7)) (oB (fX6_literalOf h a5 (hR h 1029 a1)) (fun r8 => some (r8))))))))
set_option maxHeartbeats 4000000 in
theorem wfX5_headOf_0 {args : Array Value} (b : Bd p s m c cX5_headOf 2 RX5 D aC) (hlk : meth.locks = false) (hr : meth.sig.returnType = some .int) {Z : State → Prop} (zs : Z s) (zk : ZOK Z (Rg ad)) {rz : Int32} {h : PH} {x0 : Nat} {x1 : Option Nat}  {H : Heap} {locs : List Loc} {ls : Array Slot} (hf : fX5_headOf_0 h x0 x1 = some rz) (hE : CE (EX D aC ad h) (Rg ad) s H locs) (hl : lv_has ls 2 [(0, .ref (ad x0)), (1, va_rf (Option.map ad x1))]) : W p l e (RM 2 44 0 0) s m args below meth c H locs 0 0 (MQ below (PQ (EX D aC ad h) (Rg ad) (some (.int rz))) args s 0 0 (Rg ad)) (F0 m 0 ls []) := by
  unfold fX5_headOf_0 at hf
  refine k_aload_n (x := Option.map ad x1) b dX5_headOf_0 rfl (lv_at hl 1 rfl) ?_
  obtain ⟨a1, ea1, hf⟩ := oN_s hf
  obtain ⟨t2, hf⟩ := oC_s hf
  have t2 := of_decide_eq_true t2
  refine gX5_121 (x := x1) b hE ea1 t2 dX5_headOf_1 ?_
  refine lv_iconst (v := 2) b.1 b.2.1 dX5_headOf_4 (by decide) ?_
  refine lv_icmp_ne (tgt := 37) b.1 b.2.1 dX5_headOf_5 (by decide) (fun c3 => ?_) (fun c3 => ?_)
  · have hf := oI_f c3 hf
    refine lv_aload_n b.1 b.2.1 dX5_headOf_37 rfl (lv_at hl 0 rfl) ?_
    obtain ⟨t4, hf⟩ := oC_s hf
    have t4 := of_decide_eq_true t4
    refine gX5_59 (x := (some x0)) b hE rfl t4 dX5_headOf_38 ?_
    refine k_aload_n (x := Option.map ad x1) b dX5_headOf_41 rfl (lv_at hl 1 rfl) ?_
    refine gX5_164 (x := x1) b hE ea1 t2 dX5_headOf_42 ?_
    obtain ⟨a5, ea5, hf⟩ := oN_s hf
    obtain ⟨t6, hf⟩ := oC_s hf
    have t6 := of_decide_eq_true t6
    obtain ⟨r8, hc7, hf⟩ := oB_s hf
    refine k_stk [va_rf (Option.map ad (hR h 1029 a1))] ea5 ?_
    refine k_callV0 (C := RX6) b zs zk hE (CX6_literalOf l D aC ad zk hc7) mc_X6_literalOf (in5 18 rfl rfl) mi_X6_literalOf ms_X6_literalOf ini_RX6 ok_X6_literalOf (x_recv b hE (ci := 6) rfl (by decide) t6) ⟨Nat.le_of_ble_eq_true rfl, Nat.le_of_ble_eq_true rfl⟩ rfl hl.1 rfl (k_room _ (by exact Nat.le_of_ble_eq_true rfl)) ⟨Nat.le_refl _, Nat.le_refl _⟩ dX5_headOf_45 (fun H locs hE => ?_)
    cases hf
    exact k_iret b hlk hr hE (Nat.le_refl _) (Nat.le_refl _) dX5_headOf_48
  · have hf := oI_t c3 hf
    refine lv_sipush (v := 600) b.1 b.2.1 dX5_headOf_8 (by decide) ?_
    refine k_aload_n (x := Option.map ad x1) b dX5_headOf_11 rfl (lv_at hl 1 rfl) ?_
    refine gX5_164 (x := x1) b hE ea1 t2 dX5_headOf_12 ?_
    obtain ⟨a9, ea9, hf⟩ := oN_s hf
    obtain ⟨t10, hf⟩ := oC_s hf
    have t10 := of_decide_eq_true t10
    refine gX5_260 (x := (hR h 1029 a1)) b hE ea9 t10 dX5_headOf_15 ?_
    refine lv_iconst (v := 5) b.1 b.2.1 dX5_headOf_18 (by decide) ?_
    refine lv_imul b.1 b.2.1 dX5_headOf_19 ?_
    refine lv_iadd b.1 b.2.1 dX5_headOf_20 ?_
    refine lv_aload_n b.1 b.2.1 dX5_headOf_21 rfl (lv_at hl 0 rfl) ?_
    obtain ⟨t11, hf⟩ := oC_s hf
    have t11 := of_decide_eq_true t11
    refine gX5_59 (x := (some x0)) b hE rfl t11 dX5_headOf_22 ?_
    refine k_aload_n (x := Option.map ad x1) b dX5_headOf_25 rfl (lv_at hl 1 rfl) ?_
    refine gX5_164 (x := x1) b hE ea1 t2 dX5_headOf_26 ?_
    refine gX5_263 (x := (hR h 1029 a1)) b hE ea9 t10 dX5_headOf_29 ?_
    obtain ⟨a12, ea12, hf⟩ := oN_s hf
    obtain ⟨t13, hf⟩ := oC_s hf
    have t13 := of_decide_eq_true t13
    obtain ⟨r15, hc14, hf⟩ := oB_s hf
    refine k_stk [.int (hI h 259 a9)] ea12 ?_
    refine k_callV0 (C := RX6) b zs zk hE (CX6_personOf l D aC ad zk hc14) mc_X6_personOf (in5 17 rfl rfl) mi_X6_personOf ms_X6_personOf ini_RX6 ok_X6_personOf (x_recv b hE (ci := 6) rfl (by decide) t13) ⟨Nat.le_of_ble_eq_true rfl, Nat.le_of_ble_eq_true rfl⟩ rfl hl.1 rfl (k_room _ (by exact Nat.le_of_ble_eq_true rfl)) ⟨Nat.le_refl _, Nat.le_refl _⟩ dX5_headOf_32 (fun H locs hE => ?_)
    refine lv_iadd b.1 b.2.1 dX5_headOf_35 ?_
    cases hf
    exact k_iret b hlk hr hE (Nat.le_refl _) (Nat.le_refl _) dX5_headOf_36
def fX5_headOf (h : PH) (x0 : Nat) (x1 : Option Nat) : Option (Int32) := fX5_headOf_0 h x0 x1
set_option maxHeartbeats 4000000 in
theorem CX5_headOf (l : Launch) (D : va_G) (aC : Nat → ClassId) (ad : Nat → Nat) {Z : State → Prop} (zk : ZOK Z (Rg ad)) {h : PH} {x0 : Nat} {x1 : Option Nat} {rz : Int32} (hf : fX5_headOf h x0 x1 = some rz) : CM l D aC Z yX5_headOf cX5_headOf 2 (some .int) 2 44 0 0 (EX D aC ad h) [.ref (ad x0), va_rf (Option.map ad x1)] (EX D aC ad h) (some (.int rz)) (Rg ad) := by
  refine CM.of rfl ?_
  intro p e s m below meth c b hr hlk hin2 zs hE
  cases x1 <;> (
    refine k_ent (Nat.le_of_ble_eq_true rfl) (fun ls hl => ?_)
    exact wfX5_headOf_0 b hlk hr zs zk hf hE (lv_sub hl [0, 1] rfl))
theorem dX7_nameAt_0 : decode cX7_nameAt 0 = .ok (.iload_n 1, 1) := by decide +kernel
theorem dX7_nameAt_1 : decode cX7_nameAt 1 = .ok (.ifCond .lt 20, 3) := by decide +kernel
theorem dX7_nameAt_4 : decode cX7_nameAt 4 = .ok (.iload_n 1, 1) := by decide +kernel
theorem dX7_nameAt_5 : decode cX7_nameAt 5 = .ok (.aload_n 0, 1) := by decide +kernel
theorem dX7_nameAt_6 : decode cX7_nameAt 6 = .ok (.getfield 21, 3) := by decide +kernel
theorem dX7_nameAt_9 : decode cX7_nameAt 9 = .ok (.if_icmp .ge 12, 3) := by decide +kernel
theorem dX7_nameAt_12 : decode cX7_nameAt 12 = .ok (.aload_n 0, 1) := by decide +kernel
theorem dX7_nameAt_13 : decode cX7_nameAt 13 = .ok (.getfield 15, 3) := by decide +kernel
theorem dX7_nameAt_16 : decode cX7_nameAt 16 = .ok (.iload_n 1, 1) := by decide +kernel
theorem dX7_nameAt_17 : decode cX7_nameAt 17 = .ok (.laload, 1) := by decide +kernel
theorem dX7_nameAt_18 : decode cX7_nameAt 18 = .ok (.goto 4, 3) := by decide +kernel
theorem dX7_nameAt_21 : decode cX7_nameAt 21 = .ok (.lconst 0, 1) := by decide +kernel
theorem dX7_nameAt_22 : decode cX7_nameAt 22 = .ok (.lreturn, 1) := by decide +kernel
def fX7_nameAt_0  (h : PH) (x0 : Nat) (x1 : Int32) : Option (Int64) :=
  if x1 < 0 then (some (0)) else (oC (decide (hT h x0 = 8)) (if (hI h 897 x0) ≤ x1 then (some (0)) else (oN (hR h 896 x0) (fun a4 => oC (decide (hT h a4 = 102)) (oC (ix x1 (hN h a4)) (some ((hB h a4 (Int32.toNatClampNeg x1)))))))))
set_option maxHeartbeats 4000000 in
theorem wfX7_nameAt_0 {args : Array Value} (b : Bd p s m c cX7_nameAt 2 RX7 D aC) (hlk : meth.locks = false) (hr : meth.sig.returnType = some .long) {Z : State → Prop} (zs : Z s) (zk : ZOK Z (Rg ad)) {rz : Int64} {h : PH} {x0 : Nat} {x1 : Int32}  {H : Heap} {locs : List Loc} {ls : Array Slot} (hf : fX7_nameAt_0 h x0 x1 = some rz) (hE : CE (EX D aC ad h) (Rg ad) s H locs) (hl : lv_has ls 2 [(0, .ref (ad x0)), (1, .int x1)]) : W p l e (RM 0 0 0 0) s m args below meth c H locs 0 0 (MQ below (PQ (EX D aC ad h) (Rg ad) (some (.long rz))) args s 0 0 (Rg ad)) (F0 m 0 ls []) := by
  unfold fX7_nameAt_0 at hf
  refine lv_iload_n b.1 b.2.1 dX7_nameAt_0 rfl (lv_at hl 1 rfl) ?_
  refine lv_if_lt (tgt := 21) b.1 b.2.1 dX7_nameAt_1 (by decide) (fun c1 => ?_) (fun c1 => ?_)
  · have hf := oI_t c1 hf
    refine lv_lconst (v := 0) b.1 b.2.1 dX7_nameAt_21 rfl ?_
    cases hf
    exact k_lret b hlk hr hE (Nat.le_refl _) (Nat.le_refl _) dX7_nameAt_22
  · have hf := oI_f c1 hf
    refine lv_iload_n b.1 b.2.1 dX7_nameAt_4 rfl (lv_at hl 1 rfl) ?_
    refine lv_aload_n b.1 b.2.1 dX7_nameAt_5 rfl (lv_at hl 0 rfl) ?_
    obtain ⟨t2, hf⟩ := oC_s hf
    have t2 := of_decide_eq_true t2
    refine gX7_21 (x := (some x0)) b hE rfl t2 dX7_nameAt_6 ?_
    refine lv_icmp_ge (tgt := 21) b.1 b.2.1 dX7_nameAt_9 (by decide) (fun c3 => ?_) (fun c3 => ?_)
    · have hf := oI_t c3 hf
      refine lv_lconst (v := 0) b.1 b.2.1 dX7_nameAt_21 rfl ?_
      cases hf
      exact k_lret b hlk hr hE (Nat.le_refl _) (Nat.le_refl _) dX7_nameAt_22
    · have hf := oI_f c3 hf
      refine lv_aload_n b.1 b.2.1 dX7_nameAt_12 rfl (lv_at hl 0 rfl) ?_
      refine gX7_15 (x := (some x0)) b hE rfl t2 dX7_nameAt_13 ?_
      refine lv_iload_n b.1 b.2.1 dX7_nameAt_16 rfl (lv_at hl 1 rfl) ?_
      obtain ⟨a4, ea4, hf⟩ := oN_s hf
      obtain ⟨t5, hf⟩ := oC_s hf
      have t5 := of_decide_eq_true t5
      obtain ⟨g6, hf⟩ := oC_s hf
      refine q_lald (x := (hR h 896 x0)) b hE ea4 t5 g6 dX7_nameAt_17 ?_
      refine lv_goto (tgt := 22) b.1 b.2.1 dX7_nameAt_18 (by decide) ?_
      cases hf
      exact k_lret b hlk hr hE (Nat.le_refl _) (Nat.le_refl _) dX7_nameAt_22
def fX7_nameAt (h : PH) (x0 : Nat) (x1 : Int32) : Option (Int64) := fX7_nameAt_0 h x0 x1
set_option maxHeartbeats 4000000 in
theorem CX7_nameAt (l : Launch) (D : va_G) (aC : Nat → ClassId) (ad : Nat → Nat) {Z : State → Prop} (zk : ZOK Z (Rg ad)) {h : PH} {x0 : Nat} {x1 : Int32} {rz : Int64} (hf : fX7_nameAt h x0 x1 = some rz) : CM l D aC Z yX7_nameAt cX7_nameAt 2 (some .long) 0 0 0 0 (EX D aC ad h) [.ref (ad x0), .int x1] (EX D aC ad h) (some (.long rz)) (Rg ad) := by
  refine CM.of rfl ?_
  intro p e s m below meth c b hr hlk hin2 zs hE
  refine k_ent (Nat.le_of_ble_eq_true rfl) (fun ls hl => ?_)
  exact wfX7_nameAt_0 b hlk hr zs zk hf hE (lv_sub hl [0, 1] rfl)
theorem dX9_init_0 : decode cX9_init 0 = .ok (.aload_n 0, 1) := by decide +kernel
theorem dX9_init_1 : decode cX9_init 1 = .ok (.invokespecial 1, 3) := by decide +kernel
theorem dX9_init_4 : decode cX9_init 4 = .ok (.aload_n 0, 1) := by decide +kernel
theorem dX9_init_5 : decode cX9_init 5 = .ok (.iload_n 1, 1) := by decide +kernel
theorem dX9_init_6 : decode cX9_init 6 = .ok (.putfield 7, 3) := by decide +kernel
theorem dX9_init_9 : decode cX9_init 9 = .ok (.aload_n 0, 1) := by decide +kernel
theorem dX9_init_10 : decode cX9_init 10 = .ok (.iload_n 2, 1) := by decide +kernel
theorem dX9_init_11 : decode cX9_init 11 = .ok (.putfield 13, 3) := by decide +kernel
theorem dX9_init_14 : decode cX9_init 14 = .ok (.aload_n 0, 1) := by decide +kernel
theorem dX9_init_15 : decode cX9_init 15 = .ok (.iload_n 3, 1) := by decide +kernel
theorem dX9_init_16 : decode cX9_init 16 = .ok (.putfield 16, 3) := by decide +kernel
theorem dX9_init_19 : decode cX9_init 19 = .ok (.aload_n 0, 1) := by decide +kernel
theorem dX9_init_20 : decode cX9_init 20 = .ok (.iload 4, 2) := by decide +kernel
theorem dX9_init_22 : decode cX9_init 22 = .ok (.putfield 19, 3) := by decide +kernel
theorem dX9_init_25 : decode cX9_init 25 = .ok (.aload_n 0, 1) := by decide +kernel
theorem dX9_init_26 : decode cX9_init 26 = .ok (.iload 5, 2) := by decide +kernel
theorem dX9_init_28 : decode cX9_init 28 = .ok (.putfield 22, 3) := by decide +kernel
theorem dX9_init_31 : decode cX9_init 31 = .ok (.return_, 1) := by decide +kernel
def fX9_init_0  (h : PH) (x0 : Nat) (x1 : Int32) (x2 : Int32) (x3 : Int32) (x4 : Int32) (x5 : Int32) : Option (PH) :=
  oC (decide (hT h x0 = 10)) (oL (sI h 1152 x0 x1) (fun h2 => oL (sI h2 1153 x0 x2) (fun h4 => oL (sI h4 1154 x0 x3) (fun h6 => oL (sI h6 1155 x0 x4) (fun h8 => oL (sI h8 1156 x0 x5) (fun h10 => some (h10)))))))
set_option maxHeartbeats 4000000 in
theorem wfX9_init_0 {args : Array Value} (b : Bd p s m c cX9_init 6 RX9 D aC) (hlk : meth.locks = false) (hr : meth.sig.returnType = none) {Z : State → Prop} (zs : Z s) (zk : ZOK Z (Rg ad)) (hin2 : meth.name = "<init>") {hz : PH} {h : PH} {x0 : Nat} {x1 : Int32} {x2 : Int32} {x3 : Int32} {x4 : Int32} {x5 : Int32}  {H : Heap} {locs : List Loc} {ls : Array Slot} (hf : fX9_init_0 h x0 x1 x2 x3 x4 x5 = some hz) (hE : CE (EX D aC ad h) (Rg ad) s H locs) (hl : lv_has ls 6 [(0, .ref (ad x0)), (1, .int x1), (2, .int x2), (3, .int x3), (4, .int x4), (5, .int x5)]) : W p l e (RM 1 24 0 0) s m args below meth c H locs 0 0 (MQ below (PQ (EX D aC ad hz) (Rg ad) none) args s 0 0 (Rg ad)) (F0 m 0 ls []) := by
  unfold fX9_init_0 at hf
  refine lv_aload_n b.1 b.2.1 dX9_init_0 rfl (lv_at hl 0 rfl) ?_
  refine k_objInit b (in3 220 rfl rfl) objI objC hl.1 ⟨Nat.le_of_ble_eq_true rfl, Nat.le_of_ble_eq_true rfl⟩ (Nat.le_of_ble_eq_true rfl) dX9_init_1 ?_
  refine lv_aload_n b.1 b.2.1 dX9_init_4 rfl (lv_at hl 0 rfl) ?_
  refine lv_iload_n b.1 b.2.1 dX9_init_5 rfl (lv_at hl 1 rfl) ?_
  obtain ⟨t1, hf⟩ := oC_s hf
  have t1 := of_decide_eq_true t1
  obtain ⟨h2, eh2, hf⟩ := oL_s hf
  refine pX9_7 (x := (some x0)) b hin2 hE rfl t1 eh2 dX9_init_6 (fun H locs hE => ?_)
  refine lv_aload_n b.1 b.2.1 dX9_init_9 rfl (lv_at hl 0 rfl) ?_
  refine lv_iload_n b.1 b.2.1 dX9_init_10 rfl (lv_at hl 2 rfl) ?_
  have t3 := tg_sI eh2 t1
  obtain ⟨h4, eh4, hf⟩ := oL_s hf
  refine pX9_13 (x := (some x0)) b hin2 hE rfl t3 eh4 dX9_init_11 (fun H locs hE => ?_)
  refine lv_aload_n b.1 b.2.1 dX9_init_14 rfl (lv_at hl 0 rfl) ?_
  refine lv_iload_n b.1 b.2.1 dX9_init_15 rfl (lv_at hl 3 rfl) ?_
  have t5 := tg_sI eh4 t3
  obtain ⟨h6, eh6, hf⟩ := oL_s hf
  refine pX9_16 (x := (some x0)) b hin2 hE rfl t5 eh6 dX9_init_16 (fun H locs hE => ?_)
  refine lv_aload_n b.1 b.2.1 dX9_init_19 rfl (lv_at hl 0 rfl) ?_
  refine lv_iload b.1 b.2.1 dX9_init_20 (lv_at hl 4 rfl) ?_
  have t7 := tg_sI eh6 t5
  obtain ⟨h8, eh8, hf⟩ := oL_s hf
  refine pX9_19 (x := (some x0)) b hin2 hE rfl t7 eh8 dX9_init_22 (fun H locs hE => ?_)
  refine lv_aload_n b.1 b.2.1 dX9_init_25 rfl (lv_at hl 0 rfl) ?_
  refine lv_iload b.1 b.2.1 dX9_init_26 (lv_at hl 5 rfl) ?_
  have t9 := tg_sI eh8 t7
  obtain ⟨h10, eh10, hf⟩ := oL_s hf
  refine pX9_22 (x := (some x0)) b hin2 hE rfl t9 eh10 dX9_init_28 (fun H locs hE => ?_)
  cases hf
  exact k_vret b hlk hr hE (Nat.le_refl _) (Nat.le_refl _) dX9_init_31
def fX9_init (h : PH) (x0 : Nat) (x1 : Int32) (x2 : Int32) (x3 : Int32) (x4 : Int32) (x5 : Int32) : Option (PH) := fX9_init_0 h x0 x1 x2 x3 x4 x5
set_option maxHeartbeats 4000000 in
theorem CX9_init (l : Launch) (D : va_G) (aC : Nat → ClassId) (ad : Nat → Nat) {Z : State → Prop} (zk : ZOK Z (Rg ad)) {h : PH} {x0 : Nat} {x1 : Int32} {x2 : Int32} {x3 : Int32} {x4 : Int32} {x5 : Int32} {hz : PH} (hf : fX9_init h x0 x1 x2 x3 x4 x5 = some hz) : CM l D aC Z yX9_init cX9_init 6 (none) 1 24 0 0 (EX D aC ad h) [.ref (ad x0), .int x1, .int x2, .int x3, .int x4, .int x5] (EX D aC ad hz) none (Rg ad) := by
  refine CM.of rfl ?_
  intro p e s m below meth c b hr hlk hin2 zs hE
  refine k_ent (Nat.le_of_ble_eq_true rfl) (fun ls hl => ?_)
  exact wfX9_init_0 b hlk hr zs zk hin2 hf hE (lv_sub hl [0, 1, 2, 3, 4, 5] rfl)
theorem dX11_back_0 : decode cX11_back 0 = .ok (.iload_n 1, 1) := by decide +kernel
theorem dX11_back_1 : decode cX11_back 1 = .ok (.ifCond .lt 14, 3) := by decide +kernel
theorem dX11_back_4 : decode cX11_back 4 = .ok (.iload_n 1, 1) := by decide +kernel
theorem dX11_back_5 : decode cX11_back 5 = .ok (.aload_n 0, 1) := by decide +kernel
theorem dX11_back_6 : decode cX11_back 6 = .ok (.getfield 12, 3) := by decide +kernel
theorem dX11_back_9 : decode cX11_back 9 = .ok (.getfield 45, 3) := by decide +kernel
theorem dX11_back_12 : decode cX11_back 12 = .ok (.if_icmp .le 5, 3) := by decide +kernel
theorem dX11_back_15 : decode cX11_back 15 = .ok (.iconst (-1), 1) := by decide +kernel
theorem dX11_back_16 : decode cX11_back 16 = .ok (.ireturn, 1) := by decide +kernel
theorem dX11_back_17 : decode cX11_back 17 = .ok (.aload_n 0, 1) := by decide +kernel
theorem dX11_back_18 : decode cX11_back 18 = .ok (.getfield 12, 3) := by decide +kernel
theorem dX11_back_21 : decode cX11_back 21 = .ok (.dup, 1) := by decide +kernel
theorem dX11_back_22 : decode cX11_back 22 = .ok (.getfield 45, 3) := by decide +kernel
theorem dX11_back_25 : decode cX11_back 25 = .ok (.iload_n 1, 1) := by decide +kernel
theorem dX11_back_26 : decode cX11_back 26 = .ok (.isub, 1) := by decide +kernel
theorem dX11_back_27 : decode cX11_back 27 = .ok (.putfield 45, 3) := by decide +kernel
theorem dX11_back_30 : decode cX11_back 30 = .ok (.aload_n 0, 1) := by decide +kernel
theorem dX11_back_31 : decode cX11_back 31 = .ok (.getfield 12, 3) := by decide +kernel
theorem dX11_back_34 : decode cX11_back 34 = .ok (.getfield 45, 3) := by decide +kernel
theorem dX11_back_37 : decode cX11_back 37 = .ok (.ireturn, 1) := by decide +kernel
def fX11_back_0  (h : PH) (x0 : Nat) (x1 : Int32) : Option (PH × Int32) :=
  if x1 < 0 then (some (h, (-1))) else (oC (decide (hT h x0 = 12)) (oN (hR h 1408 x0) (fun a3 => oC (decide (hT h a3 = 1)) (if x1 ≤ (hI h 1 a3) then (oL (sI h 1 a3 ((hI h 1 a3) - x1)) (fun h6 => oN (hR h6 1408 x0) (fun a8 => oC (decide (hT h6 a8 = 1)) (some (h6, (hI h6 1 a8)))))) else (some (h, (-1)))))))
set_option maxHeartbeats 4000000 in
theorem wfX11_back_0 {args : Array Value} (b : Bd p s m c cX11_back 2 RX11 D aC) (hlk : meth.locks = false) (hr : meth.sig.returnType = some .int) {Z : State → Prop} (zs : Z s) (zk : ZOK Z (Rg ad)) {hz : PH} {rz : Int32} {h : PH} {x0 : Nat} {x1 : Int32}  {H : Heap} {locs : List Loc} {ls : Array Slot} (hf : fX11_back_0 h x0 x1 = some (hz, rz)) (hE : CE (EX D aC ad h) (Rg ad) s H locs) (hl : lv_has ls 2 [(0, .ref (ad x0)), (1, .int x1)]) : W p l e (RM 0 0 0 0) s m args below meth c H locs 0 0 (MQ below (PQ (EX D aC ad hz) (Rg ad) (some (.int rz))) args s 0 0 (Rg ad)) (F0 m 0 ls []) := by
  unfold fX11_back_0 at hf
  refine lv_iload_n b.1 b.2.1 dX11_back_0 rfl (lv_at hl 1 rfl) ?_
  refine lv_if_lt (tgt := 15) b.1 b.2.1 dX11_back_1 (by decide) (fun c1 => ?_) (fun c1 => ?_)
  · have hf := oI_t c1 hf
    refine lv_iconst (v := (-1)) b.1 b.2.1 dX11_back_15 (by decide) ?_
    cases hf
    exact k_iret b hlk hr hE (Nat.le_refl _) (Nat.le_refl _) dX11_back_16
  · have hf := oI_f c1 hf
    refine lv_iload_n b.1 b.2.1 dX11_back_4 rfl (lv_at hl 1 rfl) ?_
    refine lv_aload_n b.1 b.2.1 dX11_back_5 rfl (lv_at hl 0 rfl) ?_
    obtain ⟨t2, hf⟩ := oC_s hf
    have t2 := of_decide_eq_true t2
    refine gX11_12 (x := (some x0)) b hE rfl t2 dX11_back_6 ?_
    obtain ⟨a3, ea3, hf⟩ := oN_s hf
    obtain ⟨t4, hf⟩ := oC_s hf
    have t4 := of_decide_eq_true t4
    refine gX11_45 (x := (hR h 1408 x0)) b hE ea3 t4 dX11_back_9 ?_
    refine lv_icmp_le (tgt := 17) b.1 b.2.1 dX11_back_12 (by decide) (fun c5 => ?_) (fun c5 => ?_)
    · have hf := oI_t c5 hf
      refine lv_aload_n b.1 b.2.1 dX11_back_17 rfl (lv_at hl 0 rfl) ?_
      refine gX11_12 (x := (some x0)) b hE rfl t2 dX11_back_18 ?_
      refine lv_dup b.1 b.2.1 dX11_back_21 (rf_cat _) ?_
      refine gX11_45 (x := (hR h 1408 x0)) b hE ea3 t4 dX11_back_22 ?_
      refine lv_iload_n b.1 b.2.1 dX11_back_25 rfl (lv_at hl 1 rfl) ?_
      refine lv_isub b.1 b.2.1 dX11_back_26 ?_
      obtain ⟨h6, eh6, hf⟩ := oL_s hf
      refine pX11_45 (x := (hR h 1408 x0)) b hE ea3 t4 eh6 dX11_back_27 (fun H locs hE => ?_)
      refine lv_aload_n b.1 b.2.1 dX11_back_30 rfl (lv_at hl 0 rfl) ?_
      have t7 := tg_sI eh6 t2
      refine gX11_12 (x := (some x0)) b hE rfl t7 dX11_back_31 ?_
      obtain ⟨a8, ea8, hf⟩ := oN_s hf
      obtain ⟨t9, hf⟩ := oC_s hf
      have t9 := of_decide_eq_true t9
      refine gX11_45 (x := (hR h6 1408 x0)) b hE ea8 t9 dX11_back_34 ?_
      cases hf
      exact k_iret b hlk hr hE (Nat.le_refl _) (Nat.le_refl _) dX11_back_37
    · have hf := oI_f c5 hf
      refine lv_iconst (v := (-1)) b.1 b.2.1 dX11_back_15 (by decide) ?_
      cases hf
      exact k_iret b hlk hr hE (Nat.le_refl _) (Nat.le_refl _) dX11_back_16
def fX11_back (h : PH) (x0 : Nat) (x1 : Int32) : Option (PH × Int32) := fX11_back_0 h x0 x1
set_option maxHeartbeats 4000000 in
theorem CX11_back (l : Launch) (D : va_G) (aC : Nat → ClassId) (ad : Nat → Nat) {Z : State → Prop} (zk : ZOK Z (Rg ad)) {h : PH} {x0 : Nat} {x1 : Int32} {hz : PH} {rz : Int32} (hf : fX11_back h x0 x1 = some (hz, rz)) : CM l D aC Z yX11_back cX11_back 2 (some .int) 0 0 0 0 (EX D aC ad h) [.ref (ad x0), .int x1] (EX D aC ad hz) (some (.int rz)) (Rg ad) := by
  refine CM.of rfl ?_
  intro p e s m below meth c b hr hlk hin2 zs hE
  refine k_ent (Nat.le_of_ble_eq_true rfl) (fun ls hl => ?_)
  exact wfX11_back_0 b hlk hr zs zk hf hE (lv_sub hl [0, 1] rfl)
theorem dX11_place_0 : decode cX11_place 0 = .ok (.aload_n 0, 1) := by decide +kernel
theorem dX11_place_1 : decode cX11_place 1 = .ok (.getfield 41, 3) := by decide +kernel
theorem dX11_place_4 : decode cX11_place 4 = .ok (.ireturn, 1) := by decide +kernel
def fX11_place_0  (h : PH) (x0 : Nat) : Option (Int32) :=
  oC (decide (hT h x0 = 12)) (some ((hI h 1415 x0)))
set_option maxHeartbeats 4000000 in
theorem wfX11_place_0 {args : Array Value} (b : Bd p s m c cX11_place 1 RX11 D aC) (hlk : meth.locks = false) (hr : meth.sig.returnType = some .int) {Z : State → Prop} (zs : Z s) (zk : ZOK Z (Rg ad)) {rz : Int32} {h : PH} {x0 : Nat}  {H : Heap} {locs : List Loc} {ls : Array Slot} (hf : fX11_place_0 h x0 = some rz) (hE : CE (EX D aC ad h) (Rg ad) s H locs) (hl : lv_has ls 1 [(0, .ref (ad x0))]) : W p l e (RM 0 0 0 0) s m args below meth c H locs 0 0 (MQ below (PQ (EX D aC ad h) (Rg ad) (some (.int rz))) args s 0 0 (Rg ad)) (F0 m 0 ls []) := by
  unfold fX11_place_0 at hf
  refine lv_aload_n b.1 b.2.1 dX11_place_0 rfl (lv_at hl 0 rfl) ?_
  obtain ⟨t1, hf⟩ := oC_s hf
  have t1 := of_decide_eq_true t1
  refine gX11_41 (x := (some x0)) b hE rfl t1 dX11_place_1 ?_
  cases hf
  exact k_iret b hlk hr hE (Nat.le_refl _) (Nat.le_refl _) dX11_place_4
def fX11_place (h : PH) (x0 : Nat) : Option (Int32) := fX11_place_0 h x0
set_option maxHeartbeats 4000000 in
theorem CX11_place (l : Launch) (D : va_G) (aC : Nat → ClassId) (ad : Nat → Nat) {Z : State → Prop} (zk : ZOK Z (Rg ad)) {h : PH} {x0 : Nat} {rz : Int32} (hf : fX11_place h x0 = some rz) : CM l D aC Z yX11_place cX11_place 1 (some .int) 0 0 0 0 (EX D aC ad h) [.ref (ad x0)] (EX D aC ad h) (some (.int rz)) (Rg ad) := by
  refine CM.of rfl ?_
  intro p e s m below meth c b hr hlk hin2 zs hE
  refine k_ent (Nat.le_of_ble_eq_true rfl) (fun ls hl => ?_)
  exact wfX11_place_0 b hlk hr zs zk hf hE (lv_sub hl [0] rfl)
theorem dX11_clock_0 : decode cX11_clock 0 = .ok (.iload_n 1, 1) := by decide +kernel
theorem dX11_clock_1 : decode cX11_clock 1 = .ok (.aload_n 0, 1) := by decide +kernel
theorem dX11_clock_2 : decode cX11_clock 2 = .ok (.getfield 52, 3) := by decide +kernel
theorem dX11_clock_5 : decode cX11_clock 5 = .ok (.if_icmp .lt 9, 3) := by decide +kernel
theorem dX11_clock_8 : decode cX11_clock 8 = .ok (.iload_n 1, 1) := by decide +kernel
theorem dX11_clock_9 : decode cX11_clock 9 = .ok (.ldc 79, 2) := by decide +kernel
theorem dX11_clock_11 : decode cX11_clock 11 = .ok (.if_icmp .le 5, 3) := by decide +kernel
theorem dX11_clock_14 : decode cX11_clock 14 = .ok (.iconst 0, 1) := by decide +kernel
theorem dX11_clock_15 : decode cX11_clock 15 = .ok (.ireturn, 1) := by decide +kernel
theorem dX11_clock_16 : decode cX11_clock 16 = .ok (.aload_n 0, 1) := by decide +kernel
theorem dX11_clock_17 : decode cX11_clock 17 = .ok (.iload_n 1, 1) := by decide +kernel
theorem dX11_clock_18 : decode cX11_clock 18 = .ok (.putfield 52, 3) := by decide +kernel
theorem dX11_clock_21 : decode cX11_clock 21 = .ok (.iconst 1, 1) := by decide +kernel
theorem dX11_clock_22 : decode cX11_clock 22 = .ok (.ireturn, 1) := by decide +kernel
def fX11_clock_0  (h : PH) (x0 : Nat) (x1 : Int32) : Option (PH × Int32) :=
  oC (decide (hT h x0 = 12)) (if x1 < (hI h 1414 x0) then (some (h, 0)) else (if x1 ≤ 999999 then (oL (sI h 1414 x0 x1) (fun h4 => some (h4, 1))) else (some (h, 0))))
set_option maxHeartbeats 4000000 in
theorem wfX11_clock_0 {args : Array Value} (b : Bd p s m c cX11_clock 2 RX11 D aC) (hlk : meth.locks = false) (hr : meth.sig.returnType = some .boolean) {Z : State → Prop} (zs : Z s) (zk : ZOK Z (Rg ad)) {hz : PH} {rz : Int32} {h : PH} {x0 : Nat} {x1 : Int32}  {H : Heap} {locs : List Loc} {ls : Array Slot} (hf : fX11_clock_0 h x0 x1 = some (hz, rz)) (hE : CE (EX D aC ad h) (Rg ad) s H locs) (hl : lv_has ls 2 [(0, .ref (ad x0)), (1, .int x1)]) : W p l e (RM 0 0 0 0) s m args below meth c H locs 0 0 (MQ below (PQ (EX D aC ad hz) (Rg ad) (some (.int rz))) args s 0 0 (Rg ad)) (F0 m 0 ls []) := by
  unfold fX11_clock_0 at hf
  refine lv_iload_n b.1 b.2.1 dX11_clock_0 rfl (lv_at hl 1 rfl) ?_
  refine lv_aload_n b.1 b.2.1 dX11_clock_1 rfl (lv_at hl 0 rfl) ?_
  obtain ⟨t1, hf⟩ := oC_s hf
  have t1 := of_decide_eq_true t1
  refine gX11_52 (x := (some x0)) b hE rfl t1 dX11_clock_2 ?_
  refine lv_icmp_lt (tgt := 14) b.1 b.2.1 dX11_clock_5 (by decide) (fun c2 => ?_) (fun c2 => ?_)
  · have hf := oI_t c2 hf
    refine lv_iconst (v := 0) b.1 b.2.1 dX11_clock_14 (by decide) ?_
    cases hf
    exact k_zret b hlk hr (by decide) hE (Nat.le_refl _) (Nat.le_refl _) dX11_clock_15
  · have hf := oI_f c2 hf
    refine lv_iload_n b.1 b.2.1 dX11_clock_8 rfl (lv_at hl 1 rfl) ?_
    refine k_ldc (v := 999999) b (in3 203 rfl rfl) dX11_clock_9 ?_
    refine lv_icmp_le (tgt := 16) b.1 b.2.1 dX11_clock_11 (by decide) (fun c3 => ?_) (fun c3 => ?_)
    · have hf := oI_t c3 hf
      refine lv_aload_n b.1 b.2.1 dX11_clock_16 rfl (lv_at hl 0 rfl) ?_
      refine lv_iload_n b.1 b.2.1 dX11_clock_17 rfl (lv_at hl 1 rfl) ?_
      obtain ⟨h4, eh4, hf⟩ := oL_s hf
      refine pX11_52 (x := (some x0)) b hE rfl t1 eh4 dX11_clock_18 (fun H locs hE => ?_)
      refine lv_iconst (v := 1) b.1 b.2.1 dX11_clock_21 (by decide) ?_
      cases hf
      exact k_zret b hlk hr (by decide) hE (Nat.le_refl _) (Nat.le_refl _) dX11_clock_22
    · have hf := oI_f c3 hf
      refine lv_iconst (v := 0) b.1 b.2.1 dX11_clock_14 (by decide) ?_
      cases hf
      exact k_zret b hlk hr (by decide) hE (Nat.le_refl _) (Nat.le_refl _) dX11_clock_15
def fX11_clock (h : PH) (x0 : Nat) (x1 : Int32) : Option (PH × Int32) := fX11_clock_0 h x0 x1
set_option maxHeartbeats 4000000 in
theorem CX11_clock (l : Launch) (D : va_G) (aC : Nat → ClassId) (ad : Nat → Nat) {Z : State → Prop} (zk : ZOK Z (Rg ad)) {h : PH} {x0 : Nat} {x1 : Int32} {hz : PH} {rz : Int32} (hf : fX11_clock h x0 x1 = some (hz, rz)) : CM l D aC Z yX11_clock cX11_clock 2 (some .boolean) 0 0 0 0 (EX D aC ad h) [.ref (ad x0), .int x1] (EX D aC ad hz) (some (.int rz)) (Rg ad) := by
  refine CM.of rfl ?_
  intro p e s m below meth c b hr hlk hin2 zs hE
  refine k_ent (Nat.le_of_ble_eq_true rfl) (fun ls hl => ?_)
  exact wfX11_clock_0 b hlk hr zs zk hf hE (lv_sub hl [0, 1] rfl)
theorem dX11_testify_0 : decode cX11_testify 0 = .ok (.aload_n 0, 1) := by decide +kernel
theorem dX11_testify_1 : decode cX11_testify 1 = .ok (.getfield 22, 3) := by decide +kernel
theorem dX11_testify_4 : decode cX11_testify 4 = .ok (.iload_n 1, 1) := by decide +kernel
theorem dX11_testify_5 : decode cX11_testify 5 = .ok (.iload_n 2, 1) := by decide +kernel
theorem dX11_testify_6 : decode cX11_testify 6 = .ok (.iload_n 3, 1) := by decide +kernel
theorem dX11_testify_7 : decode cX11_testify 7 = .ok (.iload 4, 2) := by decide +kernel
theorem dX11_testify_9 : decode cX11_testify 9 = .ok (.aload_n 0, 1) := by decide +kernel
theorem dX11_testify_10 : decode cX11_testify 10 = .ok (.getfield 22, 3) := by decide +kernel
theorem dX11_testify_13 : decode cX11_testify 13 = .ok (.getfield 80, 3) := by decide +kernel
theorem dX11_testify_16 : decode cX11_testify 16 = .ok (.getfield 84, 3) := by decide +kernel
theorem dX11_testify_19 : decode cX11_testify 19 = .ok (.aload_n 0, 1) := by decide +kernel
theorem dX11_testify_20 : decode cX11_testify 20 = .ok (.getfield 22, 3) := by decide +kernel
theorem dX11_testify_23 : decode cX11_testify 23 = .ok (.getfield 89, 3) := by decide +kernel
theorem dX11_testify_26 : decode cX11_testify 26 = .ok (.getfield 84, 3) := by decide +kernel
theorem dX11_testify_29 : decode cX11_testify 29 = .ok (.invokevirtual 92, 3) := by decide +kernel
theorem dX11_testify_32 : decode cX11_testify 32 = .ok (.istore 8, 2) := by decide +kernel
theorem dX11_testify_34 : decode cX11_testify 34 = .ok (.iload 5, 2) := by decide +kernel
theorem dX11_testify_36 : decode cX11_testify 36 = .ok (.ifCond .lt 21, 3) := by decide +kernel
theorem dX11_testify_39 : decode cX11_testify 39 = .ok (.iload 5, 2) := by decide +kernel
theorem dX11_testify_41 : decode cX11_testify 41 = .ok (.iload 6, 2) := by decide +kernel
theorem dX11_testify_43 : decode cX11_testify 43 = .ok (.if_icmp .ge 14, 3) := by decide +kernel
theorem dX11_testify_46 : decode cX11_testify 46 = .ok (.iload 6, 2) := by decide +kernel
theorem dX11_testify_48 : decode cX11_testify 48 = .ok (.ldc 96, 2) := by decide +kernel
theorem dX11_testify_50 : decode cX11_testify 50 = .ok (.if_icmp .gt 7, 3) := by decide +kernel
theorem dX11_testify_53 : decode cX11_testify 53 = .ok (.iconst 1, 1) := by decide +kernel
theorem dX11_testify_54 : decode cX11_testify 54 = .ok (.goto 4, 3) := by decide +kernel
theorem dX11_testify_57 : decode cX11_testify 57 = .ok (.iconst 0, 1) := by decide +kernel
theorem dX11_testify_58 : decode cX11_testify 58 = .ok (.istore 9, 2) := by decide +kernel
theorem dX11_testify_60 : decode cX11_testify 60 = .ok (.iload 7, 2) := by decide +kernel
theorem dX11_testify_62 : decode cX11_testify 62 = .ok (.iconst 1, 1) := by decide +kernel
theorem dX11_testify_63 : decode cX11_testify 63 = .ok (.if_icmp .lt 14, 3) := by decide +kernel
theorem dX11_testify_66 : decode cX11_testify 66 = .ok (.iload 7, 2) := by decide +kernel
theorem dX11_testify_68 : decode cX11_testify 68 = .ok (.bipush 9, 2) := by decide +kernel
theorem dX11_testify_70 : decode cX11_testify 70 = .ok (.if_icmp .gt 7, 3) := by decide +kernel
theorem dX11_testify_73 : decode cX11_testify 73 = .ok (.iconst 1, 1) := by decide +kernel
theorem dX11_testify_74 : decode cX11_testify 74 = .ok (.goto 4, 3) := by decide +kernel
theorem dX11_testify_77 : decode cX11_testify 77 = .ok (.iconst 0, 1) := by decide +kernel
theorem dX11_testify_78 : decode cX11_testify 78 = .ok (.istore 10, 2) := by decide +kernel
theorem dX11_testify_80 : decode cX11_testify 80 = .ok (.iload 8, 2) := by decide +kernel
theorem dX11_testify_82 : decode cX11_testify 82 = .ok (.iconst (-1), 1) := by decide +kernel
theorem dX11_testify_83 : decode cX11_testify 83 = .ok (.if_icmp .eq 22, 3) := by decide +kernel
theorem dX11_testify_86 : decode cX11_testify 86 = .ok (.iload 9, 2) := by decide +kernel
theorem dX11_testify_88 : decode cX11_testify 88 = .ok (.ifCond .eq 17, 3) := by decide +kernel
theorem dX11_testify_91 : decode cX11_testify 91 = .ok (.iload 10, 2) := by decide +kernel
theorem dX11_testify_93 : decode cX11_testify 93 = .ok (.ifCond .eq 12, 3) := by decide +kernel
theorem dX11_testify_96 : decode cX11_testify 96 = .ok (.aload_n 0, 1) := by decide +kernel
theorem dX11_testify_97 : decode cX11_testify 97 = .ok (.getfield 97, 3) := by decide +kernel
theorem dX11_testify_100 : decode cX11_testify 100 = .ok (.bipush 100, 2) := by decide +kernel
theorem dX11_testify_102 : decode cX11_testify 102 = .ok (.if_icmp .lt 5, 3) := by decide +kernel
theorem dX11_testify_105 : decode cX11_testify 105 = .ok (.iconst (-1), 1) := by decide +kernel
theorem dX11_testify_106 : decode cX11_testify 106 = .ok (.ireturn, 1) := by decide +kernel
theorem dX11_testify_107 : decode cX11_testify 107 = .ok (.aload_n 0, 1) := by decide +kernel
theorem dX11_testify_108 : decode cX11_testify 108 = .ok (.getfield 37, 3) := by decide +kernel
theorem dX11_testify_111 : decode cX11_testify 111 = .ok (.aload_n 0, 1) := by decide +kernel
theorem dX11_testify_112 : decode cX11_testify 112 = .ok (.getfield 97, 3) := by decide +kernel
theorem dX11_testify_115 : decode cX11_testify 115 = .ok (.new 35, 3) := by decide +kernel
theorem dX11_testify_118 : decode cX11_testify 118 = .ok (.dup, 1) := by decide +kernel
theorem dX11_testify_119 : decode cX11_testify 119 = .ok (.iload 8, 2) := by decide +kernel
theorem dX11_testify_121 : decode cX11_testify 121 = .ok (.iload 5, 2) := by decide +kernel
theorem dX11_testify_123 : decode cX11_testify 123 = .ok (.iload 6, 2) := by decide +kernel
theorem dX11_testify_125 : decode cX11_testify 125 = .ok (.iload 7, 2) := by decide +kernel
theorem dX11_testify_127 : decode cX11_testify 127 = .ok (.aload_n 0, 1) := by decide +kernel
theorem dX11_testify_128 : decode cX11_testify 128 = .ok (.getfield 52, 3) := by decide +kernel
theorem dX11_testify_131 : decode cX11_testify 131 = .ok (.invokespecial 100, 3) := by decide +kernel
theorem dX11_testify_134 : decode cX11_testify 134 = .ok (.aastore, 1) := by decide +kernel
theorem dX11_testify_135 : decode cX11_testify 135 = .ok (.aload_n 0, 1) := by decide +kernel
theorem dX11_testify_136 : decode cX11_testify 136 = .ok (.dup, 1) := by decide +kernel
theorem dX11_testify_137 : decode cX11_testify 137 = .ok (.getfield 97, 3) := by decide +kernel
theorem dX11_testify_140 : decode cX11_testify 140 = .ok (.iconst 1, 1) := by decide +kernel
theorem dX11_testify_141 : decode cX11_testify 141 = .ok (.iadd, 1) := by decide +kernel
theorem dX11_testify_142 : decode cX11_testify 142 = .ok (.putfield 97, 3) := by decide +kernel
theorem dX11_testify_145 : decode cX11_testify 145 = .ok (.aload_n 0, 1) := by decide +kernel
theorem dX11_testify_146 : decode cX11_testify 146 = .ok (.getfield 97, 3) := by decide +kernel
theorem dX11_testify_149 : decode cX11_testify 149 = .ok (.iconst 1, 1) := by decide +kernel
theorem dX11_testify_150 : decode cX11_testify 150 = .ok (.isub, 1) := by decide +kernel
theorem dX11_testify_151 : decode cX11_testify 151 = .ok (.ireturn, 1) := by decide +kernel
def fX11_testify_78  (h : PH) (x0 : Nat) (x5 : Int32) (x6 : Int32) (x7 : Int32) (x8 : Int32) (x9 : Int32) (s0 : Int32) : Option (PH × Int32 × Nat × Nat) :=
  if x8 = (-1) then (some (h, (-1), 0, 0)) else (if x9 = 0 then (some (h, (-1), 0, 0)) else (if s0 = 0 then (some (h, (-1), 0, 0)) else (oC (decide (hT h x0 = 12)) (if (hI h 1413 x0) < 100 then (oL (nO h 10) (fun h8 => oK4 1 5 (oB (fX9_init h8 (hZ h) x8 x5 x6 x7 (hI h8 1414 x0)) (fun h12 => oN (hR h 1412 x0) (fun a13 => oC (decide (hT h12 a13 = 106)) (oC (decide (hT h12 (hZ h) = 10)) (oC (ix (hI h 1413 x0) (hN h12 a13)) (oL (sC h12 a13 (Int32.toNatClampNeg (hI h 1413 x0)) (some (hZ h))) (fun h17 => oC (decide (hT h17 x0 = 12)) (oL (sI h17 1413 x0 ((hI h17 1413 x0) + 1)) (fun h19 => some (h19, ((hI h19 1413 x0) - 1), 0, 0)))))))))))) else (some (h, (-1), 0, 0))))))
set_option maxHeartbeats 4000000 in
theorem wfX11_testify_78 {mc ms cells slots : Nat} {args : Array Value} (b : Bd p s m c cX11_testify 11 RX11 D aC) (hlk : meth.locks = false) (hr : meth.sig.returnType = some .int) {Z : State → Prop} (zs : Z s) (zk : ZOK Z (Rg ad)) {hz : PH} {rz : Int32} {h : PH} {x0 : Nat} {x5 : Int32} {x6 : Int32} {x7 : Int32} {x8 : Int32} {x9 : Int32} {s0 : Int32} {kz : Nat} {mz : Nat}  {H : Heap} {locs : List Loc} {ls : Array Slot} (hf : fX11_testify_78 h x0 x5 x6 x7 x8 x9 s0 = some (hz, rz, kz, mz)) (hk : cells + kz ≤ mc) (hs : slots + mz ≤ ms) (hE : CE (EX D aC ad h) (Rg ad) s H locs) (hl : lv_has ls 11 [(0, .ref (ad x0)), (5, .int x5), (6, .int x6), (7, .int x7), (8, .int x8), (9, .int x9)]) : W p l e (RM 2 51 mc ms) s m args below meth c H locs cells slots (MQ below (PQ (EX D aC ad hz) (Rg ad) (some (.int rz))) args s mc ms (Rg ad)) (F0 m 78 ls [.int s0]) := by
  unfold fX11_testify_78 at hf
  refine lv_istore (lv' := [(10, .int s0), (0, .ref (ad x0)), (5, .int x5), (6, .int x6), (7, .int x7), (8, .int x8), (9, .int x9)]) b.1 b.2.1 dX11_testify_78 hl (by decide) rfl (fun ls hl => ?_)
  refine lv_iload b.1 b.2.1 dX11_testify_80 (lv_at hl 5 rfl) ?_
  refine lv_iconst (v := (-1)) b.1 b.2.1 dX11_testify_82 (by decide) ?_
  refine lv_icmp_eq (tgt := 105) b.1 b.2.1 dX11_testify_83 (by decide) (fun c1 => ?_) (fun c1 => ?_)
  · have hf := oI_t c1 hf
    refine lv_iconst (v := (-1)) b.1 b.2.1 dX11_testify_105 (by decide) ?_
    cases hf
    exact k_iret b hlk hr hE (le_c hk) (le_c hs) dX11_testify_106
  · have hf := oI_f c1 hf
    refine lv_iload b.1 b.2.1 dX11_testify_86 (lv_at hl 6 rfl) ?_
    refine lv_if_eq (tgt := 105) b.1 b.2.1 dX11_testify_88 (by decide) (fun c2 => ?_) (fun c2 => ?_)
    · have hf := oI_t c2 hf
      refine lv_iconst (v := (-1)) b.1 b.2.1 dX11_testify_105 (by decide) ?_
      cases hf
      exact k_iret b hlk hr hE (le_c hk) (le_c hs) dX11_testify_106
    · have hf := oI_f c2 hf
      refine lv_iload b.1 b.2.1 dX11_testify_91 (lv_at hl 0 rfl) ?_
      refine lv_if_eq (tgt := 105) b.1 b.2.1 dX11_testify_93 (by decide) (fun c3 => ?_) (fun c3 => ?_)
      · have hf := oI_t c3 hf
        refine lv_iconst (v := (-1)) b.1 b.2.1 dX11_testify_105 (by decide) ?_
        cases hf
        exact k_iret b hlk hr hE (le_c hk) (le_c hs) dX11_testify_106
      · have hf := oI_f c3 hf
        refine lv_aload_n b.1 b.2.1 dX11_testify_96 rfl (lv_at hl 1 rfl) ?_
        obtain ⟨t4, hf⟩ := oC_s hf
        have t4 := of_decide_eq_true t4
        refine gX11_97 (x := (some x0)) b hE rfl t4 dX11_testify_97 ?_
        refine lv_bipush (v := 100) b.1 b.2.1 dX11_testify_100 (by decide) ?_
        refine lv_icmp_lt (tgt := 107) b.1 b.2.1 dX11_testify_102 (by decide) (fun c5 => ?_) (fun c5 => ?_)
        · have hf := oI_t c5 hf
          refine lv_aload_n b.1 b.2.1 dX11_testify_107 rfl (lv_at hl 1 rfl) ?_
          refine gX11_37 (x := (some x0)) b hE rfl t4 dX11_testify_108 ?_
          refine lv_aload_n b.1 b.2.1 dX11_testify_111 rfl (lv_at hl 1 rfl) ?_
          refine gX11_97 (x := (some x0)) b hE rfl t4 dX11_testify_112 ?_
          obtain ⟨h8, eh8, hf⟩ := oL_s hf
          obtain ⟨i6, j7, ei6, ej7, hf⟩ := oK4_s hf
          have t9 := tg_nO (t := 11) hE eh8 t4
          have t10 := tg_nO0 eh8
          refine nX11_35 b hE (le_room hk ei6) (le_room hs ej7) eh8 dX11_testify_115 (fun H hE => ?_)
          have hk := le_step hk ei6
          have hs := le_step hs ej7
          refine lv_dup b.1 b.2.1 dX11_testify_118 rfl ?_
          refine lv_iload b.1 b.2.1 dX11_testify_119 (lv_at hl 5 rfl) ?_
          refine lv_iload b.1 b.2.1 dX11_testify_121 (lv_at hl 2 rfl) ?_
          refine lv_iload b.1 b.2.1 dX11_testify_123 (lv_at hl 3 rfl) ?_
          refine lv_iload b.1 b.2.1 dX11_testify_125 (lv_at hl 4 rfl) ?_
          refine lv_aload_n b.1 b.2.1 dX11_testify_127 rfl (lv_at hl 1 rfl) ?_
          refine gX11_52 (x := (some x0)) b hE rfl t9 dX11_testify_128 ?_
          obtain ⟨h12, hc11, hf⟩ := oB_s hf
          refine k_callI0 b zs zk hE (CX9_init l D aC ad zk hc11) mc_X9_init (in3 217 rfl rfl) mi_X9_init ini_RX9 rfl ok_X9_init ⟨Nat.le_of_ble_eq_true rfl, Nat.le_of_ble_eq_true rfl⟩ rfl hl.1 rfl (k_room _ (by exact Nat.le_of_ble_eq_true rfl)) ⟨le_0 hk, le_0 hs⟩ dX11_testify_131 (fun H locs hE => ?_)
          obtain ⟨a13, ea13, hf⟩ := oN_s hf
          obtain ⟨t14, hf⟩ := oC_s hf
          have t14 := of_decide_eq_true t14
          obtain ⟨t15, hf⟩ := oC_s hf
          have t15 := of_decide_eq_true t15
          obtain ⟨g16, hf⟩ := oC_s hf
          obtain ⟨h17, eh17, hf⟩ := oL_s hf
          refine q_aast6 (x := (hR h 1412 x0)) (y := (some (hZ h))) b hE ea13 rfl t15 t14 g16 eh17 dX11_testify_134 (fun H locs hE => ?_)
          refine lv_aload_n b.1 b.2.1 dX11_testify_135 rfl (lv_at hl 1 rfl) ?_
          refine lv_dup b.1 b.2.1 dX11_testify_136 rfl ?_
          obtain ⟨t18, hf⟩ := oC_s hf
          have t18 := of_decide_eq_true t18
          refine gX11_97 (x := (some x0)) b hE rfl t18 dX11_testify_137 ?_
          refine lv_iconst (v := 1) b.1 b.2.1 dX11_testify_140 (by decide) ?_
          refine lv_iadd b.1 b.2.1 dX11_testify_141 ?_
          obtain ⟨h19, eh19, hf⟩ := oL_s hf
          refine pX11_97 (x := (some x0)) b hE rfl t18 eh19 dX11_testify_142 (fun H locs hE => ?_)
          refine lv_aload_n b.1 b.2.1 dX11_testify_145 rfl (lv_at hl 1 rfl) ?_
          have t20 := tg_sI eh19 t18
          refine gX11_97 (x := (some x0)) b hE rfl t20 dX11_testify_146 ?_
          refine lv_iconst (v := 1) b.1 b.2.1 dX11_testify_149 (by decide) ?_
          refine lv_isub b.1 b.2.1 dX11_testify_150 ?_
          cases hf
          exact k_iret b hlk hr hE (le_c hk) (le_c hs) dX11_testify_151
        · have hf := oI_f c5 hf
          refine lv_iconst (v := (-1)) b.1 b.2.1 dX11_testify_105 (by decide) ?_
          cases hf
          exact k_iret b hlk hr hE (le_c hk) (le_c hs) dX11_testify_106
def fX11_testify_58  (h : PH) (x0 : Nat) (x5 : Int32) (x6 : Int32) (x7 : Int32) (x8 : Int32) (s0 : Int32) : Option (PH × Int32 × Nat × Nat) :=
  if x7 < 1 then (fX11_testify_78  h x0 x5 x6 x7 x8 s0 0) else (if 9 < x7 then (fX11_testify_78  h x0 x5 x6 x7 x8 s0 0) else (fX11_testify_78  h x0 x5 x6 x7 x8 s0 1))
set_option maxHeartbeats 4000000 in
theorem wfX11_testify_58 {mc ms cells slots : Nat} {args : Array Value} (b : Bd p s m c cX11_testify 11 RX11 D aC) (hlk : meth.locks = false) (hr : meth.sig.returnType = some .int) {Z : State → Prop} (zs : Z s) (zk : ZOK Z (Rg ad)) {hz : PH} {rz : Int32} {h : PH} {x0 : Nat} {x5 : Int32} {x6 : Int32} {x7 : Int32} {x8 : Int32} {s0 : Int32} {kz : Nat} {mz : Nat}  {H : Heap} {locs : List Loc} {ls : Array Slot} (hf : fX11_testify_58 h x0 x5 x6 x7 x8 s0 = some (hz, rz, kz, mz)) (hk : cells + kz ≤ mc) (hs : slots + mz ≤ ms) (hE : CE (EX D aC ad h) (Rg ad) s H locs) (hl : lv_has ls 11 [(0, .ref (ad x0)), (5, .int x5), (6, .int x6), (7, .int x7), (8, .int x8)]) : W p l e (RM 2 51 mc ms) s m args below meth c H locs cells slots (MQ below (PQ (EX D aC ad hz) (Rg ad) (some (.int rz))) args s mc ms (Rg ad)) (F0 m 58 ls [.int s0]) := by
  unfold fX11_testify_58 at hf
  refine lv_istore (lv' := [(9, .int s0), (0, .ref (ad x0)), (5, .int x5), (6, .int x6), (7, .int x7), (8, .int x8)]) b.1 b.2.1 dX11_testify_58 hl (by decide) rfl (fun ls hl => ?_)
  refine lv_iload b.1 b.2.1 dX11_testify_60 (lv_at hl 4 rfl) ?_
  refine lv_iconst (v := 1) b.1 b.2.1 dX11_testify_62 (by decide) ?_
  refine lv_icmp_lt (tgt := 77) b.1 b.2.1 dX11_testify_63 (by decide) (fun c21 => ?_) (fun c21 => ?_)
  · have hf := oI_t c21 hf
    refine lv_iconst (v := 0) b.1 b.2.1 dX11_testify_77 (by decide) ?_
    exact wfX11_testify_78 b hlk hr zs zk  hf hk hs hE (lv_sub hl [1, 2, 3, 4, 5, 0] rfl)
  · have hf := oI_f c21 hf
    refine lv_iload b.1 b.2.1 dX11_testify_66 (lv_at hl 4 rfl) ?_
    refine lv_bipush (v := 9) b.1 b.2.1 dX11_testify_68 (by decide) ?_
    refine lv_icmp_gt (tgt := 77) b.1 b.2.1 dX11_testify_70 (by decide) (fun c22 => ?_) (fun c22 => ?_)
    · have hf := oI_t c22 hf
      refine lv_iconst (v := 0) b.1 b.2.1 dX11_testify_77 (by decide) ?_
      exact wfX11_testify_78 b hlk hr zs zk  hf hk hs hE (lv_sub hl [1, 2, 3, 4, 5, 0] rfl)
    · have hf := oI_f c22 hf
      refine lv_iconst (v := 1) b.1 b.2.1 dX11_testify_73 (by decide) ?_
      refine lv_goto (tgt := 78) b.1 b.2.1 dX11_testify_74 (by decide) ?_
      exact wfX11_testify_78 b hlk hr zs zk  hf hk hs hE (lv_sub hl [1, 2, 3, 4, 5, 0] rfl)
def fX11_testify_0  (h : PH) (x0 : Nat) (x1 : Int32) (x2 : Int32) (x3 : Int32) (x4 : Int32) (x5 : Int32) (x6 : Int32) (x7 : Int32) : Option (PH × Int32 × Nat × Nat) :=
  oC (decide (hT h x0 = 12)) (oN (hR h 1410 x0) (fun a24 => oC (decide (hT h a24 = 2)) (oN (hR h 129 a24) (fun a26 => oC (decide (hT h a26 = 8)) (oN (hR h 128 a24) (fun a28 => oC (decide (hT h a28 = 8)) (oB (fX1_literal h a24 x1 x2 x3 x4 (hI h 897 a26) (hI h 897 a28)) (fun r31 => if x5 < 0 then (fX11_testify_58  h x0 x5 x6 x7 r31 0) else (if x6 ≤ x5 then (fX11_testify_58  h x0 x5 x6 x7 r31 0) else (if 1000000 < x6 then (fX11_testify_58  h x0 x5 x6 x7 r31 0) else (fX11_testify_58  h x0 x5 x6 x7 r31 1)))))))))))
set_option maxHeartbeats 4000000 in
theorem wfX11_testify_0 {mc ms cells slots : Nat} {args : Array Value} (b : Bd p s m c cX11_testify 11 RX11 D aC) (hlk : meth.locks = false) (hr : meth.sig.returnType = some .int) {Z : State → Prop} (zs : Z s) (zk : ZOK Z (Rg ad)) {hz : PH} {rz : Int32} {h : PH} {x0 : Nat} {x1 : Int32} {x2 : Int32} {x3 : Int32} {x4 : Int32} {x5 : Int32} {x6 : Int32} {x7 : Int32} {kz : Nat} {mz : Nat}  {H : Heap} {locs : List Loc} {ls : Array Slot} (hf : fX11_testify_0 h x0 x1 x2 x3 x4 x5 x6 x7 = some (hz, rz, kz, mz)) (hk : cells + kz ≤ mc) (hs : slots + mz ≤ ms) (hE : CE (EX D aC ad h) (Rg ad) s H locs) (hl : lv_has ls 11 [(0, .ref (ad x0)), (1, .int x1), (2, .int x2), (3, .int x3), (4, .int x4), (5, .int x5), (6, .int x6), (7, .int x7)]) : W p l e (RM 2 51 mc ms) s m args below meth c H locs cells slots (MQ below (PQ (EX D aC ad hz) (Rg ad) (some (.int rz))) args s mc ms (Rg ad)) (F0 m 0 ls []) := by
  unfold fX11_testify_0 at hf
  refine lv_aload_n b.1 b.2.1 dX11_testify_0 rfl (lv_at hl 0 rfl) ?_
  obtain ⟨t23, hf⟩ := oC_s hf
  have t23 := of_decide_eq_true t23
  refine gX11_22 (x := (some x0)) b hE rfl t23 dX11_testify_1 ?_
  refine lv_iload_n b.1 b.2.1 dX11_testify_4 rfl (lv_at hl 1 rfl) ?_
  refine lv_iload_n b.1 b.2.1 dX11_testify_5 rfl (lv_at hl 2 rfl) ?_
  refine lv_iload_n b.1 b.2.1 dX11_testify_6 rfl (lv_at hl 3 rfl) ?_
  refine lv_iload b.1 b.2.1 dX11_testify_7 (lv_at hl 4 rfl) ?_
  refine lv_aload_n b.1 b.2.1 dX11_testify_9 rfl (lv_at hl 0 rfl) ?_
  refine gX11_22 (x := (some x0)) b hE rfl t23 dX11_testify_10 ?_
  obtain ⟨a24, ea24, hf⟩ := oN_s hf
  obtain ⟨t25, hf⟩ := oC_s hf
  have t25 := of_decide_eq_true t25
  refine gX11_80 (x := (hR h 1410 x0)) b hE ea24 t25 dX11_testify_13 ?_
  obtain ⟨a26, ea26, hf⟩ := oN_s hf
  obtain ⟨t27, hf⟩ := oC_s hf
  have t27 := of_decide_eq_true t27
  refine gX11_84 (x := (hR h 129 a24)) b hE ea26 t27 dX11_testify_16 ?_
  refine lv_aload_n b.1 b.2.1 dX11_testify_19 rfl (lv_at hl 0 rfl) ?_
  refine gX11_22 (x := (some x0)) b hE rfl t23 dX11_testify_20 ?_
  refine gX11_89 (x := (hR h 1410 x0)) b hE ea24 t25 dX11_testify_23 ?_
  obtain ⟨a28, ea28, hf⟩ := oN_s hf
  obtain ⟨t29, hf⟩ := oC_s hf
  have t29 := of_decide_eq_true t29
  refine gX11_84 (x := (hR h 128 a24)) b hE ea28 t29 dX11_testify_26 ?_
  obtain ⟨r31, hc30, hf⟩ := oB_s hf
  refine k_stk [.int (hI h 897 a28), .int (hI h 897 a26), .int x4, .int x3, .int x2, .int x1] ea24 ?_
  refine k_callV0 (C := RX1) b zs zk hE (CX1_literal l D aC ad zk hc30) mc_X1_literal (in3 208 rfl rfl) mi_X1_literal ms_X1_literal ini_RX1 ok_X1_literal (x_recv b hE (ci := 1) rfl (by decide) t25) ⟨Nat.le_of_ble_eq_true rfl, Nat.le_of_ble_eq_true rfl⟩ rfl hl.1 rfl (k_room _ (by exact Nat.le_of_ble_eq_true rfl)) ⟨le_0 hk, le_0 hs⟩ dX11_testify_29 (fun H locs hE => ?_)
  refine lv_istore (lv' := [(8, .int r31), (0, .ref (ad x0)), (1, .int x1), (2, .int x2), (3, .int x3), (4, .int x4), (5, .int x5), (6, .int x6), (7, .int x7)]) b.1 b.2.1 dX11_testify_32 hl (by decide) rfl (fun ls hl => ?_)
  have hl := lv_sub (l' := [(8, .int r31), (0, .ref (ad x0)), (5, .int x5), (6, .int x6), (7, .int x7)]) hl [0, 1, 6, 7, 8] rfl
  refine lv_iload b.1 b.2.1 dX11_testify_34 (lv_at hl 2 rfl) ?_
  refine lv_if_lt (tgt := 57) b.1 b.2.1 dX11_testify_36 (by decide) (fun c32 => ?_) (fun c32 => ?_)
  · have hf := oI_t c32 hf
    refine lv_iconst (v := 0) b.1 b.2.1 dX11_testify_57 (by decide) ?_
    exact wfX11_testify_58 b hlk hr zs zk  hf hk hs hE (lv_sub hl [1, 2, 3, 4, 0] rfl)
  · have hf := oI_f c32 hf
    refine lv_iload b.1 b.2.1 dX11_testify_39 (lv_at hl 2 rfl) ?_
    refine lv_iload b.1 b.2.1 dX11_testify_41 (lv_at hl 3 rfl) ?_
    refine lv_icmp_ge (tgt := 57) b.1 b.2.1 dX11_testify_43 (by decide) (fun c33 => ?_) (fun c33 => ?_)
    · have hf := oI_t c33 hf
      refine lv_iconst (v := 0) b.1 b.2.1 dX11_testify_57 (by decide) ?_
      exact wfX11_testify_58 b hlk hr zs zk  hf hk hs hE (lv_sub hl [1, 2, 3, 4, 0] rfl)
    · have hf := oI_f c33 hf
      refine lv_iload b.1 b.2.1 dX11_testify_46 (lv_at hl 3 rfl) ?_
      refine k_ldc (v := 1000000) b (in3 215 rfl rfl) dX11_testify_48 ?_
      refine lv_icmp_gt (tgt := 57) b.1 b.2.1 dX11_testify_50 (by decide) (fun c34 => ?_) (fun c34 => ?_)
      · have hf := oI_t c34 hf
        refine lv_iconst (v := 0) b.1 b.2.1 dX11_testify_57 (by decide) ?_
        exact wfX11_testify_58 b hlk hr zs zk  hf hk hs hE (lv_sub hl [1, 2, 3, 4, 0] rfl)
      · have hf := oI_f c34 hf
        refine lv_iconst (v := 1) b.1 b.2.1 dX11_testify_53 (by decide) ?_
        refine lv_goto (tgt := 58) b.1 b.2.1 dX11_testify_54 (by decide) ?_
        exact wfX11_testify_58 b hlk hr zs zk  hf hk hs hE (lv_sub hl [1, 2, 3, 4, 0] rfl)
def fX11_testify (h : PH) (x0 : Nat) (x1 : Int32) (x2 : Int32) (x3 : Int32) (x4 : Int32) (x5 : Int32) (x6 : Int32) (x7 : Int32) : Option (PH × Int32 × Nat × Nat) := fX11_testify_0 h x0 x1 x2 x3 x4 x5 x6 x7
set_option maxHeartbeats 4000000 in
theorem CX11_testify (l : Launch) (D : va_G) (aC : Nat → ClassId) (ad : Nat → Nat) {Z : State → Prop} (zk : ZOK Z (Rg ad)) {h : PH} {x0 : Nat} {x1 : Int32} {x2 : Int32} {x3 : Int32} {x4 : Int32} {x5 : Int32} {x6 : Int32} {x7 : Int32} {hz : PH} {rz : Int32} {kz : Nat} {mz : Nat} (hf : fX11_testify h x0 x1 x2 x3 x4 x5 x6 x7 = some (hz, rz, kz, mz)) : CM l D aC Z yX11_testify cX11_testify 11 (some .int) 2 51 kz mz (EX D aC ad h) [.ref (ad x0), .int x1, .int x2, .int x3, .int x4, .int x5, .int x6, .int x7] (EX D aC ad hz) (some (.int rz)) (Rg ad) := by
  refine CM.of rfl ?_
  intro p e s m below meth c b hr hlk hin2 zs hE
  refine k_ent (Nat.le_of_ble_eq_true rfl) (fun ls hl => ?_)
  exact wfX11_testify_0 b hlk hr zs zk hf (by omega) (by omega) hE (lv_sub hl [0, 1, 2, 3, 4, 5, 6, 7] rfl)
end
