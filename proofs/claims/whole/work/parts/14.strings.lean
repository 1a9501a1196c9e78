/-! the class's texts: String constants by their places -/
def lenJ : List Nat := [4, 5, 4, 2, 6, 87]
def bytJ : List (List Int32) := [[110, 111, 116, 32], [32, 102, 97, 99, 116], [32, 98, 121, 32], [41, 32], [98, 114, 111, 107, 101, 110], [112, 101, 114, 115, 111, 110, 32, 119, 111, 114, 100, 32, 115, 117, 109, 32, 108, 97, 119, 32, 114, 97, 110, 107, 32, 102, 114, 111, 109, 32, 117, 110, 116, 105, 108, 32, 101, 110, 100, 32, 111, 118, 101, 114, 32, 114, 117, 108, 101, 32, 98, 97, 114, 32, 116, 97, 107, 101, 32, 109, 111, 115, 116, 32, 108, 101, 97, 115, 116, 32, 115, 97, 109, 101, 32, 111, 116, 104, 101, 114, 32, 105, 102, 32, 110, 111, 116]]
def slen (i : Nat) : Nat := lenJ.getD i 0
def schr (i j : Nat) : Int32 := (bytJ.getD i []).getD j 0 &&& 255
def ZS (adK adV : Nat → Nat) (A : Nat → Prop) (U : State) : Prop := vk_S 6 lenJ bytJ adK adV A U U.heap ∧ va_Z "java/lang/String" "COMPACT_STRINGS" "Z" (.int 1) A U U.heap ∧ va_Zq "jdk/internal/util/Preconditions" "SIOOBE_FORMATTER" "Ljava/util/function/BiFunction;" A U U.heap ∧ vk_R "StatuteBench$Judgment" 203 "not " (adK 0) U ∧ vk_R "StatuteBench$Judgment" 232 " fact" (adK 1) U ∧ vk_R "StatuteBench$Judgment" 234 " by " (adK 2) U ∧ vk_R "StatuteBench$Judgment" 239 ") " (adK 3) U ∧ vk_R "StatuteBench$Judgment" 241 "broken" (adK 4) U ∧ vk_R "StatuteBench$Tokens" 25 "person word sum law rank from until end over rule bar take most least same other if not" (adK 5) U
theorem ZS_ok {adK adV : Nat → Nat} {A : Nat → Prop} : ZOK (ZS adK adV A) A := by
  intro s U H locs h hS hU hW
  obtain ⟨h1, h2, h3, r0, r1, r2, r3, r4, r5⟩ := h
  subst hU
  exact ⟨(h1.kept hS.2.1).moved hW.alike, (h2.kept hS.2.1).moved hW.alike, (h3.kept hS.2.1).moved hW.alike, r0.warm hW, r1.warm hW, r2.warm hW, r3.warm hW, r4.warm hW, r5.warm hW⟩
section STRS
variable {p : Program} {l : Launch} {e : Env} {R : Room} {s : State} {m : MethodId} {args : Array Value} {below : List Frame} {meth : Method} {c : Code} {H : Heap} {locs : List Loc} {cells slots : Nat} {Q : State → Prop}
variable {cc : ByteArray} {pc nL : Nat} {ls : Array Slot} {rest : List Value} {D : va_G} {aC : Nat → ClassId} {own : String} {E : Heap → Prop} {A : Nat → Prop} {Z : State → Prop} {adK adV : Nat → Nat} {mc ms : Nat}
theorem k_nret (b : Bd p s m c cc nL own D aC) (hlk : meth.locks = false) {ty : FieldType} (hr : meth.sig.returnType = some ty) {v : Int32} (hv : narrow ty (.int v) = .int v) (hE : CE E A s H locs) (h1 : cells ≤ mc) (h2 : slots ≤ ms) (hdg : decode cc pc = .ok (.ireturn, 1)) : W p l e R s m args below meth c H locs cells slots (MQ below (PQ E A (some (.int v))) args s mc ms A) (F0 m pc ls [.int v]) :=
  W.widen h1 h2 (W.zret b.1 b.2.1 hr hv (fun t ht _ => ⟨rfl, by rw [ht]; exact hE.1, hE.2.F ht⟩) hE.2.2.2 hdg hlk)
theorem k_ldcS0 (b : Bd p s m c cc nL "StatuteBench$Judgment" D aC) (S : ZS adK adV A s) (hdg : decode cc pc = .ok (.ldc 203, 2)) (kk : W p l e R s m args below meth c H locs cells slots Q (F0 m (pc + 2) ls (.ref (adK 0) :: rest))) : W p l e R s m args below meth c H locs cells slots Q (F0 m pc ls rest) := va_ldcS b.1 b.2.1 b.2.2.2.1 S.2.2.2.1 hdg kk
theorem k_ldcS1 (b : Bd p s m c cc nL "StatuteBench$Judgment" D aC) (S : ZS adK adV A s) (hdg : decode cc pc = .ok (.ldc 232, 2)) (kk : W p l e R s m args below meth c H locs cells slots Q (F0 m (pc + 2) ls (.ref (adK 1) :: rest))) : W p l e R s m args below meth c H locs cells slots Q (F0 m pc ls rest) := va_ldcS b.1 b.2.1 b.2.2.2.1 S.2.2.2.2.1 hdg kk
theorem k_ldcS2 (b : Bd p s m c cc nL "StatuteBench$Judgment" D aC) (S : ZS adK adV A s) (hdg : decode cc pc = .ok (.ldc 234, 2)) (kk : W p l e R s m args below meth c H locs cells slots Q (F0 m (pc + 2) ls (.ref (adK 2) :: rest))) : W p l e R s m args below meth c H locs cells slots Q (F0 m pc ls rest) := va_ldcS b.1 b.2.1 b.2.2.2.1 S.2.2.2.2.2.1 hdg kk
theorem k_ldcS3 (b : Bd p s m c cc nL "StatuteBench$Judgment" D aC) (S : ZS adK adV A s) (hdg : decode cc pc = .ok (.ldc 239, 2)) (kk : W p l e R s m args below meth c H locs cells slots Q (F0 m (pc + 2) ls (.ref (adK 3) :: rest))) : W p l e R s m args below meth c H locs cells slots Q (F0 m pc ls rest) := va_ldcS b.1 b.2.1 b.2.2.2.1 S.2.2.2.2.2.2.1 hdg kk
theorem k_ldcS4 (b : Bd p s m c cc nL "StatuteBench$Judgment" D aC) (S : ZS adK adV A s) (hdg : decode cc pc = .ok (.ldc 241, 2)) (kk : W p l e R s m args below meth c H locs cells slots Q (F0 m (pc + 2) ls (.ref (adK 4) :: rest))) : W p l e R s m args below meth c H locs cells slots Q (F0 m pc ls rest) := va_ldcS b.1 b.2.1 b.2.2.2.1 S.2.2.2.2.2.2.2.1 hdg kk
theorem k_ldcS5 (b : Bd p s m c cc nL "StatuteBench$Tokens" D aC) (S : ZS adK adV A s) (hdg : decode cc pc = .ok (.ldc 25, 2)) (kk : W p l e R s m args below meth c H locs cells slots Q (F0 m (pc + 2) ls (.ref (adK 5) :: rest))) : W p l e R s m args below meth c H locs cells slots Q (F0 m pc ls rest) := va_ldcS b.1 b.2.1 b.2.2.2.1 S.2.2.2.2.2.2.2.2 hdg kk
end STRS
theorem dJ0_coder_7d493_0 : decode cJ0_coder_7d493 0 = .ok (.getstatic 38, 3) := by decide +kernel
theorem dJ0_coder_7d493_3 : decode cJ0_coder_7d493 3 = .ok (.ifCond .eq 10, 3) := by decide +kernel
theorem dJ0_coder_7d493_6 : decode cJ0_coder_7d493 6 = .ok (.aload_n 0, 1) := by decide +kernel
theorem dJ0_coder_7d493_7 : decode cJ0_coder_7d493 7 = .ok (.getfield 15, 3) := by decide +kernel
theorem dJ0_coder_7d493_10 : decode cJ0_coder_7d493 10 = .ok (.goto 4, 3) := by decide +kernel
theorem dJ0_coder_7d493_13 : decode cJ0_coder_7d493 13 = .ok (.iconst 1, 1) := by decide +kernel
theorem dJ0_coder_7d493_14 : decode cJ0_coder_7d493 14 = .ok (.ireturn, 1) := by decide +kernel
theorem dJ0_isLatin1_aae02_0 : decode cJ0_isLatin1_aae02 0 = .ok (.getstatic 38, 3) := by decide +kernel
theorem dJ0_isLatin1_aae02_3 : decode cJ0_isLatin1_aae02 3 = .ok (.ifCond .eq 14, 3) := by decide +kernel
theorem dJ0_isLatin1_aae02_6 : decode cJ0_isLatin1_aae02 6 = .ok (.aload_n 0, 1) := by decide +kernel
theorem dJ0_isLatin1_aae02_7 : decode cJ0_isLatin1_aae02 7 = .ok (.getfield 15, 3) := by decide +kernel
theorem dJ0_isLatin1_aae02_10 : decode cJ0_isLatin1_aae02 10 = .ok (.ifCond .ne 7, 3) := by decide +kernel
theorem dJ0_isLatin1_aae02_13 : decode cJ0_isLatin1_aae02 13 = .ok (.iconst 1, 1) := by decide +kernel
theorem dJ0_isLatin1_aae02_14 : decode cJ0_isLatin1_aae02 14 = .ok (.goto 4, 3) := by decide +kernel
theorem dJ0_isLatin1_aae02_17 : decode cJ0_isLatin1_aae02 17 = .ok (.iconst 0, 1) := by decide +kernel
theorem dJ0_isLatin1_aae02_18 : decode cJ0_isLatin1_aae02 18 = .ok (.ireturn, 1) := by decide +kernel
theorem dJ0_length_8abf5_0 : decode cJ0_length_8abf5 0 = .ok (.aload_n 0, 1) := by decide +kernel
theorem dJ0_length_8abf5_1 : decode cJ0_length_8abf5 1 = .ok (.getfield 9, 3) := by decide +kernel
theorem dJ0_length_8abf5_4 : decode cJ0_length_8abf5 4 = .ok (.arraylength, 1) := by decide +kernel
theorem dJ0_length_8abf5_5 : decode cJ0_length_8abf5 5 = .ok (.aload_n 0, 1) := by decide +kernel
theorem dJ0_length_8abf5_6 : decode cJ0_length_8abf5 6 = .ok (.invokevirtual 335, 3) := by decide +kernel
theorem dJ0_length_8abf5_9 : decode cJ0_length_8abf5 9 = .ok (.ishr, 1) := by decide +kernel
theorem dJ0_length_8abf5_10 : decode cJ0_length_8abf5 10 = .ok (.ireturn, 1) := by decide +kernel
theorem dJ3_checkIndex_8e157_0 : decode cJ3_checkIndex_8e157 0 = .ok (.iload_n 0, 1) := by decide +kernel
theorem dJ3_checkIndex_8e157_1 : decode cJ3_checkIndex_8e157 1 = .ok (.ifCond .lt 8, 3) := by decide +kernel
theorem dJ3_checkIndex_8e157_4 : decode cJ3_checkIndex_8e157 4 = .ok (.iload_n 0, 1) := by decide +kernel
theorem dJ3_checkIndex_8e157_5 : decode cJ3_checkIndex_8e157 5 = .ok (.iload_n 1, 1) := by decide +kernel
theorem dJ3_checkIndex_8e157_6 : decode cJ3_checkIndex_8e157 6 = .ok (.if_icmp .lt 10, 3) := by decide +kernel
theorem dJ3_checkIndex_8e157_9 : decode cJ3_checkIndex_8e157 9 = .ok (.aload_n 2, 1) := by decide +kernel
theorem dJ3_checkIndex_8e157_10 : decode cJ3_checkIndex_8e157 10 = .ok (.iload_n 0, 1) := by decide +kernel
theorem dJ3_checkIndex_8e157_11 : decode cJ3_checkIndex_8e157 11 = .ok (.iload_n 1, 1) := by decide +kernel
theorem dJ3_checkIndex_8e157_12 : decode cJ3_checkIndex_8e157 12 = .ok (.invokestatic 95, 3) := by decide +kernel
theorem dJ3_checkIndex_8e157_15 : decode cJ3_checkIndex_8e157 15 = .ok (.athrow, 1) := by decide +kernel
theorem dJ3_checkIndex_8e157_16 : decode cJ3_checkIndex_8e157 16 = .ok (.iload_n 0, 1) := by decide +kernel
theorem dJ3_checkIndex_8e157_17 : decode cJ3_checkIndex_8e157 17 = .ok (.ireturn, 1) := by decide +kernel
theorem dJ0_checkIndex_df160_0 : decode cJ0_checkIndex_df160 0 = .ok (.iload_n 0, 1) := by decide +kernel
theorem dJ0_checkIndex_df160_1 : decode cJ0_checkIndex_df160 1 = .ok (.iload_n 1, 1) := by decide +kernel
theorem dJ0_checkIndex_df160_2 : decode cJ0_checkIndex_df160 2 = .ok (.getstatic 1053, 3) := by decide +kernel
theorem dJ0_checkIndex_df160_5 : decode cJ0_checkIndex_df160 5 = .ok (.invokestatic 1059, 3) := by decide +kernel
theorem dJ0_checkIndex_df160_8 : decode cJ0_checkIndex_df160 8 = .ok (.pop, 1) := by decide +kernel
theorem dJ0_checkIndex_df160_9 : decode cJ0_checkIndex_df160 9 = .ok (.return_, 1) := by decide +kernel
theorem dJ1_charAt_3b067_0 : decode cJ1_charAt_3b067 0 = .ok (.iload_n 1, 1) := by decide +kernel
theorem dJ1_charAt_3b067_1 : decode cJ1_charAt_3b067 1 = .ok (.aload_n 0, 1) := by decide +kernel
theorem dJ1_charAt_3b067_2 : decode cJ1_charAt_3b067 2 = .ok (.arraylength, 1) := by decide +kernel
theorem dJ1_charAt_3b067_3 : decode cJ1_charAt_3b067 3 = .ok (.invokestatic 9, 3) := by decide +kernel
theorem dJ1_charAt_3b067_6 : decode cJ1_charAt_3b067 6 = .ok (.aload_n 0, 1) := by decide +kernel
theorem dJ1_charAt_3b067_7 : decode cJ1_charAt_3b067 7 = .ok (.iload_n 1, 1) := by decide +kernel
theorem dJ1_charAt_3b067_8 : decode cJ1_charAt_3b067 8 = .ok (.baload, 1) := by decide +kernel
theorem dJ1_charAt_3b067_9 : decode cJ1_charAt_3b067 9 = .ok (.sipush 255, 3) := by decide +kernel
theorem dJ1_charAt_3b067_12 : decode cJ1_charAt_3b067 12 = .ok (.iand, 1) := by decide +kernel
theorem dJ1_charAt_3b067_13 : decode cJ1_charAt_3b067 13 = .ok (.i2c, 1) := by decide +kernel
theorem dJ1_charAt_3b067_14 : decode cJ1_charAt_3b067 14 = .ok (.ireturn, 1) := by decide +kernel
theorem dJ0_charAt_5068e_0 : decode cJ0_charAt_5068e 0 = .ok (.aload_n 0, 1) := by decide +kernel
theorem dJ0_charAt_5068e_1 : decode cJ0_charAt_5068e 1 = .ok (.invokevirtual 492, 3) := by decide +kernel
theorem dJ0_charAt_5068e_4 : decode cJ0_charAt_5068e 4 = .ok (.ifCond .eq 12, 3) := by decide +kernel
theorem dJ0_charAt_5068e_7 : decode cJ0_charAt_5068e 7 = .ok (.aload_n 0, 1) := by decide +kernel
theorem dJ0_charAt_5068e_8 : decode cJ0_charAt_5068e 8 = .ok (.getfield 9, 3) := by decide +kernel
theorem dJ0_charAt_5068e_11 : decode cJ0_charAt_5068e 11 = .ok (.iload_n 1, 1) := by decide +kernel
theorem dJ0_charAt_5068e_12 : decode cJ0_charAt_5068e 12 = .ok (.invokestatic 495, 3) := by decide +kernel
theorem dJ0_charAt_5068e_15 : decode cJ0_charAt_5068e 15 = .ok (.ireturn, 1) := by decide +kernel
theorem dJ0_charAt_5068e_16 : decode cJ0_charAt_5068e 16 = .ok (.aload_n 0, 1) := by decide +kernel
theorem dJ0_charAt_5068e_17 : decode cJ0_charAt_5068e 17 = .ok (.getfield 9, 3) := by decide +kernel
theorem dJ0_charAt_5068e_20 : decode cJ0_charAt_5068e 20 = .ok (.iload_n 1, 1) := by decide +kernel
theorem dJ0_charAt_5068e_21 : decode cJ0_charAt_5068e 21 = .ok (.invokestatic 498, 3) := by decide +kernel
theorem dJ0_charAt_5068e_24 : decode cJ0_charAt_5068e 24 = .ok (.ireturn, 1) := by decide +kernel
theorem CJ0_coder_7d493 (l : Launch) (D : va_G) (aC : Nat → ClassId) {E : Heap → Prop} {A : Nat → Prop} {Z : State → Prop} (zk : ZOK Z A) {adK adV : Nat → Nat} (hStr : ∀ U : State, Z U → ZS adK adV A U) {i : Nat} (hi : i < 6) : CM l D aC Z yJ0_coder_7d493 cJ0_coder_7d493 1 (some .byte) 0 0 0 0 E [.ref (adK i)] E (some (.int 0)) A := by
  refine CM.of rfl ?_
  intro p e s m below meth c b hr hlk hin2 zs hE
  have S := hStr s zs
  refine k_ent (Nat.le_of_ble_eq_true rfl) (fun ls hl => ?_)
  refine va_gets b.1 b.2.1 S.2.1 hE.2 b.2.2.2.1 (b.2.2.2.2.1 _ (in1 169 rfl rfl) _) (fun _ h => h) dJ0_coder_7d493_0 ?_
  refine lv_if_eq (tgt := 13) b.1 b.2.1 dJ0_coder_7d493_3 (by decide) (fun c1 => absurd c1 (by decide)) (fun c1 => ?_)
  refine lv_aload_n b.1 b.2.1 dJ0_coder_7d493_6 rfl (lv_at hl 0 rfl) ?_
  refine vk_getf b.1 b.2.1 (S.1.1 i hi).2.1 hE.2 b.2.2.2.1 (b.2.2.2.2.1 _ (in8 140 rfl rfl) _) (fun _ h => h) dJ0_coder_7d493_7 ?_
  refine lv_goto (tgt := 14) b.1 b.2.1 dJ0_coder_7d493_10 (by decide) ?_
  exact k_nret b hlk hr rfl hE (Nat.le_refl _) (Nat.le_refl _) dJ0_coder_7d493_14
theorem CJ0_isLatin1_aae02 (l : Launch) (D : va_G) (aC : Nat → ClassId) {E : Heap → Prop} {A : Nat → Prop} {Z : State → Prop} (zk : ZOK Z A) {adK adV : Nat → Nat} (hStr : ∀ U : State, Z U → ZS adK adV A U) {i : Nat} (hi : i < 6) : CM l D aC Z yJ0_isLatin1_aae02 cJ0_isLatin1_aae02 1 (some .boolean) 0 0 0 0 E [.ref (adK i)] E (some (.int 1)) A := by
  refine CM.of rfl ?_
  intro p e s m below meth c b hr hlk hin2 zs hE
  have S := hStr s zs
  refine k_ent (Nat.le_of_ble_eq_true rfl) (fun ls hl => ?_)
  refine va_gets b.1 b.2.1 S.2.1 hE.2 b.2.2.2.1 (b.2.2.2.2.1 _ (in1 169 rfl rfl) _) (fun _ h => h) dJ0_isLatin1_aae02_0 ?_
  refine lv_if_eq (tgt := 17) b.1 b.2.1 dJ0_isLatin1_aae02_3 (by decide) (fun c1 => absurd c1 (by decide)) (fun c1 => ?_)
  refine lv_aload_n b.1 b.2.1 dJ0_isLatin1_aae02_6 rfl (lv_at hl 0 rfl) ?_
  refine vk_getf b.1 b.2.1 (S.1.1 i hi).2.1 hE.2 b.2.2.2.1 (b.2.2.2.2.1 _ (in8 140 rfl rfl) _) (fun _ h => h) dJ0_isLatin1_aae02_7 ?_
  refine lv_if_ne (tgt := 17) b.1 b.2.1 dJ0_isLatin1_aae02_10 (by decide) (fun c1 => absurd rfl c1) (fun c1 => ?_)
  refine lv_iconst (v := 1) b.1 b.2.1 dJ0_isLatin1_aae02_13 (by decide) ?_
  refine lv_goto (tgt := 18) b.1 b.2.1 dJ0_isLatin1_aae02_14 (by decide) ?_
  exact k_zret b hlk hr (by decide) hE (Nat.le_refl _) (Nat.le_refl _) dJ0_isLatin1_aae02_18
def fJ0_length_8abf5 (x0 : Nat) : Option Int32 := oC (decide (x0 < 6)) (some (nI (slen x0)))
def fJ0_charAt_5068e (x0 : Nat) (x1 : Int32) : Option Int32 := oC (decide (x0 < 6) && ix x1 (slen x0)) (some (schr x0 x1.toNatClampNeg))
theorem sl_lt {i : Nat} {r : Int32} (h : fJ0_length_8abf5 i = some r) : i < 6 := of_decide_eq_true (oC_s h).1
theorem sc_lt {i : Nat} {k r : Int32} (h : fJ0_charAt_5068e i k = some r) : i < 6 := by
  have := (oC_s h).1
  simp only [Bool.and_eq_true, decide_eq_true_eq] at this
  exact this.1
theorem slen_lt (i : Nat) (hi : i < 6) : slen i < 2 ^ 31 := by
  match i, hi with
  | 0, _ => decide
  | 1, _ => decide
  | 2, _ => decide
  | 3, _ => decide
  | 4, _ => decide
  | 5, _ => decide
theorem CJ0_length_8abf5 (l : Launch) (D : va_G) (aC : Nat → ClassId) {E : Heap → Prop} {A : Nat → Prop} {Z : State → Prop} (zk : ZOK Z A) {adK adV : Nat → Nat} (hStr : ∀ U : State, Z U → ZS adK adV A U) {x0 : Nat} {rz : Int32} (hf : fJ0_length_8abf5 x0 = some rz) : CM l D aC Z yJ0_length_8abf5 cJ0_length_8abf5 1 (some .int) 1 20 0 0 E [.ref (adK x0)] E (some (.int rz)) A := by
  have hi := sl_lt hf
  have hz : rz = nI (slen x0) := by have := (oC_s hf).2; cases this; rfl
  refine CM.of rfl ?_
  intro p e s m below meth c b hr hlk hin2 zs hE
  have S := hStr s zs
  refine k_ent (Nat.le_of_ble_eq_true rfl) (fun ls hl => ?_)
  refine lv_aload_n b.1 b.2.1 dJ0_length_8abf5_0 rfl (lv_at hl 0 rfl) ?_
  refine vk_getf b.1 b.2.1 (S.1.1 x0 hi).2.2.1 hE.2 b.2.2.2.1 (b.2.2.2.2.1 _ (in8 139 rfl rfl) _) (fun _ h => h) dJ0_length_8abf5_1 ?_
  refine va_tlen b.1 b.2.1 (S.1.1 x0 hi).2.2.2 hE.2 rfl dJ0_length_8abf5_4 ?_
  refine lv_aload_n b.1 b.2.1 dJ0_length_8abf5_5 rfl (lv_at hl 0 rfl) ?_
  refine k_callV0 (C := RJ0) b zs zk hE (CJ0_coder_7d493 l D aC zk hStr hi) mc_J0_coder_7d493 (in1 165 rfl rfl) mi_J0_coder_7d493 ms_J0_coder_7d493 ini_RJ0 ok_J0_coder_7d493 (vk_recv S.1 hi hE.2) ⟨Nat.le_of_ble_eq_true rfl, Nat.le_of_ble_eq_true rfl⟩ rfl hl.1 rfl (k_room _ (by exact Nat.le_of_ble_eq_true rfl)) ⟨Nat.le_refl _, Nat.le_refl _⟩ dJ0_length_8abf5_6 (fun H locs hE => ?_)
  refine lv_ishr b.1 b.2.1 dJ0_length_8abf5_9 ?_
  refine k_nmI (x := rz) (by rw [hz]; exact (sc_shr0 (slen_lt x0 hi)).symm) ?_
  exact k_iret b hlk hr hE (Nat.le_refl _) (Nat.le_refl _) dJ0_length_8abf5_10
theorem CJ3_checkIndex_8e157 (l : Launch) (D : va_G) (aC : Nat → ClassId) {E : Heap → Prop} {A : Nat → Prop} {Z : State → Prop} {x0 x1 : Int32} {x2 : Option Nat} (h0 : ¬ x0 < 0) (h1 : x0 < x1) : CM l D aC Z yJ3_checkIndex_8e157 cJ3_checkIndex_8e157 3 (some .int) 0 0 0 0 E [.int x0, .int x1, va_rf x2] E (some (.int x0)) A := by
  refine CM.of rfl ?_
  intro p e s m below meth c b hr hlk hin2 zs hE
  cases x2 <;> (
    refine k_ent (Nat.le_of_ble_eq_true rfl) (fun ls hl => ?_)
    refine lv_iload_n b.1 b.2.1 dJ3_checkIndex_8e157_0 rfl (lv_at hl 0 rfl) ?_
    refine lv_if_lt (tgt := 9) b.1 b.2.1 dJ3_checkIndex_8e157_1 (by decide) (fun c1 => absurd c1 h0) (fun c1 => ?_)
    refine lv_iload_n b.1 b.2.1 dJ3_checkIndex_8e157_4 rfl (lv_at hl 0 rfl) ?_
    refine lv_iload_n b.1 b.2.1 dJ3_checkIndex_8e157_5 rfl (lv_at hl 1 rfl) ?_
    refine lv_icmp_lt (tgt := 16) b.1 b.2.1 dJ3_checkIndex_8e157_6 (by decide) (fun c1 => ?_) (fun c1 => absurd h1 c1)
    refine lv_iload_n b.1 b.2.1 dJ3_checkIndex_8e157_16 rfl (lv_at hl 0 rfl) ?_
    exact k_iret b hlk hr hE (Nat.le_refl _) (Nat.le_refl _) dJ3_checkIndex_8e157_17)
theorem CJ0_checkIndex_df160 (l : Launch) (D : va_G) (aC : Nat → ClassId) {E : Heap → Prop} {A : Nat → Prop} {Z : State → Prop} (zk : ZOK Z A) {adK adV : Nat → Nat} (hStr : ∀ U : State, Z U → ZS adK adV A U) {x0 x1 : Int32} (h0 : ¬ x0 < 0) (h1 : x0 < x1) : CM l D aC Z yJ0_checkIndex_df160 cJ0_checkIndex_df160 2 none 1 22 0 0 E [.int x0, .int x1] E none A := by
  refine CM.of rfl ?_
  intro p e s m below meth c b hr hlk hin2 zs hE
  have S := hStr s zs
  refine k_ent (Nat.le_of_ble_eq_true rfl) (fun ls hl => ?_)
  refine lv_iload_n b.1 b.2.1 dJ0_checkIndex_df160_0 rfl (lv_at hl 0 rfl) ?_
  refine lv_iload_n b.1 b.2.1 dJ0_checkIndex_df160_1 rfl (lv_at hl 1 rfl) ?_
  obtain ⟨v, hv⟩ : ∃ v : Option Nat, va_Z "jdk/internal/util/Preconditions" "SIOOBE_FORMATTER" "Ljava/util/function/BiFunction;" (va_rf v) A s s.heap := by
    rcases S.2.2.1 with h | ⟨t, h⟩
    · exact ⟨none, h⟩
    · exact ⟨some t, h⟩
  refine va_gets b.1 b.2.1 hv hE.2 b.2.2.2.1 (b.2.2.2.2.1 _ (in1 185 rfl rfl) _) (fun _ h => h) dJ0_checkIndex_df160_2 ?_
  refine k_callS0 b zs zk hE (CJ3_checkIndex_8e157 l D aC h0 h1) mc_J3_checkIndex_8e157 (in1 187 rfl rfl) mt_J3_checkIndex_8e157 ini_RJ3 ok_J3_checkIndex_8e157 ⟨Nat.le_of_ble_eq_true rfl, Nat.le_of_ble_eq_true rfl⟩ rfl hl.1 rfl (k_room _ (by exact Nat.le_of_ble_eq_true rfl)) ⟨Nat.le_refl _, Nat.le_refl _⟩ dJ0_checkIndex_df160_5 (fun H locs hE => ?_)
  refine lv_pop b.1 b.2.1 dJ0_checkIndex_df160_8 rfl ?_
  exact k_vret b hlk hr hE (Nat.le_refl _) (Nat.le_refl _) dJ0_checkIndex_df160_9
theorem CJ1_charAt_3b067 (l : Launch) (D : va_G) (aC : Nat → ClassId) {E : Heap → Prop} {A : Nat → Prop} {Z : State → Prop} (zk : ZOK Z A) {adK adV : Nat → Nat} (hStr : ∀ U : State, Z U → ZS adK adV A U) {i : Nat} {x1 : Int32} (hi : i < 6) (hx : ix x1 (slen i) = true) : CM l D aC Z yJ1_charAt_3b067 cJ1_charAt_3b067 2 (some .char) 2 43 0 0 E [.ref (adV i), .int x1] E (some (.int (schr i x1.toNatClampNeg))) A := by
  have hin := ix_in hx
  have h0 : ¬ x1 < 0 := fun q => hin (Or.inl q)
  have h1 : x1 < nI (slen i) := by
    have hk : x1.toNatClampNeg < slen i := Nat.not_le.mp fun q => hin (Or.inr q)
    have e : x1 = nI x1.toNatClampNeg := by
      have h2 : 0 ≤ x1.toInt := by
        have := Int32.not_lt.mp h0
        simpa using Int32.le_iff_toInt_le.mp this
      apply Int32.toInt_inj.mp
      rw [nI_toInt (Nat.lt_trans hk (slen_lt i hi))]
      show x1.toInt = ((x1.toInt.toNat : Nat) : Int)
      omega
    rw [e]
    exact nI_lt hk (slen_lt i hi)
  refine CM.of rfl ?_
  intro p e s m below meth c b hr hlk hin2 zs hE
  have S := hStr s zs
  refine k_ent (Nat.le_of_ble_eq_true rfl) (fun ls hl => ?_)
  refine lv_iload_n b.1 b.2.1 dJ1_charAt_3b067_0 rfl (lv_at hl 1 rfl) ?_
  refine lv_aload_n b.1 b.2.1 dJ1_charAt_3b067_1 rfl (lv_at hl 0 rfl) ?_
  refine va_tlen (v := nI (slen i)) b.1 b.2.1 (S.1.1 i hi).2.2.2 hE.2 rfl dJ1_charAt_3b067_2 ?_
  refine k_callS0 b zs zk hE (CJ0_checkIndex_df160 l D aC zk hStr h0 h1) mc_J0_checkIndex_df160 (in1 182 rfl rfl) mt_J0_checkIndex_df160 ini_RJ0 ok_J0_checkIndex_df160 ⟨Nat.le_of_ble_eq_true rfl, Nat.le_of_ble_eq_true rfl⟩ rfl hl.1 rfl (k_room _ (by exact Nat.le_of_ble_eq_true rfl)) ⟨Nat.le_refl _, Nat.le_refl _⟩ dJ1_charAt_3b067_3 (fun H locs hE => ?_)
  refine lv_aload_n b.1 b.2.1 dJ1_charAt_3b067_6 rfl (lv_at hl 0 rfl) ?_
  refine lv_iload_n b.1 b.2.1 dJ1_charAt_3b067_7 rfl (lv_at hl 1 rfl) ?_
  refine va_tb b.1 b.2.1 (S.1.1 i hi).2.2.2 hE.2 hin rfl dJ1_charAt_3b067_8 ?_
  refine lv_sipush (v := 255) b.1 b.2.1 dJ1_charAt_3b067_9 (by decide) ?_
  refine lv_iand b.1 b.2.1 dJ1_charAt_3b067_12 ?_
  refine lv_i2c (v := schr i x1.toNatClampNeg) b.1 b.2.1 dJ1_charAt_3b067_13 (sc_c2 _) ?_
  exact k_nret b hlk hr (sc_nar _) hE (Nat.le_refl _) (Nat.le_refl _) dJ1_charAt_3b067_14
theorem CJ0_charAt_5068e (l : Launch) (D : va_G) (aC : Nat → ClassId) {E : Heap → Prop} {A : Nat → Prop} {Z : State → Prop} (zk : ZOK Z A) {adK adV : Nat → Nat} (hStr : ∀ U : State, Z U → ZS adK adV A U) {x0 : Nat} {x1 rz : Int32} (hf : fJ0_charAt_5068e x0 x1 = some rz) : CM l D aC Z yJ0_charAt_5068e cJ0_charAt_5068e 2 (some .char) 3 64 0 0 E [.ref (adK x0), .int x1] E (some (.int rz)) A := by
  have hi := sc_lt hf
  have hx : ix x1 (slen x0) = true := by
    have := (oC_s hf).1
    simp only [Bool.and_eq_true] at this
    exact this.2
  have hz : rz = schr x0 x1.toNatClampNeg := by have := (oC_s hf).2; cases this; rfl
  subst hz
  refine CM.of rfl ?_
  intro p e s m below meth c b hr hlk hin2 zs hE
  have S := hStr s zs
  refine k_ent (Nat.le_of_ble_eq_true rfl) (fun ls hl => ?_)
  refine lv_aload_n b.1 b.2.1 dJ0_charAt_5068e_0 rfl (lv_at hl 0 rfl) ?_
  refine k_callV0 (C := RJ0) b zs zk hE (CJ0_isLatin1_aae02 l D aC zk hStr hi) mc_J0_isLatin1_aae02 (in1 175 rfl rfl) mi_J0_isLatin1_aae02 ms_J0_isLatin1_aae02 ini_RJ0 ok_J0_isLatin1_aae02 (vk_recv S.1 hi hE.2) ⟨Nat.le_of_ble_eq_true rfl, Nat.le_of_ble_eq_true rfl⟩ rfl hl.1 rfl (k_room _ (by exact Nat.le_of_ble_eq_true rfl)) ⟨Nat.le_refl _, Nat.le_refl _⟩ dJ0_charAt_5068e_1 (fun H locs hE => ?_)
  refine lv_if_eq (tgt := 16) b.1 b.2.1 dJ0_charAt_5068e_4 (by decide) (fun c1 => absurd c1 (by decide)) (fun c1 => ?_)
  refine lv_aload_n b.1 b.2.1 dJ0_charAt_5068e_7 rfl (lv_at hl 0 rfl) ?_
  refine vk_getf b.1 b.2.1 (S.1.1 x0 hi).2.2.1 hE.2 b.2.2.2.1 (b.2.2.2.2.1 _ (in8 139 rfl rfl) _) (fun _ h => h) dJ0_charAt_5068e_8 ?_
  refine lv_iload_n b.1 b.2.1 dJ0_charAt_5068e_11 rfl (lv_at hl 1 rfl) ?_
  refine k_callS0 b zs zk hE (CJ1_charAt_3b067 l D aC zk hStr hi hx) mc_J1_charAt_3b067 (in1 179 rfl rfl) mt_J1_charAt_3b067 ini_RJ1 ok_J1_charAt_3b067 ⟨Nat.le_of_ble_eq_true rfl, Nat.le_of_ble_eq_true rfl⟩ rfl hl.1 rfl (k_room _ (by exact Nat.le_of_ble_eq_true rfl)) ⟨Nat.le_refl _, Nat.le_refl _⟩ dJ0_charAt_5068e_12 (fun H locs hE => ?_)
  exact k_nret b hlk hr (sc_nar _) hE (Nat.le_refl _) (Nat.le_refl _) dJ0_charAt_5068e_15
