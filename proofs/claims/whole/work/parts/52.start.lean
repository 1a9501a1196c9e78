def tmJ (i : Nat) : Term := match i with
  | 0 => .string "StatuteBench$Judgment" 203
  | 1 => .string "StatuteBench$Judgment" 232
  | 2 => .string "StatuteBench$Judgment" 234
  | 3 => .string "StatuteBench$Judgment" 239
  | 4 => .string "StatuteBench$Judgment" 241
  | _ => .string "StatuteBench$Tokens" 25
def fltJ : List Cond := flatC (Jvm.Cond.and given_1 narrow_1)
theorem stJ1 : ∀ i, i < 6 → Cond.exactly (tmJ i) "java/lang/String" ∈ fltJ := by decide +kernel
theorem stJ2 : ∀ i, i < 6 → Cond.eq (.field (tmJ i) "java/lang/String" "coder" "B") (.int 0) ∈ fltJ := by decide +kernel
theorem stJ3 : ∀ i, i < 6 → Cond.arrayOf (.field (tmJ i) "java/lang/String" "value" "[B") .byte ∈ fltJ := by decide +kernel
theorem stJ4 : ∀ i, i < 6 → Cond.eq (.length (.field (tmJ i) "java/lang/String" "value" "[B")) (.int (Int32.ofNat (lenJ.getD i 0))) ∈ fltJ := by decide +kernel
theorem stJ5 : ∀ i, i < 6 → ∀ j, j < lenJ.getD i 0 → Cond.eq (.elem (.field (tmJ i) "java/lang/String" "value" "[B") (.int (Int32.ofNat j))) (.int ((bytJ.getD i []).getD j 0)) ∈ fltJ := by decide +kernel
theorem stJ6 : ∀ i, i < 6 → ∀ j, j < 6 → i ≠ j → Cond.not (Cond.eq (tmJ i) (tmJ j)) ∈ fltJ ∨ Cond.not (Cond.eq (tmJ j) (tmJ i)) ∈ fltJ := by decide +kernel
theorem stJ7 : Cond.eq (.static "java/lang/String" "COMPACT_STRINGS" "Z") (.int 1) ∈ fltJ := by decide +kernel
theorem stJ8 : Cond.isRef (.static "jdk/internal/util/Preconditions" "SIOOBE_FORMATTER" "Ljava/util/function/BiFunction;") ∈ fltJ := by decide +kernel
theorem lenJ_lt : ∀ i, i < 6 → lenJ.getD i 0 < 2 ^ 31 := by decide +kernel
set_option maxHeartbeats 4000000 in
theorem start_ZS {s : State} {bb : Nat} {A : Nat → Prop} (hgv : (Jvm.Cond.and given_1 narrow_1).before #[Value.ref bb] s = true) (hts : ∀ w ∈ lw_tbl, w.before #[Value.ref bb] s = true) (hA : ∀ a : Nat, a < s.heap.size → ¬ A a) : ∃ adK adV : Nat → Nat, ZS adK adV A s := by
  have hs : ∀ x ∈ fltJ, x.before #[Value.ref bb] s = true := flat_of_before _ hgv
  obtain ⟨adK, adV, hS, hK⟩ := vk_Sof (A := A) (tm := tmJ) (len := lenJ) (byt := bytJ) (N := 6) lenJ_lt (fun i hi => hs _ (stJ1 i hi)) (fun i hi => hs _ (stJ2 i hi)) (fun i hi => hs _ (stJ3 i hi)) (fun i hi => hs _ (stJ4 i hi)) (fun i hi j hj => hs _ (stJ5 i hi j hj)) (fun i j hi hj hij => (stJ6 i hi j hj hij).imp (hs _) (hs _)) hA
  have tin : ∀ w, w ∈ tables_1 → w.before #[Value.ref bb] s = true := fun w h => hts w (List.mem_append_right _ h)
  refine ⟨adK, adV, hS, va_Zof (tin _ (by decide +kernel)) (tin _ (by decide +kernel)) (va_eqt (hs _ stJ7)) hA, va_Zqof (tin _ (by decide +kernel)) (tin _ (by decide +kernel)) (hs _ stJ8) hA, vk_R.of (tin _ (by decide +kernel)) (hK 0 (by decide)), vk_R.of (tin _ (by decide +kernel)) (hK 1 (by decide)), vk_R.of (tin _ (by decide +kernel)) (hK 2 (by decide)), vk_R.of (tin _ (by decide +kernel)) (hK 3 (by decide)), vk_R.of (tin _ (by decide +kernel)) (hK 4 (by decide)), vk_R.of (tin _ (by decide +kernel)) (hK 5 (by decide))⟩
set_option maxHeartbeats 4000000 in
theorem start_SK {s : State} {bb : Nat} (hts : ∀ w ∈ lw_tbl, w.before #[Value.ref bb] s = true) : ∃ (D : va_G) (aC : Nat → ClassId), SK D aC s := by
  have hTB : TB s := TB.of hts
  obtain ⟨c0, i0, k0⟩ := u_known (C := RX0) (T := TX0) (N := 2) (n := 2) (hTB.ts #[]) inX0 (hTB _ (in1 31 rfl rfl) #[])
  obtain ⟨c1, i1, k1⟩ := u_known (C := RX1) (T := TX1) (N := 16) (n := 16) (hTB.ts #[]) inX1 (hTB _ (in1 47 rfl rfl) #[])
  obtain ⟨c2, i2, k2⟩ := u_known (C := RX2) (T := TX2) (N := 8) (n := 8) (hTB.ts #[]) inX2 (hTB _ (in2 219 rfl rfl) #[])
  obtain ⟨c3, i3, k3⟩ := u_known (C := RX3) (T := TX3) (N := 3) (n := 3) (hTB.ts #[]) inX3 (hTB _ (in4 25 rfl rfl) #[])
  obtain ⟨c4, i4, k4⟩ := u_known (C := RX4) (T := TX4) (N := 16) (n := 16) (hTB.ts #[]) inX4 (hTB _ (in1 149 rfl rfl) #[])
  obtain ⟨c5, i5, k5⟩ := u_known (C := RX5) (T := TX5) (N := 19) (n := 19) (hTB.ts #[]) inX5 (hTB _ (in4 12 rfl rfl) #[])
  obtain ⟨c6, i6, k6⟩ := u_known (C := RX6) (T := TX6) (N := 10) (n := 10) (hTB.ts #[]) inX6 (hTB _ (in4 18 rfl rfl) #[])
  obtain ⟨c7, i7, k7⟩ := u_known (C := RX7) (T := TX7) (N := 3) (n := 3) (hTB.ts #[]) inX7 (hTB _ (in1 53 rfl rfl) #[])
  obtain ⟨c8, i8, k8⟩ := u_known (C := RX8) (T := TX8) (N := 6) (n := 6) (hTB.ts #[]) inX8 (hTB _ (in2 212 rfl rfl) #[])
  obtain ⟨c9, i9, k9⟩ := u_known (C := RX9) (T := TX9) (N := 5) (n := 5) (hTB.ts #[]) inX9 (hTB _ (in3 216 rfl rfl) #[])
  obtain ⟨c10, i10, k10⟩ := u_known (C := RX10) (T := TX10) (N := 7) (n := 7) (hTB.ts #[]) inX10 (hTB _ (in1 155 rfl rfl) #[])
  obtain ⟨c11, i11, k11⟩ := u_known (C := RX11) (T := TX11) (N := 9) (n := 9) (hTB.ts #[]) inX11 (hTB _ (in1 23 rfl rfl) #[])
  obtain ⟨c12, i12, k12⟩ := u_known (C := RX12) (T := TX12) (N := 116) (n := 116) (hTB.ts #[]) inX12 (hTB _ (in5 189 rfl rfl) #[])
  obtain ⟨a0, ka0, ca0, f0, g0, e0⟩ := Cond.arrayClass_spec (show (Cond.arrayClass .byte).holds #[] s none s [] = true from hTB _ (in1 45 rfl rfl) #[])
  obtain ⟨a1, ka1, ca1, f1, g1, e1⟩ := Cond.arrayClass_spec (show (Cond.arrayClass .int).holds #[] s none s [] = true from hTB _ (in1 147 rfl rfl) #[])
  obtain ⟨a2, ka2, ca2, f2, g2, e2⟩ := Cond.arrayClass_spec (show (Cond.arrayClass .long).holds #[] s none s [] = true from hTB _ (in1 74 rfl rfl) #[])
  obtain ⟨a3, ka3, ca3, f3, g3, e3⟩ := Cond.arrayClass_spec (show (Cond.arrayClass .boolean).holds #[] s none s [] = true from hTB _ (in7 73 rfl rfl) #[])
  have ao4 : va_AO "StatuteBench$Rule" s := va_AO.of (hts _ (List.mem_append_right _ (by decide +kernel)))
  obtain ⟨ca4, a4, ka4, l4, -, g4, e4, f4⟩ := Cond.arrayOver_spec ao4
  have ao5 : va_AO "StatuteBench$Condition" s := va_AO.of (hts _ (List.mem_append_right _ (by decide +kernel)))
  obtain ⟨ca5, a5, ka5, l5, -, g5, e5, f5⟩ := Cond.arrayOver_spec ao5
  have ao6 : va_AO "StatuteBench$Testimony" s := va_AO.of (hts _ (List.mem_append_right _ (by decide +kernel)))
  obtain ⟨ca6, a6, ka6, l6, -, g6, e6, f6⟩ := Cond.arrayOver_spec ao6
  have ao7 : va_AO "StatuteBench$Fraction" s := va_AO.of (hts _ (List.mem_append_right _ (by decide +kernel)))
  obtain ⟨ca7, a7, ka7, l7, -, g7, e7, f7⟩ := Cond.arrayOver_spec ao7
  refine ⟨(fun k => if k = 0 then c0 else if k = 1 then c1 else if k = 2 then c2 else if k = 3 then c3 else if k = 4 then c4 else if k = 5 then c5 else if k = 6 then c6 else if k = 7 then c7 else if k = 8 then c8 else if k = 9 then c9 else if k = 10 then c10 else if k = 11 then c11 else c12, fun k => if k = 0 then i0 else if k = 1 then i1 else if k = 2 then i2 else if k = 3 then i3 else if k = 4 then i4 else if k = 5 then i5 else if k = 6 then i6 else if k = 7 then i7 else if k = 8 then i8 else if k = 9 then i9 else if k = 10 then i10 else if k = 11 then i11 else i12), fun k => if k = 0 then a0 else if k = 1 then a1 else if k = 2 then a2 else if k = 3 then a3 else if k = 4 then a4 else if k = 5 then a5 else if k = 6 then a6 else a7, hTB, ⟨?_, ?_⟩, ao4, ao5, ao6, ao7⟩
  · intro c q hq
    match c, hq with
    | 0, hq => cases hq; exact k0
    | 1, hq => cases hq; exact k1
    | 2, hq => cases hq; exact k2
    | 3, hq => cases hq; exact k3
    | 4, hq => cases hq; exact k4
    | 5, hq => cases hq; exact k5
    | 6, hq => cases hq; exact k6
    | 7, hq => cases hq; exact k7
    | 8, hq => cases hq; exact k8
    | 9, hq => cases hq; exact k9
    | 10, hq => cases hq; exact k10
    | 11, hq => cases hq; exact k11
    | 12, hq => cases hq; exact k12
    | c + 13, hq => simp [classes] at hq
  · intro k q hq
    match k, hq with
    | 0, hq => cases hq; exact ⟨fun n z => ⟨fun _ h => (by cases h), ka0, g0, ca0, e0⟩, f0⟩
    | 1, hq => cases hq; exact ⟨fun n z => ⟨fun _ h => (by cases h), ka1, g1, ca1, e1⟩, f1⟩
    | 2, hq => cases hq; exact ⟨fun n z => ⟨fun _ h => (by cases h), ka2, g2, ca2, e2⟩, f2⟩
    | 3, hq => cases hq; exact ⟨fun n z => ⟨fun _ h => (by cases h), ka3, g3, ca3, e3⟩, f3⟩
    | 4, hq => cases hq; exact ⟨fun n z => ⟨fun _ h => (by cases h), ka4, g4, ca4, e4⟩, ka4, ca4, g4, e4, l4, f4⟩
    | 5, hq => cases hq; exact ⟨fun n z => ⟨fun _ h => (by cases h), ka5, g5, ca5, e5⟩, ka5, ca5, g5, e5, l5, f5⟩
    | 6, hq => cases hq; exact ⟨fun n z => ⟨fun _ h => (by cases h), ka6, g6, ca6, e6⟩, ka6, ca6, g6, e6, l6, f6⟩
    | 7, hq => cases hq; exact ⟨fun n z => ⟨fun _ h => (by cases h), ka7, g7, ca7, e7⟩, ka7, ca7, g7, e7, l7, f7⟩
    | k + 8, hq => simp [atys] at hq
