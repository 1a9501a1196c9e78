/-! the reading's loops -/
theorem oB_some {α β : Type} (x : Option α) (k : α → Option β) : oB (oB x (fun y => some y)) k = oB x k := by
  cases x <;> rfl
theorem oK4_0 {β : Type} (F : Option (PH × β × Nat × Nat)) : oK4 0 0 F = F := by
  cases F with
  | none => rfl
  | some x => obtain ⟨a, b, c, d⟩ := x; rw [oK4_v, Nat.zero_add, Nat.zero_add]
theorem oK4_4 {β : Type} (a b c d : Nat) (F : Option (PH × β × Nat × Nat)) : oK4 a b (oK4 c d F) = oK4 (a + c) (b + d) F := by
  cases F with
  | none => rfl
  | some x => obtain ⟨x, y, z, w⟩ := x; rw [oK4_v, oK4_v, oK4_v, Nat.add_assoc, Nat.add_assoc]
section ML
variable {h h' : PH} {u u' : MS} {G G' : Gh} {z c : Sz} {L n t y : Nat} {D : Nat → Nat × Nat × Nat × List Nat} {x1 x2 x3 x4 x5 x6 x7 : Int32}
theorem LR.sg (R : LR h u G z c n D t) (S : SX h G) (F : FL h u) {g : Nat} (hg : g = 516 ∨ g = 519) (x : Int32) : LR (sI h g 23 x) u G z c n D t := by
  have i : ∀ f b, ¬ (f = g ∧ b = 23) → hI (sI h g 23 x) f b = hI h f b := fun f b q => by simp only [z_hI_sI, z_hL_sI, z_hR_sI, z_hA_sI, z_hB_sI, z_hC_sI, z_hT_sI, z_hN_sI, z_hZ_sI, z_hI_sL, z_hL_sL, z_hR_sL, z_hA_sL, z_hB_sL, z_hC_sL, z_hT_sL, z_hN_sL, z_hZ_sL, z_hI_sR, z_hL_sR, z_hR_sR, z_hA_sR, z_hB_sR, z_hC_sR, z_hT_sR, z_hN_sR, z_hZ_sR, z_hI_sA, z_hL_sA, z_hR_sA, z_hA_sA, z_hB_sA, z_hC_sA, z_hT_sA, z_hN_sA, z_hZ_sA, z_hI_sB, z_hL_sB, z_hR_sB, z_hA_sB, z_hB_sB, z_hC_sB, z_hT_sB, z_hN_sB, z_hZ_sB, z_hI_sC, z_hL_sC, z_hR_sC, z_hA_sC, z_hB_sC, z_hC_sC, z_hT_sC, z_hN_sC, z_hZ_sC, z_hI_sY, z_hL_sY, z_hR_sY, z_hA_sY, z_hB_sY, z_hC_sY, z_hT_sY, z_hN_sY, z_hZ_sY, z_hI_nO, z_hL_nO, z_hR_nO, z_hA_nO, z_hB_nO, z_hC_nO, z_hT_nO, z_hN_nO, z_hZ_nO, z_hI_nA, z_hL_nA, z_hR_nA, z_hA_nA, z_hB_nA, z_hC_nA, z_hT_nA, z_hN_nA, z_hZ_nA]; rw [if_neg q]
  obtain ⟨c1, c2, c3, c4, c5, c6, c7⟩ := R.zc
  exact LR.mk R.le R.ok ⟨(i _ _ (by omega)).trans c1, (i _ _ (by omega)).trans c2, (i _ _ (by omega)).trans c3, (i _ _ (by omega)).trans c4, (i _ _ (by omega)).trans c5, (i _ _ (by omega)).trans c6, (i _ _ (by omega)).trans c7⟩ R.zm ((i _ _ (by omega)).trans R.o1) R.o2 R.ot (R.ct.d F (CD.s23 S R.ct.rG g x (by omega)) (MD.refl u c) (FM.refl u) (Nat.le_refl _)) R.p1 R.p2 R.p3 R.p4
/-- the end of both readings' loops -/
def EO (h : PH) (G : Gh) (z : Sz) (L n : Nat) (D : Nat → Nat × Nat × Nat × List Nat) (e f : Nat) (x1 x2 x3 x4 x5 x6 x7 : Int32) (F : Option (PH × Int32 × Nat × Nat)) (M : Option (MS × Int32)) : Prop := ∃ h' G' ci cj u', F = oK4 ci cj (fX11_read_67 h' 0) ∧ M = fX12_read_131 u' x1 x2 x3 x4 x5 x6 x7 ∧ RCx h h' G G' ci cj e f ∧ PI h' u' G' z L n D ∧ ((∃ t' c', Liv h' u' D n t' ∧ FL h' u' ∧ LR h' u' G' z c' n D t') ∨ Ded h' u')
theorem EO.pre {h1 : PH} {G1 : Gh} {ci cj e f e1 f1 e2 f2 : Nat} {F : Option (PH × Int32 × Nat × Nat)} {M : Option (MS × Int32)} (C : RCx h h1 G G1 ci cj e1 f1) (g : EO h1 G1 z L n D e f x1 x2 x3 x4 x5 x6 x7 F M) (he : e1 + e ≤ e2) (hf : f1 + f ≤ f2) : EO h G z L n D e2 f2 x1 x2 x3 x4 x5 x6 x7 (oK4 ci cj F) M := by
  obtain ⟨h', G', di, dj, u', a1, a2, a3, a4⟩ := g
  exact ⟨h', G', ci + di, cj + dj, u', by rw [a1, oK4_4], a2, (C.trans a3).mono he hf, a4⟩
theorem EO.q {h1 : PH} {e f e2 f2 : Nat} {F : Option (PH × Int32 × Nat × Nat)} {M : Option (MS × Int32)} (hn : hN h1 = hN h) (g : EO h1 G z L n D e f x1 x2 x3 x4 x5 x6 x7 F M) (he : e ≤ e2) (hf : f ≤ f2) : EO h G z L n D e2 f2 x1 x2 x3 x4 x5 x6 x7 F M := by
  have := EO.pre ((RC.n (G := G) hn).x 0 0) g (e2 := e2) (f2 := f2) (by omega) (by omega)
  rw [oK4_0] at this
  exact this
theorem read17_d (I : PI h u G z L n D) (X : Ded h u) (g : Nat) (x : Int32) : fX11_read_17 (g + 1) h 0 x = fX11_read_67 h 0 := by
  have S := I.sx
  have s0 : ¬ hI h 524 23 = 0 := fun q => by
    rcases X.st with p | p <;> rw [p] at q <;> exact absurd q (by decide)
  have go : fX4_goesOn h 23 = some 0 := by
    unfold fX4_goesOn fX4_goesOn_0
    rw [oC_d S.t23, if_neg s0]
  show fX11_read_17F (fX11_read_17 g) h 0 x = _
  unfold fX11_read_17F
  by_cases c : 1200 < x
  · rw [if_pos c]
  · rw [if_neg c, oC_d S.t0, S.r1411_0, oN_v, oC_d S.t23, go, oB_v, if_pos rfl]
theorem read109_d (X : Ded h u) (f : Nat) : fX12_read_109 (f + 1) u x1 x2 x3 x4 x5 x6 x7 = fX12_read_131 u x1 x2 x3 x4 x5 x6 x7 := by
  show fX12_read_109F (fX12_read_109 f) u x1 x2 x3 x4 x5 x6 x7 = _
  unfold fX12_read_109F
  rw [if_neg X.f.1]
theorem law199_d (X : Ded h u) (f : Nat) (l : Int32) : fX12_tellLaw_199 (f + 1) u l = some u := by
  show fX12_tellLaw_199F (fX12_tellLaw_199 f) u l = _
  unfold fX12_tellLaw_199F
  rw [is_d X, oB_v, if_pos rfl, is_d X, oB_v, if_pos rfl, is_d X, oB_v, if_pos rfl, must_d X, oB_v]
theorem EO.dead (I : PI h u G z L n D) (X : Ded h u) (e f g f2 : Nat) (x : Int32) : EO h G z L n D e f x1 x2 x3 x4 x5 x6 x7 (fX11_read_17 (g + 1) h 0 x) (fX12_read_109 (f2 + 1) u x1 x2 x3 x4 x5 x6 x7) := ⟨h, G, 0, 0, u, by rw [read17_d I X, oK4_0], read109_d X f2, (RC.refl h G).x e f, I, .inr X⟩
/-- where the class goes on, at a token that is no end -/
theorem r17_v (I : PI h u G z L n D) (V : Liv h u D n t) {i : Nat} (hi : i ≤ t) (g : Nat) : fX11_read_17 (g + 1) h 0 (nI i) = if hI h 519 23 = 0 ∧ (D t).2.1 = 0 then fX11_read_67 h 0 else if hI h 519 23 ≠ 0 ∧ ((D t).2.1 = 29 ∨ (D t).2.1 = 30 ∨ (D t).2.1 = 31) then oB3 (fX4_tellRule h 23) (fun h31 i32 j33 => oK4 i32 j33 (fX11_read_17 g h31 0 (nI (i + 1)))) else oB (fX4_tell h 23) (fun h29 => fX11_read_17 g h29 0 (nI (i + 1))) := by
  have S := I.sx
  have n2 := I.ts.n2
  have lt := V.lt
  have k0 : hI h 521 23 = 263 ↔ (D t).2.1 = 0 := by
    rw [V.kd]
    exact cK_inj (b := 0) (I.ts.tk t lt).2.2.2.2.2.2.2.1 (by omega)
  have k29 : hI h 521 23 = 309 ↔ (D t).2.1 = 29 := by
    rw [V.kd]
    exact cK_inj (b := 29) (I.ts.tk t lt).2.2.2.2.2.2.2.1 (by omega)
  have k30 : hI h 521 23 = 310 ↔ (D t).2.1 = 30 := by
    rw [V.kd]
    exact cK_inj (b := 30) (I.ts.tk t lt).2.2.2.2.2.2.2.1 (by omega)
  have k31 : hI h 521 23 = 311 ↔ (D t).2.1 = 31 := by
    rw [V.kd]
    exact cK_inj (b := 31) (I.ts.tk t lt).2.2.2.2.2.2.2.1 (by omega)
  have go : fX4_goesOn h 23 = some (if hI h 519 23 = 0 ∧ (D t).2.1 = 0 then 0 else 1) := by
    unfold fX4_goesOn fX4_goesOn_0
    rw [oC_d S.t23, if_pos V.st]
    by_cases c : hI h 519 23 = 0
    · rw [if_pos c]
      by_cases c2 : (D t).2.1 = 0
      · rw [if_pos (k0.mpr c2), if_pos ⟨c, c2⟩]
      · rw [if_neg (fun q => c2 (k0.mp q)), if_neg (fun q => c2 q.2)]
    · rw [if_neg c, if_neg (fun q => c q.1)]
  have ar : fX4_isAtRule h 23 = some (if hI h 519 23 ≠ 0 ∧ ((D t).2.1 = 29 ∨ (D t).2.1 = 30 ∨ (D t).2.1 = 31) then 1 else 0) := by
    unfold fX4_isAtRule fX4_isAtRule_0
    rw [oC_d S.t23]
    by_cases c : hI h 519 23 = 0
    · rw [if_pos c, if_neg (fun q => q.1 c)]
    · rw [if_neg c]
      by_cases c1 : (D t).2.1 = 29
      · rw [if_pos (k29.mpr c1), if_pos ⟨c, .inl c1⟩]
      · rw [if_neg (fun q => c1 (k29.mp q))]
        by_cases c2 : (D t).2.1 = 30
        · rw [if_pos (k30.mpr c2), if_pos ⟨c, .inr (.inl c2)⟩]
        · rw [if_neg (fun q => c2 (k30.mp q))]
          by_cases c3 : (D t).2.1 = 31
          · rw [if_pos (k31.mpr c3), if_pos ⟨c, .inr (.inr c3)⟩]
          · rw [if_neg (fun q => c3 (k31.mp q)), if_neg (fun q => by omega)]
  show fX11_read_17F (fX11_read_17 g) h 0 (nI i) = _
  unfold fX11_read_17F fX11_read_61
  rw [if_neg (show ¬ (1200 : Int32) < nI i from nI_nlt (a := 1200) (by omega) (by omega)), oC_d S.t0, S.r1411_0, oN_v, oC_d S.t23, go, oB_v]
  by_cases c : hI h 519 23 = 0 ∧ (D t).2.1 = 0
  · rw [if_pos c, if_pos rfl, if_pos c]
  · rw [if_neg c, if_neg (by decide), if_neg c, ar, oB_v]
    by_cases c2 : hI h 519 23 ≠ 0 ∧ ((D t).2.1 = 29 ∨ (D t).2.1 = 30 ∨ (D t).2.1 = 31)
    · rw [if_pos c2, if_neg (by decide), if_pos c2]
      simp only [oL_v, nI_1]
    · rw [if_neg c2, if_pos rfl, if_neg c2]
      simp only [oL_v, nI_1]
/-- the class's statement, outside of a law -/
theorem tellC_v (I : PI h u G z L n D) (V : Liv h u D n t) (z9 : hI h 519 23 = 0) : fX4_tell h 23 = if (D t).2.1 = 20 then fX4_tellOne h 23 300 (some 6) else if (D t).2.1 = 21 then fX4_tellWord h 23 else if (D t).2.1 = 22 then fX4_tellOne h 23 302 (some 10) else if (D t).2.1 = 23 then fX4_tellLaw h 23 else if (D t).2.1 = 28 then fX4_tellOver h 23 else some (stH h 1) := by
  have S := I.sx
  have lt := V.lt
  have ob : ∀ x : Option PH, oB x (fun y => some y) = x := fun x => by cases x <;> rfl
  have kk : ∀ j, j < 38 → (cK (D t).2.1 = cK j ↔ (D t).2.1 = j) := fun j hj => cK_inj (I.ts.tk t lt).2.2.2.2.2.2.2.1 hj
  have k20 : cK (D t).2.1 = 300 ↔ (D t).2.1 = 20 := kk 20 (by omega)
  have k21 : cK (D t).2.1 = 301 ↔ (D t).2.1 = 21 := kk 21 (by omega)
  have k22 : cK (D t).2.1 = 302 ↔ (D t).2.1 = 22 := kk 22 (by omega)
  have k23 : cK (D t).2.1 = 303 ↔ (D t).2.1 = 23 := kk 23 (by omega)
  have k28 : cK (D t).2.1 = 308 ↔ (D t).2.1 = 28 := kk 28 (by omega)
  have st : fX4_tell_131 h 23 = some (stH h 1) := by
    unfold fX4_tell_131
    rw [oC_d S.t23, stopAt_v I V, oB_v]
  unfold fX4_tell fX4_tell_0
  rw [oC_d S.t23, if_pos z9, oL_v, V.kd, S.r512_23, oN_v, oC_d S.t5, S.r128_5, oN_v, oC_d S.t5, S.r130_5, st, ob, ob, ob, ob, ob]
  simp only [k20, k21, k22, k23, k28]
  by_cases c : (D t).2.1 = 20
  · rw [if_pos c, if_pos c]
  rw [if_neg c, if_neg c]
  by_cases c : (D t).2.1 = 21
  · rw [if_pos c, if_pos c]
  rw [if_neg c, if_neg c]
  by_cases c : (D t).2.1 = 22
  · rw [if_pos c, if_pos c]
  rw [if_neg c, if_neg c]
  by_cases c : (D t).2.1 = 23
  · rw [if_pos c, if_pos c]
  rw [if_neg c, if_neg c]
  by_cases c : (D t).2.1 = 28
  · have e : cK 28 = 308 := rfl
    rw [if_pos c, c, e, if_neg (by decide), if_neg (by decide), if_neg (by decide), if_neg (by decide)]
  rw [if_neg c]
  repeat' split
  all_goals rfl
/-- the reference's statement -/
theorem tellM_v (I : PI h u G z L n D) (V : Liv h u D n t) : fX12_tell u = if (D t).2.1 = 20 then (oB (fX12_next u) (fun h31 => oB2 (fX12_tells h31 25 (mI h31 18) 5) (fun h34 _ => oB (fX12_must h34 5) (fun h36 => if mI h36 13 ≤ 0 then fX12_tell_93 FU h36 0 else some h36)))) else if (D t).2.1 = 21 then (oB (fX12_next u) (fun h40 => oB2 (fX12_tells h40 27 (mI h40 19) 12) (fun h43 _ => oB2 (fX12_whole h43 2) (fun h46 r45 => oB (fX12_must h46 5) (fun h48 => if mI h48 13 ≤ 0 then oC (ix r45 (mlen 7)) (oC (ix (mI h48 19) (mlen 28)) (oL (mSA h48 28 (Int32.toNatClampNeg (mI h48 19)) (mA h48 7 (Int32.toNatClampNeg r45))) (fun h52 => oL (mSI h52 19 (mI h52 19 + 1)) (fun h53 => some h53)))) else some h48))))) else if (D t).2.1 = 22 then (oB (fX12_next u) (fun h56 => oB2 (fX12_tells h56 29 (mI h56 20) 4) (fun h59 _ => oB (fX12_must h59 5) (fun h61 => if mI h61 13 = 0 then oL (mSI h61 20 (mI h61 20 + 1)) (fun h63 => some h63) else some h61)))) else if (D t).2.1 = 23 then oB (fX12_tellLaw u) (fun h66 => some h66) else if (D t).2.1 = 28 then (if mI u 23 = 20 then oB (fX12_fail u 2) (fun h74 => fX12_tell_261 h74) else fX12_tell_261 u) else some (mSI (mSI u 13 1) 14 (nI (D t).1)) := by
  have lt := V.lt
  have n2 := I.ts.n2
  have tb := (I.ts.tk t lt).2.2.2.2.2.2.2.1
  have m5 : mA u 5 t = nI (D t).2.1 := (I.ts.tk t lt).2.2.2.1
  have k20 : nI (D t).2.1 = 20 ↔ (D t).2.1 = 20 := nI_eq (b := 20) (by omega) (by omega)
  have k21 : nI (D t).2.1 = 21 ↔ (D t).2.1 = 21 := nI_eq (b := 21) (by omega) (by omega)
  have k22 : nI (D t).2.1 = 22 ↔ (D t).2.1 = 22 := nI_eq (b := 22) (by omega) (by omega)
  have k23 : nI (D t).2.1 = 23 ↔ (D t).2.1 = 23 := nI_eq (b := 23) (by omega) (by omega)
  have k28 : nI (D t).2.1 = 28 ↔ (D t).2.1 = 28 := nI_eq (b := 28) (by omega) (by omega)
  have st : fX12_tell_359 u = some (mSI (mSI u 13 1) 14 (nI (D t).1)) := by
    unfold fX12_tell_359
    rw [fail_v I V, oB_v]
  unfold fX12_tell fX12_tell_0
  rw [V.t0, oC_t (ix_n (show t < mlen 5 by show t < 1203; omega) (by decide)), nI_clamp (show t < 2147483648 by omega), m5, oL_v, st]
  simp only [k20, k21, k22, k23, k28]
  by_cases c : (D t).2.1 = 20
  · rw [if_pos c, if_pos c]
  rw [if_neg c, if_neg c]
  by_cases c : (D t).2.1 = 21
  · rw [if_pos c, if_pos c]
  rw [if_neg c, if_neg c]
  by_cases c : (D t).2.1 = 22
  · rw [if_pos c, if_pos c]
  rw [if_neg c, if_neg c]
  by_cases c : (D t).2.1 = 23
  · rw [if_pos c, if_pos c]
  rw [if_neg c, if_neg c]
  by_cases c : (D t).2.1 = 28
  · rw [if_pos c, c, if_neg (by decide), if_neg (by decide), if_neg (by decide), if_neg (by decide)]
  rw [if_neg c]
  repeat' split
  all_goals rfl
end ML
