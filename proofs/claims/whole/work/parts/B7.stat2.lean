theorem oB_inv {α β : Type} {x : Option α} {f : α → Option β} {y : β} (h : oB x f = some y) : ∃ a, x = some a ∧ f a = some y := by
  cases x with
  | none => cases h
  | some a => exact ⟨a, rfl, h⟩
theorem oB2_inv {α β γ : Type} {x : Option (α × γ)} {f : α → γ → Option β} {y : β} (h : oB2 x f = some y) : ∃ a b, x = some (a, b) ∧ f a b = some y := by
  cases x with
  | none => cases h
  | some a => obtain ⟨a, b⟩ := a; exact ⟨a, b, rfl, h⟩
/-- a statement read by both: told, or stopped -/
def SO (h : PH) (u : MS) (G : Gh) (z : Sz) (L n : Nat) (D : Nat → Nat × Nat × Nat × List Nat) (t nr : Nat) (F : Option PH) (M : Option MS) : Prop := ∃ h' u', F = some h' ∧ M = some u' ∧ PI h' u' G z L n D ∧ hN h' = hN h ∧ hI h' 518 23 = hI h 518 23 ∧ hI h' 519 23 = hI h 519 23 ∧ ((∃ t' c', t < t' ∧ c'.nr = nr ∧ Liv h' u' D n t' ∧ FL h' u' ∧ LR h' u' G z c' n D t') ∨ Ded h' u')
section ST
variable {h : PH} {u : MS} {G : Gh} {z c : Sz} {L n t : Nat} {D : Nat → Nat × Nat × Nat × List Nat}
theorem LR.roP (R : LR h u G z c n D t) (S : SX h G) : RO h u 6 7 25 c.np 5 := ⟨S.t6, S.r896_6, S.t7, S.n7, R.zc.1, R.ok.1, by decide, by decide, by omega, R.ct.pn, by omega⟩
theorem LR.roW (R : LR h u G z c n D t) (S : SX h G) : RO h u 8 9 27 c.nw 12 := ⟨S.t8, S.r896_8, S.t9, S.n9, R.zc.2.1, R.ok.2.1, by decide, by decide, by omega, R.ct.wn, by omega⟩
theorem LR.roS (R : LR h u G z c n D t) (S : SX h G) : RO h u 10 11 29 c.ns 4 := ⟨S.t10, S.r896_10, S.t11, S.n11, R.zc.2.2.1, R.ok.2.2.1, by decide, by decide, by omega, R.ct.sn, by omega⟩
theorem LR.roL (R : LR h u G z c n D t) (S : SX h G) : RO h u 12 13 30 c.nl 10 := ⟨S.t12, S.r896_12, S.t13, S.n13, R.zc.2.2.2.1, R.ok.2.2.2.1, by decide, by decide, by omega, R.ct.ln, by omega⟩
theorem LR.roR (R : LR h u G z c n D t) (S : SX h G) : RO h u 14 15 38 c.nr 30 := ⟨S.t14, S.r896_14, S.t15, S.n15, R.zc.2.2.2.2.1, R.ok.2.2.2.2.1, by decide, by decide, by omega, R.ct.rn, by omega⟩
theorem next_w (I : PI h u G z L n D) (V : Liv h u D n t) {w : MS} (e : fX12_next u = some w) : W' u w := by
  rw [next_m I V] at e
  by_cases c : t < 1200
  · rw [if_pos c] at e
    rw [← Option.some.inj e]
    exact W'.ad u (t + 1)
  · rw [if_neg c] at e
    rw [← Option.some.inj e]
    exact W'.fa u 2 _
theorem person_v (I : PI h u G z L n D) (V : Liv h u D n t) (F : FL h u) (R : LR h u G z c n D t) (e : (D t).2.1 = 20) : SO h u G z L n D t c.nr (fX4_tellOne h 23 300 (some 6)) (oB (fX12_next u) (fun h31 => oB2 (fX12_tells h31 25 (mI h31 18) 5) (fun h34 _ => oB (fX12_must h34 5) (fun h36 => if mI h36 13 ≤ 0 then fX12_tell_93 FU h36 0 else some h36)))) := by
  have S := I.sx
  have le := R.le
  obtain ⟨h3, u3, e1, e2, I3, n3, g3, o⟩ := one_v I V F (R.roP S) (kw := 20) (by omega) (by omega) (by omega) e (.inl ⟨rfl, rfl, le.1⟩) (by omega) (by unfold kM; have := le.1; omega)
  have e1' : fX4_tellOne h 23 300 (some 6) = some h3 := e1
  obtain ⟨w, f1, f2⟩ := oB_inv e2
  obtain ⟨w2, r, f3, f4⟩ := oB2_inv f2
  have w18 : mI w 18 = nI c.np := ((next_w I V f1).I 18 (by omega)).trans R.zm.1
  have f3' : fX12_tells w 25 (mI w 18) 5 = some (w2, r) := by rw [w18]; exact f3
  rcases o with ⟨h1, u1, x, y, N, sm, c3, Q1, W1, M1, F1, Q3, W3, F3, M3, V3⟩ | X
  · have I1 := I.q Q1 W1
    have D2 : (D t).1 ≤ (D (t + 3)).1 := I.ts.le (by omega) V3.lt
    have R1 := R.q (t' := t) S F Q1 W1 M1 (Nat.le_refl _) (Nat.le_refl _)
    have m18 : mI u3 18 = nI c.np := (W3.I 18 (by omega)).trans R1.zm.1
    obtain ⟨u4, g1, g2, g3', g4, g5, g6⟩ := zero_v sm m18 (fun i h1 h2 => (I3.nu i (by omega)).2.2.2 (by have := le.1; omega))
    have R4 := LR.wP (u4 := u4) (t' := t + 3) I1 R1 F1 N sm Q3 W3 M3 g2 g3' g4 g5 g6 (by omega) D2
    refine ⟨h3, u4, e1', ?_, ?_, n3, g3 518 (by omega), g3 519 (by omega), .inl ⟨t + 3, c.wP, by omega, rfl, ?_, ?_, R4⟩⟩
    · rw [f1, oB_v, f3', oB2_v, f4, oB_v, V3.f0, if_pos (by decide), g1]
    · refine I3.d (CD.refl I3.sx z) ⟨fun k hk => ⟨g6 k (by omega), by rw [g4], fun i => by rw [g2], fun i => by rw [g3']⟩, fun k i _ => ⟨by rw [g2], by rw [g3']⟩⟩ I3.rm.p3
    · exact V3.fr (fun _ _ => rfl) rfl (g6 11 (by omega)) (g6 13 (by omega))
    · exact F3.fr rfl rfl (g6 15 (by omega)) (g6 16 (by omega))
  · refine ⟨h3, u3, e1', ?_, I3, n3, g3 518 (by omega), g3 519 (by omega), .inr X⟩
    rw [f1, oB_v, f3', oB2_v, f4, oB_v, if_neg X.f.2.1]
theorem sum_v (I : PI h u G z L n D) (V : Liv h u D n t) (F : FL h u) (R : LR h u G z c n D t) (e : (D t).2.1 = 22) : SO h u G z L n D t c.nr (fX4_tellOne h 23 302 (some 10)) (oB (fX12_next u) (fun h56 => oB2 (fX12_tells h56 29 (mI h56 20) 4) (fun h59 _ => oB (fX12_must h59 5) (fun h61 => if mI h61 13 = 0 then oL (mSI h61 20 (mI h61 20 + 1)) (fun h63 => some h63) else some h61)))) := by
  have S := I.sx
  have le := R.le
  obtain ⟨h3, u3, e1, e2, I3, n3, g3, o⟩ := one_v I V F (R.roS S) (kw := 22) (by omega) (by omega) (by omega) e (.inr (.inr (.inl ⟨rfl, rfl, le.2.2.1⟩))) (by omega) (by unfold kM; have := le.2.2.1; omega)
  have e1' : fX4_tellOne h 23 302 (some 10) = some h3 := e1
  obtain ⟨w, f1, f2⟩ := oB_inv e2
  obtain ⟨w2, r, f3, f4⟩ := oB2_inv f2
  have w20 : mI w 20 = nI c.ns := ((next_w I V f1).I 20 (by omega)).trans R.zm.2.2.1
  have f3' : fX12_tells w 29 (mI w 20) 4 = some (w2, r) := by rw [w20]; exact f3
  rcases o with ⟨h1, u1, x, y, N, sm, c3, Q1, W1, M1, F1, Q3, W3, F3, M3, V3⟩ | X
  · have I1 := I.q Q1 W1
    have D2 : (D t).1 ≤ (D (t + 3)).1 := I.ts.le (by omega) V3.lt
    have R1 := R.q (t' := t) S F Q1 W1 M1 (Nat.le_refl _) (Nat.le_refl _)
    have m20 : mI u3 20 = nI c.ns := (W3.I 20 (by omega)).trans R1.zm.2.2.1
    have g6 : ∀ k, k ≠ 20 → mI (mSI u3 20 (nI (c.ns + 1))) k = mI u3 k := fun k hk => by simp only [z_mI_mSI, z_mL_mSI, z_mA_mSI, z_mB_mSI, z_mI_mSL, z_mL_mSL, z_mA_mSL, z_mB_mSL, z_mI_mSA, z_mL_mSA, z_mA_mSA, z_mB_mSA, z_mI_mSB, z_mL_mSB, z_mA_mSB, z_mB_mSB]; rw [if_neg hk]
    have R4 := LR.wS (u4 := mSI u3 20 (nI (c.ns + 1))) (t' := t + 3) I1 R1 F1 N sm Q3 W3 M3 rfl rfl rfl (by simp only [z_mI_mSI, z_mL_mSI, z_mA_mSI, z_mB_mSI, z_mI_mSL, z_mL_mSL, z_mA_mSL, z_mB_mSL, z_mI_mSA, z_mL_mSA, z_mA_mSA, z_mB_mSA, z_mI_mSB, z_mL_mSB, z_mA_mSB, z_mB_mSB, if_true, if_false, and_false, false_and, and_true, true_and, and_self, decide_true, decide_false, reduceCtorEq, not_false_eq_true, not_true_eq_false, Nat.reduceEqDiff, Nat.reduceAdd, Nat.reduceMul, Nat.add_zero, Nat.zero_add]) g6 (by omega) D2
    refine ⟨h3, _, e1', ?_, ?_, n3, g3 518 (by omega), g3 519 (by omega), .inl ⟨t + 3, c.wS, by omega, rfl, ?_, ?_, R4⟩⟩
    · rw [f1, oB_v, f3', oB2_v, f4, oB_v, if_pos V3.f0, oL_v, m20, nI_1]
    · exact I3.d (CD.refl I3.sx z) ((MD.refl u3 z).sI (by omega)) I3.rm.p3
    · exact V3.fr (fun _ _ => rfl) rfl (g6 11 (by omega)) (g6 13 (by omega))
    · exact F3.fr rfl rfl (g6 15 (by omega)) (g6 16 (by omega))
  · refine ⟨h3, u3, e1', ?_, I3, n3, g3 518 (by omega), g3 519 (by omega), .inr X⟩
    rw [f1, oB_v, f3', oB2_v, f4, oB_v, if_neg X.f.1]
end ST
