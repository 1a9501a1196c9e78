def gRe (k : Nat) : Prop := wk9 k ∧ k ≠ 95 ∧ ¬ (108 ≤ k ∧ k ≤ 111)
/-- one sum reckoned -/
def RkD (u : MS) (u' : MS) (k : Nat) (n : Nat) (t : Option Qq) : Prop := (MAg gRe u u') ∧ (∀ q, q ≠ k → mA u' 110 q = mA u 110 q ∧ mA u' 111 q = mA u 111 q ∧ mB u' 108 q = mB u 108 q ∧ mB u' 109 q = mB u 109 q) ∧ (SmR u' k n t)
theorem RkD.ag {u : MS} {u' : MS} {k : Nat} {n : Nat} {t : Option Qq} (X_ : RkD u u' k n t) : MAg gRe u u' := X_.1
theorem RkD.ot {u : MS} {u' : MS} {k : Nat} {n : Nat} {t : Option Qq} (X_ : RkD u u' k n t) : ∀ q, q ≠ k → mA u' 110 q = mA u 110 q ∧ mA u' 111 q = mA u 111 q ∧ mB u' 108 q = mB u 108 q ∧ mB u' 109 q = mB u 109 q := X_.2.1
theorem RkD.sm' {u : MS} {u' : MS} {k : Nat} {n : Nat} {t : Option Qq} (X_ : RkD u u' k n t) : SmR u' k n t := X_.2.2
theorem RkD.mk {u : MS} {u' : MS} {k : Nat} {n : Nat} {t : Option Qq} (ag_ : MAg gRe u u') (ot_ : ∀ q, q ≠ k → mA u' 110 q = mA u 110 q ∧ mA u' 111 q = mA u 111 q ∧ mB u' 108 q = mB u 108 q ∧ mB u' 109 q = mB u 109 q) (sm'_ : SmR u' k n t) : RkD u u' k n t := ⟨ag_, ot_, sm'_⟩
theorem setS_ag {u : MS} {k : Nat} {c fl : Int32} {n d : Int64} : MAg gRe u (setS u k c fl n d) := ((((MAg.refl u).sA (fun q => q.2.2 (by omega))).sA (fun q => q.2.2 (by omega))).sB (fun q => q.2.2 (by omega))).sB (fun q => q.2.2 (by omega))
theorem setS_ot {u : MS} {k : Nat} {c fl : Int32} {n d : Int64} : ∀ q, q ≠ k → mA (setS u k c fl n d) 110 q = mA u 110 q ∧ mA (setS u k c fl n d) 111 q = mA u 111 q ∧ mB (setS u k c fl n d) 108 q = mB u 108 q ∧ mB (setS u k c fl n d) 109 q = mB u 109 q := by
  intro q hq
  unfold setS
  simp only [z_mI_mSI, z_mL_mSI, z_mA_mSI, z_mB_mSI, z_mI_mSL, z_mL_mSL, z_mA_mSL, z_mB_mSL, z_mI_mSA, z_mL_mSA, z_mA_mSA, z_mB_mSA, z_mI_mSB, z_mL_mSB, z_mA_mSB, z_mB_mSB, if_true, if_false, and_false, false_and, and_true, true_and, and_self, decide_true, decide_false, reduceCtorEq, not_false_eq_true, not_true_eq_false, Nat.reduceEqDiff, Nat.reduceAdd, Nat.reduceMul, Nat.add_zero, Nat.zero_add, if_neg hq]
theorem setS_v {u : MS} {k : Nat} {c fl : Int32} {n d : Int64} : mA (setS u k c fl n d) 110 k = c ∧ mA (setS u k c fl n d) 111 k = fl ∧ mB (setS u k c fl n d) 108 k = n ∧ mB (setS u k c fl n d) 109 k = d := by
  unfold setS
  simp only [z_mI_mSI, z_mL_mSI, z_mA_mSI, z_mB_mSI, z_mI_mSL, z_mL_mSL, z_mA_mSL, z_mB_mSL, z_mI_mSA, z_mL_mSA, z_mA_mSA, z_mB_mSA, z_mI_mSB, z_mL_mSB, z_mA_mSB, z_mB_mSB, if_true, if_false, and_false, false_and, and_true, true_and, and_self, decide_true, decide_false, reduceCtorEq, not_false_eq_true, not_true_eq_false, Nat.reduceEqDiff, Nat.reduceAdd, Nat.reduceMul, Nat.add_zero, Nat.zero_add]
theorem reckonsM {h0 : PH} {u0 u : MS} {G : Gh} {z : Sz} {nu : Nat → Int32} {E1 E2 E3 : Nat → List Tok} {A : Nat → Prop} {s w : Nat} (mo : Mo h0 u0 G z E1 E2 E3) (K : KR h0 u0 G z) (zo : z.ok) (hc : z.rc ≤ 37000) (hs : s < 4) (hw : w < 5) (B : SBn u0 u z nu) (ha : ∀ x, x ∈ insL z.nr z.np (vN u0) → Tf (mA u 89 x) (A x)) : ∃ u', fX12_reckons u (nI s) (nI w) = some u' ∧ RkD u u' (5 * s + w) (flS u0 z.np A (5 * s + w) (insL z.nr z.np (vN u0))).length (finS (smS (kdx u0) (vlx u0 z.np nu E3) (flS u0 z.np A (5 * s + w) (insL z.nr z.np (vN u0))))) ∧ okSm (smS (kdx u0) (vlx u0 z.np nu E3) (flS u0 z.np A (5 * s + w) (insL z.nr z.np (vN u0)))) := by
  have nr := zo.2.2.2.2.1
  have nil : flS u0 z.np A (5 * s + w) (dn z.np (vN u0) 0 0) = [] := by rw [dn_zero]; rfl
  obtain ⟨f, hf⟩ : ∃ f', FU = f' + (z.nr + 1) := ⟨FU - (z.nr + 1), by have : FU = 100000 := rfl; omega⟩
  obtain ⟨u1, f1, x3, x5, x7, x9, x11, x13, x15, x17, x20, q1, q2, q3, q4⟩ := rk32 (A := A) mo K zo hc hs hw z.nr 0 f u 0 1 1 1 0 0 0 0 0 (by omega) B ha (by rw [nil]; exact RKs.s) (by rw [nil]; exact okSm_s)
  rw [nil] at q1
  have q1' : fX12_reckons u (nI s) (nI w) = fX12_reckons_32 (f1 + 1) u1 (nI s) (nI w) x3 x5 x7 x9 x11 x13 x15 x17 (nI (flS u0 z.np A (5 * s + w) (insL z.nr z.np (vN u0))).length) x20 (nI z.nr) := by
    rw [fX12_reckons, fX12_reckons_0, hf]; exact q1
  have B1 : SBn u0 u1 z nu := B.fr q2 (fun q hq => by unfold gRk wk9; omega)
  have g1 : MAg gRe u u1 := q2.mono fun k hk => ⟨hk.1, hk.2.1⟩
  have ot1 : ∀ q, mA u1 110 q = mA u 110 q ∧ mA u1 111 q = mA u 111 q ∧ mB u1 108 q = mB u 108 q ∧ mB u1 109 q = mB u 109 q := fun q => ⟨(q2 110 (by unfold gRk wk9; omega)).2.2.1 q, (q2 111 (by unfold gRk wk9; omega)).2.2.1 q, (q2 108 (by unfold gRk wk9; omega)).2.2.2 q, (q2 109 (by unfold gRk wk9; omega)).2.2.2 q⟩
  rw [q1', show ∀ c, fX12_reckons_32 (f1 + 1) u1 (nI s) (nI w) x3 x5 x7 x9 x11 x13 x15 x17 c x20 (nI z.nr) = fX12_reckons_32F (fX12_reckons_32 f1) u1 (nI s) (nI w) x3 x5 x7 x9 x11 x13 x15 x17 c x20 (nI z.nr) from fun _ => rfl, fX12_reckons_32F, B1.m22, if_pos (Int32.le_refl _)]
  generalize smS (kdx u0) (vlx u0 z.np nu E3) (flS u0 z.np A (5 * s + w) (insL z.nr z.np (vN u0))) = S at q3 q4 ⊢
  rcases S with _ | ⟨a, m, c, fl⟩
  · have x1 : x20 = 1 := q3
    subst x1
    rw [if_neg (by decide), rk446f hs hw]
    refine ⟨_, rfl, RkD.mk (g1.trans setS_ag) ?_ setS_v, q4⟩
    intro q hq
    obtain ⟨a1, a2, a3, a4⟩ := setS_ot (u := u1) (c := nI (flS u0 z.np A (5 * s + w) (insL z.nr z.np (vN u0))).length) (fl := 1) (n := 0) (d := 0) q hq
    obtain ⟨b1, b2, b3, b4⟩ := ot1 q
    exact ⟨a1.trans b1, a2.trans b2, a3.trans b3, a4.trans b4⟩
  · obtain ⟨r0, r1, r2, r3, r4, r5, r6⟩ := q3
    obtain ⟨o1, o2, o3, o4⟩ := q4 _ rfl
    subst r0 r1 r2 r3 r4
    have gz : MAg wk9 u1 (mSI u1 79 0) := (MAg.refl u1).sI (by unfold wk9; omega)
    obtain ⟨u2, j1, j2, j3⟩ := joinMu (u := mSI u1 79 0) o1 o2 (by simp only [z_mI_mSI, z_mL_mSI, z_mA_mSI, z_mB_mSI, z_mI_mSL, z_mL_mSL, z_mA_mSL, z_mB_mSL, z_mI_mSA, z_mL_mSA, z_mA_mSA, z_mB_mSA, z_mI_mSB, z_mL_mSB, z_mA_mSB, z_mB_mSB, if_true, if_false, and_false, false_and, and_true, true_and, and_self, decide_true, decide_false, reduceCtorEq, not_false_eq_true, not_true_eq_false, Nat.reduceEqDiff, Nat.reduceAdd, Nat.reduceMul, Nat.add_zero, Nat.zero_add])
    have g2 : MAg wk9 u1 u2 := gz.trans j2
    have g2' : MAg gRe u u2 := g1.trans (g2.mono fun k hk => hk.1)
    have ot2 : ∀ q, mA u2 110 q = mA u 110 q ∧ mA u2 111 q = mA u 111 q ∧ mB u2 108 q = mB u 108 q ∧ mB u2 109 q = mB u 109 q := fun q => ⟨((g2 110 (by unfold wk9; omega)).2.2.1 q).trans (ot1 q).1, ((g2 111 (by unfold wk9; omega)).2.2.1 q).trans (ot1 q).2.1, ((g2 108 (by unfold wk9; omega)).2.2.2 q).trans (ot1 q).2.2.1, ((g2 109 (by unfold wk9; omega)).2.2.2 q).trans (ot1 q).2.2.2⟩
    rw [if_pos rfl, oL_v, j1, oB_v, oL_v, oL_v, oL_v]
    cases hm : fmul a m with
    | none =>
      rw [hm] at j3
      have j3' : mI u2 79 = 1 := j3
      have ef : finS (some (a, m, c, fl)) = none := by unfold finS; simp only [hm, Option.map_none]
      rw [j3', rk446f hs hw, ef]
      refine ⟨_, rfl, RkD.mk (g2'.trans setS_ag) ?_ setS_v, q4⟩
      intro q hq
      obtain ⟨a1, a2, a3, a4⟩ := setS_ot (u := u2) (c := nI (flS u0 z.np A (5 * s + w) (insL z.nr z.np (vN u0))).length) (fl := 1) (n := 0) (d := 0) q hq
      obtain ⟨b1, b2, b3, b4⟩ := ot2 q
      exact ⟨a1.trans b1, a2.trans b2, a3.trans b3, a4.trans b4⟩
    | some t =>
      rw [hm] at j3
      obtain ⟨t1, t2, t3⟩ := j3
      have ef : finS (some (a, m, c, fl)) = some (flrT (capT t c) fl) := by unfold finS; simp only [hm, Option.map_some]
      rw [t1, t2, t3, rk446 hs hw r5 r6 o3 o4, ef]
      refine ⟨_, rfl, RkD.mk (g2'.trans setS_ag) ?_ setS_v, q4⟩
      intro q hq
      obtain ⟨a1, a2, a3, a4⟩ := setS_ot (u := u2) (c := nI (flS u0 z.np A (5 * s + w) (insL z.nr z.np (vN u0))).length) (fl := 0) (n := (flrT (capT t c) fl).1) (d := (flrT (capT t c) fl).2) q hq
      obtain ⟨b1, b2, b3, b4⟩ := ot2 q
      exact ⟨a1.trans b1, a2.trans b2, a3.trans b3, a4.trans b4⟩
