section L4b
variable {h : PH} {u : MS} {G : Gh} {z c : Sz} {w v a L n t t0 k : Nat} {D : Nat → Nat × Nat × Nat × List Nat} {r : Int32}
theorem lc2_d (S : SX h G) (X : Ded h u) (y r : Int32) : lC2 a h y r = fX4_literal_108 h 23 y r 1 := by
  have e := skip_d S X (k := 7) (by omega) (by omega)
  have e' : fX4_skip h 23 44 = some (h, 0) := e
  unfold lC2
  rw [oC_d S.t23, e', oB2_v, if_pos rfl, l101_d S X]
theorem lm2_d (X : Ded h u) (y : Int32) : lM2 u y = some u := by
  unfold lM2
  rw [is_d X, oB_v, if_pos rfl, l122_d X]
theorem lc1_d (S : SX h G) (X : Ded h u) (y r : Int32) : lC1 a h y r = fX4_literal_108 h 23 y r 0 := by
  have e := skip_d S X (k := 9) (by omega) (by omega)
  have e' : fX4_skip h 23 40 = some (h, 0) := e
  unfold lC1
  rw [oC_d S.t23, e', oB2_v, if_pos rfl]
theorem lm1_d (X : Ded h u) (y : Int32) : lM1 u y = some u := by
  unfold lM1
  rw [is_d X, oB_v, if_pos rfl, fit_dm X]
theorem lfirst (X : LX h u G z c w v a L n D t) (ht0 : t0 < t) (W : Wd h u c (D t0).1 r) (m66 : mI u 66 = r) (s257 : hI h 257 a = r) (n0 : hI h 259 a = 0) (n1 : hI h 260 a = 0) (n2 : mI u 68 = -1) (n3 : mI u 69 = -1) : LOut h u G z c w v a L n D t (lC1 a h (nI (D t0).1) r) (lM1 u (nI t0)) := by
  have S := X.i.sx
  have w3 := X.K.w3
  have o := X.o
  have n23 := o.n23 S w3
  have g3 := o.g3 w3
  have a8 : 8 ≠ a := fun q => by rw [← q, S.o8] at g3; omega
  rcases may_v X.i X.V X.F (k := 9) (by omega) (by omega) (by omega) with ⟨_, e1, e2⟩ | ⟨_, e2, h1, u1, r1, e1, e3, Q1, W1, o1⟩
  · have e1' : fX4_skip h 23 40 = some (h, 0) := e1
    have e2' : fX12_is u 9 = some 0 := e2
    have := lfit (k := 0) X ht0 (by omega) W m66 s257 (fun e => ⟨by rw [if_neg (by omega)]; exact ⟨n0, n2⟩, by rw [if_neg (by omega)]; exact ⟨n1, n3⟩⟩)
    unfold lC1 lM1
    rw [oC_d S.t23, e1', oB2_v, if_pos rfl, e2', oB_v, if_pos rfl]
    exact this
  · have e1' : fX4_skip h 23 40 = some (h1, r1) := e1
    have e2' : fX12_is u 9 = some 1 := e2
    have S1 := Q1.sx S
    have TT : LD h u h1 u1 G w a := LD.q S Q1 W1
    rcases o1 with ⟨er, c1, V1, F1, M1⟩ | ⟨er, X1⟩
    · subst er
      have Y1 := X.q Q1 W1 V1 F1 M1 (by omega)
      obtain ⟨h2, u2, q, q', e4, e5, T2, o2⟩ := term_v Y1.i Y1.V Y1.F Y1.K Y1.hw Y1.rp Y1.m18
      have S2 : SX h2 G := (T2.cd z Y1.i.kr.nrG).sx
      have ta2 : hT h2 a = 3 := by rw [T2.T]; exact Y1.ta
      have hC : lC1 a h (nI (D t0).1) r = lC2 a (sI h2 259 a q) (nI (D t0).1) r := by
        unfold lC1
        rw [oC_d S.t23, e1', oB2_v, if_neg (by decide), oC_d S1.t23, e4, oB2_v, oC_d ta2, oL_v]
      have hM : lM1 u (nI t0) = lM2 (mSI u2 68 q') (nI t0) := by
        unfold lM1
        rw [e2', oB_v, if_neg (by decide), e3, oB_v, e5, oB2_v, oL_v]
      rw [hC, hM]
      have TA : LD h u h2 u2 G w a := TT.trans (LD.of T2)
      have TB : LD h u (sI h2 259 a q) (mSI u2 68 q') G w a := (TA.trans (LD.sI S2 o w3 259 (by omega) q)).trans (LD.mI (h := sI h2 259 a q) S2 68 (by omega) q')
      rcases o2 with ⟨v', hv, V2, F2, M2, K2, oo⟩ | X2
      · have Y2 : LX h2 u2 G z c w v' a L n D (t + 1 + 1) := Y1.ld (LD.of T2) V2 F2 M2 K2 (by omega)
        have Y3 := (Y2.setC 259 (by omega) q).setM 68 (by omega) q'
        have MM : FM u (mSI u2 68 q') := (M1.trans M2).trans (fun x hx => by
          obtain ⟨p1, p, p2, p3, p4⟩ := hx
          exact ⟨by simp only [z_mI_mSI, z_mL_mSI, z_mA_mSI, z_mB_mSI, z_mI_mSL, z_mL_mSL, z_mA_mSL, z_mB_mSL, z_mI_mSA, z_mL_mSA, z_mA_mSA, z_mB_mSA, z_mI_mSB, z_mL_mSB, z_mA_mSB, z_mB_mSB, if_true, if_false, and_false, false_and, and_true, true_and, and_self, decide_true, decide_false, reduceCtorEq, not_false_eq_true, not_true_eq_false, Nat.reduceEqDiff, Nat.reduceAdd, Nat.reduceMul, Nat.add_zero, Nat.zero_add]; exact p1, p, p2, p3, by simp only [z_mI_mSI, z_mL_mSI, z_mA_mSI, z_mB_mSI, z_mI_mSL, z_mL_mSL, z_mA_mSL, z_mB_mSL, z_mI_mSA, z_mL_mSA, z_mA_mSA, z_mB_mSA, z_mI_mSB, z_mL_mSB, z_mA_mSB, z_mB_mSB, if_true, if_false, and_false, false_and, and_true, true_and, and_self, decide_true, decide_false, reduceCtorEq, not_false_eq_true, not_true_eq_false, Nat.reduceEqDiff, Nat.reduceAdd, Nat.reduceMul, Nat.add_zero, Nat.zero_add]; exact p4⟩)
        have i2 : ∀ f, hI h2 f a = hI h f a := fun f => (T2.I _ _ n23).trans (Q1.I _ _ n23)
        have is : ∀ f, f ≠ 259 → hI (sI h2 259 a q) f a = hI h f a := fun f hf => by simp only [z_hI_sI, z_hL_sI, z_hR_sI, z_hA_sI, z_hB_sI, z_hC_sI, z_hT_sI, z_hN_sI, z_hZ_sI, z_hI_sL, z_hL_sL, z_hR_sL, z_hA_sL, z_hB_sL, z_hC_sL, z_hT_sL, z_hN_sL, z_hZ_sL, z_hI_sR, z_hL_sR, z_hR_sR, z_hA_sR, z_hB_sR, z_hC_sR, z_hT_sR, z_hN_sR, z_hZ_sR, z_hI_sA, z_hL_sA, z_hR_sA, z_hA_sA, z_hB_sA, z_hC_sA, z_hT_sA, z_hN_sA, z_hZ_sA, z_hI_sB, z_hL_sB, z_hR_sB, z_hA_sB, z_hB_sB, z_hC_sB, z_hT_sB, z_hN_sB, z_hZ_sB, z_hI_sC, z_hL_sC, z_hR_sC, z_hA_sC, z_hB_sC, z_hC_sC, z_hT_sC, z_hN_sC, z_hZ_sC, z_hI_sY, z_hL_sY, z_hR_sY, z_hA_sY, z_hB_sY, z_hC_sY, z_hT_sY, z_hN_sY, z_hZ_sY, z_hI_nO, z_hL_nO, z_hR_nO, z_hA_nO, z_hB_nO, z_hC_nO, z_hT_nO, z_hN_nO, z_hZ_nO, z_hI_nA, z_hL_nA, z_hR_nA, z_hA_nA, z_hB_nA, z_hC_nA, z_hT_nA, z_hN_nA, z_hZ_nA]; rw [if_neg (fun x => hf x.1)]; exact i2 f
        have mm : ∀ j, 66 ≤ j → j ≤ 69 → j ≠ 68 → mI (mSI u2 68 q') j = mI u j := fun j h1 h2 h3 => by simp only [z_mI_mSI, z_mL_mSI, z_mA_mSI, z_mB_mSI, z_mI_mSL, z_mL_mSL, z_mA_mSL, z_mB_mSL, z_mI_mSA, z_mL_mSA, z_mA_mSA, z_mB_mSA, z_mI_mSB, z_mL_mSB, z_mA_mSB, z_mB_mSB]; rw [if_neg h3]; exact (T2.mi j (by omega)).trans (W1.I j (by omega))
        refine LOut.pre TB MM (is 256 (by omega)) (is 258 (by omega)) (mm 67 (by omega) (by omega) (by omega)) hv (by omega) (lsecond Y3 (by omega) (W.ld TB MM) ((mm 66 (by omega) (by omega) (by omega)).trans m66) ((is 257 (by omega)).trans s257) (fun e => ?_) ((is 260 (by omega)).trans n1) ((mm 69 (by omega) (by omega) (by omega)).trans n3))
        have e259 : hI (sI h2 259 a q) 259 a = q := by simp only [z_hI_sI, z_hL_sI, z_hR_sI, z_hA_sI, z_hB_sI, z_hC_sI, z_hT_sI, z_hN_sI, z_hZ_sI, z_hI_sL, z_hL_sL, z_hR_sL, z_hA_sL, z_hB_sL, z_hC_sL, z_hT_sL, z_hN_sL, z_hZ_sL, z_hI_sR, z_hL_sR, z_hR_sR, z_hA_sR, z_hB_sR, z_hC_sR, z_hT_sR, z_hN_sR, z_hZ_sR, z_hI_sA, z_hL_sA, z_hR_sA, z_hA_sA, z_hB_sA, z_hC_sA, z_hT_sA, z_hN_sA, z_hZ_sA, z_hI_sB, z_hL_sB, z_hR_sB, z_hA_sB, z_hB_sB, z_hC_sB, z_hT_sB, z_hN_sB, z_hZ_sB, z_hI_sC, z_hL_sC, z_hR_sC, z_hA_sC, z_hB_sC, z_hC_sC, z_hT_sC, z_hN_sC, z_hZ_sC, z_hI_sY, z_hL_sY, z_hR_sY, z_hA_sY, z_hB_sY, z_hC_sY, z_hT_sY, z_hN_sY, z_hZ_sY, z_hI_nO, z_hL_nO, z_hR_nO, z_hA_nO, z_hB_nO, z_hC_nO, z_hT_nO, z_hN_nO, z_hZ_nO, z_hI_nA, z_hL_nA, z_hR_nA, z_hA_nA, z_hB_nA, z_hC_nA, z_hT_nA, z_hN_nA, z_hZ_nA, if_true, if_false, and_false, false_and, and_true, true_and, and_self, decide_true, decide_false, reduceCtorEq, not_false_eq_true, not_true_eq_false, Nat.reduceEqDiff, Nat.reduceAdd, Nat.reduceMul, Nat.add_zero, Nat.zero_add]
        have e68 : mI (mSI u2 68 q') 68 = q' := by simp only [z_mI_mSI, z_mL_mSI, z_mA_mSI, z_mB_mSI, z_mI_mSL, z_mL_mSL, z_mA_mSL, z_mB_mSL, z_mI_mSA, z_mL_mSA, z_mA_mSA, z_mB_mSA, z_mI_mSB, z_mL_mSB, z_mA_mSB, z_mB_mSB, if_true, if_false, and_false, false_and, and_true, true_and, and_self, decide_true, decide_false, reduceCtorEq, not_false_eq_true, not_true_eq_false, Nat.reduceEqDiff, Nat.reduceAdd, Nat.reduceMul, Nat.add_zero, Nat.zero_add]
        have e15 : mI u2 15 = 0 := by simp only [z_mI_mSI, z_mL_mSI, z_mA_mSI, z_mB_mSI, z_mI_mSL, z_mL_mSL, z_mA_mSL, z_mB_mSL, z_mI_mSA, z_mL_mSA, z_mA_mSA, z_mB_mSA, z_mI_mSB, z_mL_mSB, z_mA_mSB, z_mB_mSB, if_true, if_false, and_false, false_and, and_true, true_and, and_self, decide_true, decide_false, reduceCtorEq, not_false_eq_true, not_true_eq_false, Nat.reduceEqDiff, Nat.reduceAdd, Nat.reduceMul, Nat.add_zero, Nat.zero_add] at e; exact e
        rw [e259, e68]
        rcases oo with ⟨tt, ok, eq, eq'⟩ | ⟨_, _, fp⟩
        · exact ⟨tt, ok, eq, eq'⟩
        · exact absurd e15 fp.1
      · have X3 := (X2.setC S2 o w3 259 q).setM 68 (by omega) q'
        rw [lc2_d (h := sI h2 259 a q) S2 X3, lm2_d X3]
        exact lstop TB S2 X3 ((TB.I _ _ (by omega) a8).trans X.s8) X.c12 _ _ _
    · subst er
      have hC : lC1 a h (nI (D t0).1) r = fX4_literal_108 h1 23 (nI (D t0).1) r 0 := by
        unfold lC1
        rw [oC_d S.t23, e1', oB2_v, if_pos rfl]
      have hM : lM1 u (nI t0) = some (mSI u1 68 (-1)) := by
        unfold lM1
        rw [e2', oB_v, if_neg (by decide), e3, oB_v, term_dm X1, oB2_v, oL_v, lm2_d (X1.setM 68 (by omega) (-1))]
      rw [hC, hM]
      exact lstop (TT.trans (LD.mI S1 68 (by omega) (-1))) S1 (X1.setM 68 (by omega) (-1)) ((Q1.I _ _ (by omega)).trans X.s8) X.c12 _ _ _
/-- the word and what follows, with the sign s0 -/
theorem lword (X : LX h u G z c w v a L n D t) {s0 : Int32} (hs : s0 = 0 ∨ s0 = 1) : ∃ h' u', fX4_literal_23 h 23 (some a) s0 (some a) = some h' ∧ fX12_literal_29 u = some u' ∧ LD h u h' u' G w a ∧ ((∃ t' v', t < t' ∧ v ≤ v' ∧ LX h' u' G z c w v' a L n D t' ∧ FM u u' ∧ hI h' 256 a = hI h 256 a ∧ hI h' 258 a = s0 ∧ mI u' 67 = mI u 67 ∧ (mI u' 15 = 0 → ∃ wd k, wd < c.nw ∧ k ≤ 2 ∧ mA u' 28 wd = nI k ∧ hI h' 257 a = nI wd ∧ mI u' 66 = nI wd ∧ (if 0 < k then TmR c v' (hI h' 259 a) (mI u' 68) else NoT (hI h' 259 a) (mI u' 68)) ∧ (if 1 < k then TmR c v' (hI h' 260 a) (mI u' 69) else NoT (hI h' 260 a) (mI u' 69)))) ∨ Ded h' u') := by
  have S := X.i.sx
  have w3 := X.K.w3
  have o := X.o
  have n23 := o.n23 S w3
  have g3 := o.g3 w3
  have a8 : 8 ≠ a := fun q => by rw [← q, S.o8] at g3; omega
  have n2 := X.i.ts.n2
  have lt := X.V.lt
  have hb : isB s0 = true := by rcases hs with q | q <;> rw [q] <;> decide
  have Y0 := X.setC 258 (by omega) s0
  have S0 := Y0.i.sx
  obtain ⟨h1, u1, Q1, W1, oo⟩ := known_v Y0.i Y0.V Y0.F Y0.rw'
  have S1 := Q1.sx S0
  have T1 : LD h u h1 u1 G w a := (LD.sI S o w3 258 (by omega) s0).trans (LD.q S0 Q1 W1)
  have ta1 : hT h1 a = 3 := by rw [Q1.T]; exact X.ta
  have e522 : hI (sI h 258 a s0) 522 23 = nI (D t).1 := Y0.V.pl
  have cls : ∀ r, fX4_knownName (sI h 258 a s0) 23 (some 8) = some (h1, r) → fX4_literal_23 h 23 (some a) s0 (some a) = lC1 a (sI (sI (sI h1 257 a r) 259 a 0) 260 a 0) (nI (D t).1) r := by
    intro r er
    unfold fX4_literal_23
    rw [oC_t hb, oN_v, oC_d X.ta, oL_v, oC_d S0.t23, oL_v, e522, S0.r512_23, oN_v, oC_d S0.t5, S0.r129_5, er, oB2_v, oN_v, oC_d ta1, oL_v, oL_v, oL_v]
    rfl
  have sets : ∀ r, LD h u (sI (sI (sI h1 257 a r) 259 a 0) 260 a 0) u1 G w a := fun r => ((T1.trans (LD.sI S1 o w3 257 (by omega) r)).trans (LD.sI (h := sI h1 257 a r) S1 o w3 259 (by omega) 0)).trans (LD.sI (h := sI (sI h1 257 a r) 259 a 0) S1 o w3 260 (by omega) 0)
  have h258 : ∀ r, hI (sI (sI (sI h1 257 a r) 259 a 0) 260 a 0) 258 a = s0 := fun r => by
    simp only [z_hI_sI, z_hL_sI, z_hR_sI, z_hA_sI, z_hB_sI, z_hC_sI, z_hT_sI, z_hN_sI, z_hZ_sI, z_hI_sL, z_hL_sL, z_hR_sL, z_hA_sL, z_hB_sL, z_hC_sL, z_hT_sL, z_hN_sL, z_hZ_sL, z_hI_sR, z_hL_sR, z_hR_sR, z_hA_sR, z_hB_sR, z_hC_sR, z_hT_sR, z_hN_sR, z_hZ_sR, z_hI_sA, z_hL_sA, z_hR_sA, z_hA_sA, z_hB_sA, z_hC_sA, z_hT_sA, z_hN_sA, z_hZ_sA, z_hI_sB, z_hL_sB, z_hR_sB, z_hA_sB, z_hB_sB, z_hC_sB, z_hT_sB, z_hN_sB, z_hZ_sB, z_hI_sC, z_hL_sC, z_hR_sC, z_hA_sC, z_hB_sC, z_hC_sC, z_hT_sC, z_hN_sC, z_hZ_sC, z_hI_sY, z_hL_sY, z_hR_sY, z_hA_sY, z_hB_sY, z_hC_sY, z_hT_sY, z_hN_sY, z_hZ_sY, z_hI_nO, z_hL_nO, z_hR_nO, z_hA_nO, z_hB_nO, z_hC_nO, z_hT_nO, z_hN_nO, z_hZ_nO, z_hI_nA, z_hL_nA, z_hR_nA, z_hA_nA, z_hB_nA, z_hC_nA, z_hT_nA, z_hN_nA, z_hZ_nA, if_true, if_false, and_false, false_and, and_true, true_and, and_self, decide_true, decide_false, reduceCtorEq, not_false_eq_true, not_true_eq_false, Nat.reduceEqDiff, Nat.reduceAdd, Nat.reduceMul, Nat.add_zero, Nat.zero_add]
    rw [Q1.I _ _ n23]
    simp only [z_hI_sI, z_hL_sI, z_hR_sI, z_hA_sI, z_hB_sI, z_hC_sI, z_hT_sI, z_hN_sI, z_hZ_sI, z_hI_sL, z_hL_sL, z_hR_sL, z_hA_sL, z_hB_sL, z_hC_sL, z_hT_sL, z_hN_sL, z_hZ_sL, z_hI_sR, z_hL_sR, z_hR_sR, z_hA_sR, z_hB_sR, z_hC_sR, z_hT_sR, z_hN_sR, z_hZ_sR, z_hI_sA, z_hL_sA, z_hR_sA, z_hA_sA, z_hB_sA, z_hC_sA, z_hT_sA, z_hN_sA, z_hZ_sA, z_hI_sB, z_hL_sB, z_hR_sB, z_hA_sB, z_hB_sB, z_hC_sB, z_hT_sB, z_hN_sB, z_hZ_sB, z_hI_sC, z_hL_sC, z_hR_sC, z_hA_sC, z_hB_sC, z_hC_sC, z_hT_sC, z_hN_sC, z_hZ_sC, z_hI_sY, z_hL_sY, z_hR_sY, z_hA_sY, z_hB_sY, z_hC_sY, z_hT_sY, z_hN_sY, z_hZ_sY, z_hI_nO, z_hL_nO, z_hR_nO, z_hA_nO, z_hB_nO, z_hC_nO, z_hT_nO, z_hN_nO, z_hZ_nO, z_hI_nA, z_hL_nA, z_hR_nA, z_hA_nA, z_hB_nA, z_hC_nA, z_hT_nA, z_hN_nA, z_hZ_nA, if_true, if_false, and_false, false_and, and_true, true_and, and_self, decide_true, decide_false, reduceCtorEq, not_false_eq_true, not_true_eq_false, Nat.reduceEqDiff, Nat.reduceAdd, Nat.reduceMul, Nat.add_zero, Nat.zero_add]
  have h256 : ∀ r, hI (sI (sI (sI h1 257 a r) 259 a 0) 260 a 0) 256 a = hI h 256 a := fun r => by
    simp only [z_hI_sI, z_hL_sI, z_hR_sI, z_hA_sI, z_hB_sI, z_hC_sI, z_hT_sI, z_hN_sI, z_hZ_sI, z_hI_sL, z_hL_sL, z_hR_sL, z_hA_sL, z_hB_sL, z_hC_sL, z_hT_sL, z_hN_sL, z_hZ_sL, z_hI_sR, z_hL_sR, z_hR_sR, z_hA_sR, z_hB_sR, z_hC_sR, z_hT_sR, z_hN_sR, z_hZ_sR, z_hI_sA, z_hL_sA, z_hR_sA, z_hA_sA, z_hB_sA, z_hC_sA, z_hT_sA, z_hN_sA, z_hZ_sA, z_hI_sB, z_hL_sB, z_hR_sB, z_hA_sB, z_hB_sB, z_hC_sB, z_hT_sB, z_hN_sB, z_hZ_sB, z_hI_sC, z_hL_sC, z_hR_sC, z_hA_sC, z_hB_sC, z_hC_sC, z_hT_sC, z_hN_sC, z_hZ_sC, z_hI_sY, z_hL_sY, z_hR_sY, z_hA_sY, z_hB_sY, z_hC_sY, z_hT_sY, z_hN_sY, z_hZ_sY, z_hI_nO, z_hL_nO, z_hR_nO, z_hA_nO, z_hB_nO, z_hC_nO, z_hT_nO, z_hN_nO, z_hZ_nO, z_hI_nA, z_hL_nA, z_hR_nA, z_hA_nA, z_hB_nA, z_hC_nA, z_hT_nA, z_hN_nA, z_hZ_nA, if_true, if_false, and_false, false_and, and_true, true_and, and_self, decide_true, decide_false, reduceCtorEq, not_false_eq_true, not_true_eq_false, Nat.reduceEqDiff, Nat.reduceAdd, Nat.reduceMul, Nat.add_zero, Nat.zero_add]
    rw [Q1.I _ _ n23]
    simp only [z_hI_sI, z_hL_sI, z_hR_sI, z_hA_sI, z_hB_sI, z_hC_sI, z_hT_sI, z_hN_sI, z_hZ_sI, z_hI_sL, z_hL_sL, z_hR_sL, z_hA_sL, z_hB_sL, z_hC_sL, z_hT_sL, z_hN_sL, z_hZ_sL, z_hI_sR, z_hL_sR, z_hR_sR, z_hA_sR, z_hB_sR, z_hC_sR, z_hT_sR, z_hN_sR, z_hZ_sR, z_hI_sA, z_hL_sA, z_hR_sA, z_hA_sA, z_hB_sA, z_hC_sA, z_hT_sA, z_hN_sA, z_hZ_sA, z_hI_sB, z_hL_sB, z_hR_sB, z_hA_sB, z_hB_sB, z_hC_sB, z_hT_sB, z_hN_sB, z_hZ_sB, z_hI_sC, z_hL_sC, z_hR_sC, z_hA_sC, z_hB_sC, z_hC_sC, z_hT_sC, z_hN_sC, z_hZ_sC, z_hI_sY, z_hL_sY, z_hR_sY, z_hA_sY, z_hB_sY, z_hC_sY, z_hT_sY, z_hN_sY, z_hZ_sY, z_hI_nO, z_hL_nO, z_hR_nO, z_hA_nO, z_hB_nO, z_hC_nO, z_hT_nO, z_hN_nO, z_hZ_nO, z_hI_nA, z_hL_nA, z_hR_nA, z_hA_nA, z_hB_nA, z_hC_nA, z_hT_nA, z_hN_nA, z_hZ_nA, if_true, if_false, and_false, false_and, and_true, true_and, and_self, decide_true, decide_false, reduceCtorEq, not_false_eq_true, not_true_eq_false, Nat.reduceEqDiff, Nat.reduceAdd, Nat.reduceMul, Nat.add_zero, Nat.zero_add]
  rcases oo with ⟨r, ck, c2, V1, F1, M1, orr, e1, u0, e2, f0, W0, e3⟩ | ⟨X1, ⟨r, e1⟩, e2⟩
  · have Y1 := Y0.q Q1 W1 V1 F1 M1 (by omega)
    have Y2 := (((((Y1.setC 257 (by omega) r).setC 259 (by omega) 0).setC 260 (by omega) 0).setM 66 (by omega) r).setM 68 (by omega) (-1)).setM 69 (by omega) (-1)
    have hM : fX12_literal_29 u = lM1 (mSI (mSI (mSI u1 66 r) 68 (-1)) 69 (-1)) (nI t) := by
      unfold fX12_literal_29
      rw [oL_v, e2, oB_v, f0, if_pos (by decide), (W0.I 19 (by omega)).trans X.m19, X.V.t0, e3, oB2_v, oL_v, oL_v, oL_v]
      rfl
    have TB : LD h u (sI (sI (sI h1 257 a r) 259 a 0) 260 a 0) (mSI (mSI (mSI u1 66 r) 68 (-1)) 69 (-1)) G w a := (((sets r).trans (LD.mI (h := sI (sI (sI h1 257 a r) 259 a 0) 260 a 0) S1 66 (by omega) r)).trans (LD.mI (h := sI (sI (sI h1 257 a r) 259 a 0) 260 a 0) S1 68 (by omega) (-1))).trans (LD.mI (h := sI (sI (sI h1 257 a r) 259 a 0) 260 a 0) S1 69 (by omega) (-1))
    have MB : FM u1 (mSI (mSI (mSI u1 66 r) 68 (-1)) 69 (-1)) := fun x hx => by
      obtain ⟨p1, p, p2, p3, p4⟩ := hx
      exact ⟨by simp only [z_mI_mSI, z_mL_mSI, z_mA_mSI, z_mB_mSI, z_mI_mSL, z_mL_mSL, z_mA_mSL, z_mB_mSL, z_mI_mSA, z_mL_mSA, z_mA_mSA, z_mB_mSA, z_mI_mSB, z_mL_mSB, z_mA_mSB, z_mB_mSB, if_true, if_false, and_false, false_and, and_true, true_and, and_self, decide_true, decide_false, reduceCtorEq, not_false_eq_true, not_true_eq_false, Nat.reduceEqDiff, Nat.reduceAdd, Nat.reduceMul, Nat.add_zero, Nat.zero_add]; exact p1, p, p2, p3, by simp only [z_mI_mSI, z_mL_mSI, z_mA_mSI, z_mB_mSI, z_mI_mSL, z_mL_mSL, z_mA_mSL, z_mB_mSL, z_mI_mSA, z_mL_mSA, z_mA_mSA, z_mB_mSA, z_mI_mSB, z_mL_mSB, z_mA_mSB, z_mB_mSB, if_true, if_false, and_false, false_and, and_true, true_and, and_self, decide_true, decide_false, reduceCtorEq, not_false_eq_true, not_true_eq_false, Nat.reduceEqDiff, Nat.reduceAdd, Nat.reduceMul, Nat.add_zero, Nat.zero_add]; exact p4⟩
    have MM : FM u (mSI (mSI (mSI u1 66 r) 68 (-1)) 69 (-1)) := M1.trans MB
    have W : Wd (sI (sI (sI h1 257 a r) 259 a 0) 260 a 0) (mSI (mSI (mSI u1 66 r) 68 (-1)) 69 (-1)) c (D t).1 r := by
      rcases orr with ⟨er, fp⟩ | ⟨j, hj, er⟩
      · exact .inl ⟨er, MB _ fp⟩
      · refine .inr ⟨j, hj, er, ?_⟩
        rcases X.pl j hj with ⟨k, k1, k2, k3⟩ | ⟨q, q1, q2⟩
        · exact .inl ⟨k, k1, (TB.A 16 j (by omega)).trans k2, (TB.ma 28 j (by omega) (by omega)).trans k3⟩
        · exact .inr ⟨q, MM _ q1, q2⟩
    obtain ⟨h', u', g1, g2, T3, g3'⟩ := lfirst Y2 (t0 := t) (by omega) W (by simp only [z_mI_mSI, z_mL_mSI, z_mA_mSI, z_mB_mSI, z_mI_mSL, z_mL_mSL, z_mA_mSL, z_mB_mSL, z_mI_mSA, z_mL_mSA, z_mA_mSA, z_mB_mSA, z_mI_mSB, z_mL_mSB, z_mA_mSB, z_mB_mSB, if_true, if_false, and_false, false_and, and_true, true_and, and_self, decide_true, decide_false, reduceCtorEq, not_false_eq_true, not_true_eq_false, Nat.reduceEqDiff, Nat.reduceAdd, Nat.reduceMul, Nat.add_zero, Nat.zero_add]) (by simp only [z_hI_sI, z_hL_sI, z_hR_sI, z_hA_sI, z_hB_sI, z_hC_sI, z_hT_sI, z_hN_sI, z_hZ_sI, z_hI_sL, z_hL_sL, z_hR_sL, z_hA_sL, z_hB_sL, z_hC_sL, z_hT_sL, z_hN_sL, z_hZ_sL, z_hI_sR, z_hL_sR, z_hR_sR, z_hA_sR, z_hB_sR, z_hC_sR, z_hT_sR, z_hN_sR, z_hZ_sR, z_hI_sA, z_hL_sA, z_hR_sA, z_hA_sA, z_hB_sA, z_hC_sA, z_hT_sA, z_hN_sA, z_hZ_sA, z_hI_sB, z_hL_sB, z_hR_sB, z_hA_sB, z_hB_sB, z_hC_sB, z_hT_sB, z_hN_sB, z_hZ_sB, z_hI_sC, z_hL_sC, z_hR_sC, z_hA_sC, z_hB_sC, z_hC_sC, z_hT_sC, z_hN_sC, z_hZ_sC, z_hI_sY, z_hL_sY, z_hR_sY, z_hA_sY, z_hB_sY, z_hC_sY, z_hT_sY, z_hN_sY, z_hZ_sY, z_hI_nO, z_hL_nO, z_hR_nO, z_hA_nO, z_hB_nO, z_hC_nO, z_hT_nO, z_hN_nO, z_hZ_nO, z_hI_nA, z_hL_nA, z_hR_nA, z_hA_nA, z_hB_nA, z_hC_nA, z_hT_nA, z_hN_nA, z_hZ_nA, if_true, if_false, and_false, false_and, and_true, true_and, and_self, decide_true, decide_false, reduceCtorEq, not_false_eq_true, not_true_eq_false, Nat.reduceEqDiff, Nat.reduceAdd, Nat.reduceMul, Nat.add_zero, Nat.zero_add]) (by simp only [z_hI_sI, z_hL_sI, z_hR_sI, z_hA_sI, z_hB_sI, z_hC_sI, z_hT_sI, z_hN_sI, z_hZ_sI, z_hI_sL, z_hL_sL, z_hR_sL, z_hA_sL, z_hB_sL, z_hC_sL, z_hT_sL, z_hN_sL, z_hZ_sL, z_hI_sR, z_hL_sR, z_hR_sR, z_hA_sR, z_hB_sR, z_hC_sR, z_hT_sR, z_hN_sR, z_hZ_sR, z_hI_sA, z_hL_sA, z_hR_sA, z_hA_sA, z_hB_sA, z_hC_sA, z_hT_sA, z_hN_sA, z_hZ_sA, z_hI_sB, z_hL_sB, z_hR_sB, z_hA_sB, z_hB_sB, z_hC_sB, z_hT_sB, z_hN_sB, z_hZ_sB, z_hI_sC, z_hL_sC, z_hR_sC, z_hA_sC, z_hB_sC, z_hC_sC, z_hT_sC, z_hN_sC, z_hZ_sC, z_hI_sY, z_hL_sY, z_hR_sY, z_hA_sY, z_hB_sY, z_hC_sY, z_hT_sY, z_hN_sY, z_hZ_sY, z_hI_nO, z_hL_nO, z_hR_nO, z_hA_nO, z_hB_nO, z_hC_nO, z_hT_nO, z_hN_nO, z_hZ_nO, z_hI_nA, z_hL_nA, z_hR_nA, z_hA_nA, z_hB_nA, z_hC_nA, z_hT_nA, z_hN_nA, z_hZ_nA, if_true, if_false, and_false, false_and, and_true, true_and, and_self, decide_true, decide_false, reduceCtorEq, not_false_eq_true, not_true_eq_false, Nat.reduceEqDiff, Nat.reduceAdd, Nat.reduceMul, Nat.add_zero, Nat.zero_add]) (by simp only [z_hI_sI, z_hL_sI, z_hR_sI, z_hA_sI, z_hB_sI, z_hC_sI, z_hT_sI, z_hN_sI, z_hZ_sI, z_hI_sL, z_hL_sL, z_hR_sL, z_hA_sL, z_hB_sL, z_hC_sL, z_hT_sL, z_hN_sL, z_hZ_sL, z_hI_sR, z_hL_sR, z_hR_sR, z_hA_sR, z_hB_sR, z_hC_sR, z_hT_sR, z_hN_sR, z_hZ_sR, z_hI_sA, z_hL_sA, z_hR_sA, z_hA_sA, z_hB_sA, z_hC_sA, z_hT_sA, z_hN_sA, z_hZ_sA, z_hI_sB, z_hL_sB, z_hR_sB, z_hA_sB, z_hB_sB, z_hC_sB, z_hT_sB, z_hN_sB, z_hZ_sB, z_hI_sC, z_hL_sC, z_hR_sC, z_hA_sC, z_hB_sC, z_hC_sC, z_hT_sC, z_hN_sC, z_hZ_sC, z_hI_sY, z_hL_sY, z_hR_sY, z_hA_sY, z_hB_sY, z_hC_sY, z_hT_sY, z_hN_sY, z_hZ_sY, z_hI_nO, z_hL_nO, z_hR_nO, z_hA_nO, z_hB_nO, z_hC_nO, z_hT_nO, z_hN_nO, z_hZ_nO, z_hI_nA, z_hL_nA, z_hR_nA, z_hA_nA, z_hB_nA, z_hC_nA, z_hT_nA, z_hN_nA, z_hZ_nA, if_true, if_false, and_false, false_and, and_true, true_and, and_self, decide_true, decide_false, reduceCtorEq, not_false_eq_true, not_true_eq_false, Nat.reduceEqDiff, Nat.reduceAdd, Nat.reduceMul, Nat.add_zero, Nat.zero_add]) (by simp only [z_mI_mSI, z_mL_mSI, z_mA_mSI, z_mB_mSI, z_mI_mSL, z_mL_mSL, z_mA_mSL, z_mB_mSL, z_mI_mSA, z_mL_mSA, z_mA_mSA, z_mB_mSA, z_mI_mSB, z_mL_mSB, z_mA_mSB, z_mB_mSB, if_true, if_false, and_false, false_and, and_true, true_and, and_self, decide_true, decide_false, reduceCtorEq, not_false_eq_true, not_true_eq_false, Nat.reduceEqDiff, Nat.reduceAdd, Nat.reduceMul, Nat.add_zero, Nat.zero_add]) (by simp only [z_mI_mSI, z_mL_mSI, z_mA_mSI, z_mB_mSI, z_mI_mSL, z_mL_mSL, z_mA_mSL, z_mB_mSL, z_mI_mSA, z_mL_mSA, z_mA_mSA, z_mB_mSA, z_mI_mSB, z_mL_mSB, z_mA_mSB, z_mB_mSB, if_true, if_false, and_false, false_and, and_true, true_and, and_self, decide_true, decide_false, reduceCtorEq, not_false_eq_true, not_true_eq_false, Nat.reduceEqDiff, Nat.reduceAdd, Nat.reduceMul, Nat.add_zero, Nat.zero_add])
    refine ⟨h', u', by rw [cls r e1]; exact g1, by rw [hM]; exact g2, TB.trans T3, ?_⟩
    rcases g3' with ⟨t', v', q1, q2, X', M', p6, p8, p7, P⟩ | X'
    · refine .inl ⟨t', v', by omega, q2, X', MM.trans M', p6.trans (h256 r), p8.trans (h258 r), p7.trans ?_, P⟩
      simp only [z_mI_mSI, z_mL_mSI, z_mA_mSI, z_mB_mSI, z_mI_mSL, z_mL_mSL, z_mA_mSL, z_mB_mSL, z_mI_mSA, z_mL_mSA, z_mA_mSA, z_mB_mSA, z_mI_mSB, z_mL_mSB, z_mA_mSB, z_mB_mSB, if_true, if_false, and_false, false_and, and_true, true_and, and_self, decide_true, decide_false, reduceCtorEq, not_false_eq_true, not_true_eq_false, Nat.reduceEqDiff, Nat.reduceAdd, Nat.reduceMul, Nat.add_zero, Nat.zero_add]
      exact W1.I 67 (by omega)
    · exact .inr X'
  · have hM : fX12_literal_29 u = some u1 := by
      unfold fX12_literal_29
      rw [oL_v, e2, oB_v, if_neg X1.f.2.1]
    have S2 : SX (sI (sI (sI h1 257 a r) 259 a 0) 260 a 0) G := S1
    have X2 : Ded (sI (sI (sI h1 257 a r) 259 a 0) 260 a 0) u1 := ((X1.setC S1 o w3 257 r).setC (h := sI h1 257 a r) S1 o w3 259 0).setC (h := sI (sI h1 257 a r) 259 a 0) S1 o w3 260 0
    obtain ⟨h2, d1, d2, d3⟩ := fit_dc S2 X2 (((sets r).I _ _ (by omega) a8).trans X.s8) X.c12 (nI (D t).1) r 0
    exact ⟨h2, u1, by rw [cls r e1, lc1_d S2 X2, d1], hM, (sets r).trans (LD.q S2 d2 (W'.refl u1)), .inr d3⟩
end L4b
