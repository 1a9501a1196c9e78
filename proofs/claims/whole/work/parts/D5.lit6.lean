section L6
variable {h : PH} {u : MS} {G : Gh} {z c : Sz} {w v a L n t : Nat} {D : Nat → Nat × Nat × Nat × List Nat}
theorem lword_d (S : SX h G) (X : Ded h u) (ta : hT h a = 3) (o : OB G w a) (w3 : w < 30) {m : Nat} (s8 : hI h 897 8 = nI m) (c12 : m ≤ 12) {s0 : Int32} (hs : s0 = 0 ∨ s0 = 1) : ∃ h', fX4_literal_23 h 23 (some a) s0 (some a) = some h' ∧ LD h u h' u G w a ∧ Ded h' u := by
  have n23 := o.n23 S w3
  have g3 := o.g3 w3
  have a8 : 8 ≠ a := fun q => by rw [← q, S.o8] at g3; omega
  have hb : isB s0 = true := by rcases hs with q | q <;> rw [q] <;> decide
  have S0 : SX (sI h 258 a s0) G := S
  have X0 := X.setC S o w3 258 s0
  have s80 : hI (sI h 258 a s0) 897 8 = nI m := by simp only [z_hI_sI, z_hL_sI, z_hR_sI, z_hA_sI, z_hB_sI, z_hC_sI, z_hT_sI, z_hN_sI, z_hZ_sI, z_hI_sL, z_hL_sL, z_hR_sL, z_hA_sL, z_hB_sL, z_hC_sL, z_hT_sL, z_hN_sL, z_hZ_sL, z_hI_sR, z_hL_sR, z_hR_sR, z_hA_sR, z_hB_sR, z_hC_sR, z_hT_sR, z_hN_sR, z_hZ_sR, z_hI_sA, z_hL_sA, z_hR_sA, z_hA_sA, z_hB_sA, z_hC_sA, z_hT_sA, z_hN_sA, z_hZ_sA, z_hI_sB, z_hL_sB, z_hR_sB, z_hA_sB, z_hB_sB, z_hC_sB, z_hT_sB, z_hN_sB, z_hZ_sB, z_hI_sC, z_hL_sC, z_hR_sC, z_hA_sC, z_hB_sC, z_hC_sC, z_hT_sC, z_hN_sC, z_hZ_sC, z_hI_sY, z_hL_sY, z_hR_sY, z_hA_sY, z_hB_sY, z_hC_sY, z_hT_sY, z_hN_sY, z_hZ_sY, z_hI_nO, z_hL_nO, z_hR_nO, z_hA_nO, z_hB_nO, z_hC_nO, z_hT_nO, z_hN_nO, z_hZ_nO, z_hI_nA, z_hL_nA, z_hR_nA, z_hA_nA, z_hB_nA, z_hC_nA, z_hT_nA, z_hN_nA, z_hZ_nA]; rw [if_neg (fun q => a8 q.2)]; exact s8
  have fc := find_c (h := sI h 258 a s0) S0.t8 s80 S0.r896_8 S0.t9 (by rw [S0.n9]; exact c12) (by rw [S0.n9]; omega) (hL (sI h 258 a s0) 523 23)
  have e := expect_d S0 X0 (k := 1) (by omega) (by omega)
  have e' : fX4_expect (sI h 258 a s0) 23 260 = some (sI h 258 a s0, 0) := e
  obtain ⟨r, er⟩ : ∃ r, fX4_knownName (sI h 258 a s0) 23 (some 8) = some (sI h 258 a s0, r) := by
    unfold fX4_knownName fX4_knownName_0
    rw [oC_d S0.t23, oL_v, oN_v, oC_d S0.t8, fc, oB_v, e', oB2_v, if_pos rfl]
    exact ⟨_, rfl⟩
  have S2 : SX (sI (sI (sI (sI h 258 a s0) 257 a r) 259 a 0) 260 a 0) G := S
  have X2 : Ded (sI (sI (sI (sI h 258 a s0) 257 a r) 259 a 0) 260 a 0) u := ((X0.setC S0 o w3 257 r).setC (h := sI (sI h 258 a s0) 257 a r) S0 o w3 259 0).setC (h := sI (sI (sI h 258 a s0) 257 a r) 259 a 0) S0 o w3 260 0
  have T2 : LD h u (sI (sI (sI (sI h 258 a s0) 257 a r) 259 a 0) 260 a 0) u G w a := (((LD.sI S o w3 258 (by omega) s0).trans (LD.sI S0 o w3 257 (by omega) r)).trans (LD.sI (h := sI (sI h 258 a s0) 257 a r) S0 o w3 259 (by omega) 0)).trans (LD.sI (h := sI (sI (sI h 258 a s0) 257 a r) 259 a 0) S0 o w3 260 (by omega) 0)
  have cls : fX4_literal_23 h 23 (some a) s0 (some a) = lC1 a (sI (sI (sI (sI h 258 a s0) 257 a r) 259 a 0) 260 a 0) (hI (sI h 258 a s0) 522 23) r := by
    have ta0 : hT (sI h 258 a s0) a = 3 := ta
    unfold fX4_literal_23
    rw [oC_t hb, oN_v, oC_d ta, oL_v, oC_d S0.t23, oL_v, S0.r512_23, oN_v, oC_d S0.t5, S0.r129_5, er, oB2_v, oN_v, oC_d ta0, oL_v, oL_v, oL_v]
    rfl
  obtain ⟨h2, d1, d2, d3⟩ := fit_dc S2 X2 ((T2.I _ _ (by omega) a8).trans s8) c12 (hI (sI h 258 a s0) 522 23) r 0
  exact ⟨h2, by rw [cls, lc1_d S2 X2, d1], T2.trans (LD.q S2 d2 (W'.refl u)), d3⟩
theorem l29_d (X : Ded h u) : fX12_literal_29 u = some u := by
  unfold fX12_literal_29
  rw [oL_v, must_d X, oB_v, if_neg X.f.2.1]
/-- a literal, in both -/
theorem literal_v (X : LX h u G z c w v a L n D t) : ∃ h' u', fX4_literal h 23 (some a) = some h' ∧ fX12_literal u = some u' ∧ LD h u h' u' G w a ∧ (mI u' 67 = 0 ∨ mI u' 67 = 1) ∧ ((∃ t' v', t < t' ∧ v ≤ v' ∧ LX h' u' G z c w v' a L n D t' ∧ FM u u' ∧ hI h' 256 a = 260 ∧ (mI u' 15 = 0 → LtR u' c v' (hI h' 257 a) (hI h' 258 a) (hI h' 259 a) (hI h' 260 a) (mI u' 66) (mI u' 67) (mI u' 68) (mI u' 69))) ∨ Ded h' u') := by
  have S := X.i.sx
  have w3 := X.K.w3
  have o := X.o
  have n23 := o.n23 S w3
  have n2 := X.i.ts.n2
  have Y0 := X.setC 256 (by omega) 260
  have S0 := Y0.i.sx
  have T0 : LD h u (sI h 256 a 260) u G w a := LD.sI S o w3 256 (by omega) 260
  have h256 : hI (sI h 256 a 260) 256 a = 260 := by simp only [z_hI_sI, z_hL_sI, z_hR_sI, z_hA_sI, z_hB_sI, z_hC_sI, z_hT_sI, z_hN_sI, z_hZ_sI, z_hI_sL, z_hL_sL, z_hR_sL, z_hA_sL, z_hB_sL, z_hC_sL, z_hT_sL, z_hN_sL, z_hZ_sL, z_hI_sR, z_hL_sR, z_hR_sR, z_hA_sR, z_hB_sR, z_hC_sR, z_hT_sR, z_hN_sR, z_hZ_sR, z_hI_sA, z_hL_sA, z_hR_sA, z_hA_sA, z_hB_sA, z_hC_sA, z_hT_sA, z_hN_sA, z_hZ_sA, z_hI_sB, z_hL_sB, z_hR_sB, z_hA_sB, z_hB_sB, z_hC_sB, z_hT_sB, z_hN_sB, z_hZ_sB, z_hI_sC, z_hL_sC, z_hR_sC, z_hA_sC, z_hB_sC, z_hC_sC, z_hT_sC, z_hN_sC, z_hZ_sC, z_hI_sY, z_hL_sY, z_hR_sY, z_hA_sY, z_hB_sY, z_hC_sY, z_hT_sY, z_hN_sY, z_hZ_sY, z_hI_nO, z_hL_nO, z_hR_nO, z_hA_nO, z_hB_nO, z_hC_nO, z_hT_nO, z_hN_nO, z_hZ_nO, z_hI_nA, z_hL_nA, z_hR_nA, z_hA_nA, z_hB_nA, z_hC_nA, z_hT_nA, z_hN_nA, z_hZ_nA, if_true, if_false, and_false, false_and, and_true, true_and, and_self, decide_true, decide_false, reduceCtorEq, not_false_eq_true, not_true_eq_false, Nat.reduceEqDiff, Nat.reduceAdd, Nat.reduceMul, Nat.add_zero, Nat.zero_add]
  have hd : fX4_literal h 23 (some a) = oB2 (fX4_skip (sI h 256 a 260) 23 317) (fun h60 r59 => if r59 = 0 then (fX4_literal_23 h60 23 (some a) 1 (some a)) else (fX4_literal_23 h60 23 (some a) 0 (some a))) := by
    unfold fX4_literal fX4_literal_0
    rw [oN_v, oC_d X.ta, oL_v, oC_d S0.t23]
  have fin : ∀ {h1 : PH} {u1 : MS} {t1 : Nat} (s0 : Int32), (s0 = 0 ∨ s0 = 1) → LX h1 u1 G z c w v a L n D t1 → LD h u h1 u1 G w a → FM u u1 → t ≤ t1 → hI h1 256 a = 260 → mI u1 67 = s0 → fX4_literal h 23 (some a) = fX4_literal_23 h1 23 (some a) s0 (some a) → fX12_literal u = fX12_literal_29 u1 → ∃ h' u', fX4_literal h 23 (some a) = some h' ∧ fX12_literal u = some u' ∧ LD h u h' u' G w a ∧ (mI u' 67 = 0 ∨ mI u' 67 = 1) ∧ ((∃ t' v', t < t' ∧ v ≤ v' ∧ LX h' u' G z c w v' a L n D t' ∧ FM u u' ∧ hI h' 256 a = 260 ∧ (mI u' 15 = 0 → LtR u' c v' (hI h' 257 a) (hI h' 258 a) (hI h' 259 a) (hI h' 260 a) (mI u' 66) (mI u' 67) (mI u' 68) (mI u' 69))) ∨ Ded h' u') := by
    intro h1 u1 t1 s0 hs Y T M ht k6 k7 eC eM
    obtain ⟨h', u', g1, g2, T3, g3⟩ := lword Y hs
    refine ⟨h', u', eC.trans g1, eM.trans g2, T.trans T3, T3.s67 (by rw [k7]; exact hs), ?_⟩
    rcases g3 with ⟨t', v', q1, q2, X', M', p6, p8, p7, P⟩ | X'
    · refine .inl ⟨t', v', by omega, q2, X', M.trans M', p6.trans k6, fun e => ?_⟩
      obtain ⟨wd, k, a1, a2, a3, a4, a5, a6, a7⟩ := P e
      refine ⟨wd, k, a1, a2, a3, a4, a5, ?_, ?_, a6, a7⟩
      · rw [p8, p7, k7]
      · rw [p7, k7]; exact hs
    · exact .inr X'
  by_cases c35 : (D t).2.1 = 35
  · have Y1 := Y0.setM 67 (by omega) 0
    have is1 : fX12_is u 35 = some 1 := by
      have := is_v X.i X.V (k := 35) (by omega)
      rw [if_pos c35] at this
      exact this
    have hM : fX12_literal u = oB (fX12_next (mSI u 67 0)) (fun h41 => fX12_literal_29 h41) := by
      have m0 : mI (mSI u 67 0) 67 = 0 := by simp only [z_mI_mSI, z_mL_mSI, z_mA_mSI, z_mB_mSI, z_mI_mSL, z_mL_mSL, z_mA_mSL, z_mB_mSL, z_mI_mSA, z_mL_mSA, z_mA_mSA, z_mB_mSA, z_mI_mSB, z_mL_mSB, z_mA_mSB, z_mB_mSB, if_true, if_false, and_false, false_and, and_true, true_and, and_self, decide_true, decide_false, reduceCtorEq, not_false_eq_true, not_true_eq_false, Nat.reduceEqDiff, Nat.reduceAdd, Nat.reduceMul, Nat.add_zero, Nat.zero_add]
      unfold fX12_literal fX12_literal_0
      rw [is1, oB_v, if_neg (by decide)]
      unfold fX12_literal_15
      rw [oC_t (by decide), oL_v, if_pos m0]
    rcases may_v Y1.i Y1.V Y1.F (k := 35) (by omega) (by omega) (by omega) with ⟨q, _⟩ | ⟨_, _, h1, u1, r1, e1, e3, Q1, W1, o1⟩
    · exact absurd c35 q
    · have e1' : fX4_skip (sI h 256 a 260) 23 317 = some (h1, r1) := e1
      have S1 := Q1.sx S0
      have T1 : LD h u h1 u1 G w a := (T0.trans (LD.mI S0 67 (by omega) 0)).trans (LD.q S0 Q1 W1)
      have k67 : mI u1 67 = 0 := (W1.I 67 (by omega)).trans (by simp only [z_mI_mSI, z_mL_mSI, z_mA_mSI, z_mB_mSI, z_mI_mSL, z_mL_mSL, z_mA_mSL, z_mB_mSL, z_mI_mSA, z_mL_mSA, z_mA_mSA, z_mB_mSA, z_mI_mSB, z_mL_mSB, z_mA_mSB, z_mB_mSB, if_true, if_false, and_false, false_and, and_true, true_and, and_self, decide_true, decide_false, reduceCtorEq, not_false_eq_true, not_true_eq_false, Nat.reduceEqDiff, Nat.reduceAdd, Nat.reduceMul, Nat.add_zero, Nat.zero_add])
      have k256 : hI h1 256 a = 260 := (Q1.I _ _ n23).trans h256
      rcases o1 with ⟨er, c1, V1, F1, M1⟩ | ⟨er, X1⟩
      · subst er
        have Y2 := Y1.q Q1 W1 V1 F1 M1 (by omega)
        have M0 : FM u (mSI u 67 0) := fun x hx => by
          obtain ⟨p1, p, p2, p3, p4⟩ := hx
          exact ⟨by simp only [z_mI_mSI, z_mL_mSI, z_mA_mSI, z_mB_mSI, z_mI_mSL, z_mL_mSL, z_mA_mSL, z_mB_mSL, z_mI_mSA, z_mL_mSA, z_mA_mSA, z_mB_mSA, z_mI_mSB, z_mL_mSB, z_mA_mSB, z_mB_mSB, if_true, if_false, and_false, false_and, and_true, true_and, and_self, decide_true, decide_false, reduceCtorEq, not_false_eq_true, not_true_eq_false, Nat.reduceEqDiff, Nat.reduceAdd, Nat.reduceMul, Nat.add_zero, Nat.zero_add]; exact p1, p, p2, p3, by simp only [z_mI_mSI, z_mL_mSI, z_mA_mSI, z_mB_mSI, z_mI_mSL, z_mL_mSL, z_mA_mSL, z_mB_mSL, z_mI_mSA, z_mL_mSA, z_mA_mSA, z_mB_mSA, z_mI_mSB, z_mL_mSB, z_mA_mSB, z_mB_mSB, if_true, if_false, and_false, false_and, and_true, true_and, and_self, decide_true, decide_false, reduceCtorEq, not_false_eq_true, not_true_eq_false, Nat.reduceEqDiff, Nat.reduceAdd, Nat.reduceMul, Nat.add_zero, Nat.zero_add]; exact p4⟩
        exact fin 0 (.inl rfl) Y2 T1 (M0.trans M1) (by omega) k256 k67 (by rw [hd, e1', oB2_v, if_neg (by decide)]) (by rw [hM, e3, oB_v])
      · subst er
        have ta1 : hT h1 a = 3 := by rw [T1.T]; exact X.ta
        have g3 := o.g3 w3
        have a8 : 8 ≠ a := fun q => by rw [← q, S.o8] at g3; omega
        obtain ⟨h2, d1, d2, d3⟩ := lword_d (s0 := 1) S1 X1 ta1 o w3 ((T1.I _ _ (by omega) a8).trans X.s8) X.c12 (.inr rfl)
        exact ⟨h2, u1, by rw [hd, e1', oB2_v, if_pos rfl, d1], by rw [hM, e3, oB_v, l29_d X1], T1.trans d2, .inl k67, .inr d3⟩
  · have Y1 := Y0.setM 67 (by omega) 1
    have is0 : fX12_is u 35 = some 0 := by
      have := is_v X.i X.V (k := 35) (by omega)
      rw [if_neg c35] at this
      exact this
    have hM : fX12_literal u = fX12_literal_29 (mSI u 67 1) := by
      have m1 : mI (mSI u 67 1) 67 = 1 := by simp only [z_mI_mSI, z_mL_mSI, z_mA_mSI, z_mB_mSI, z_mI_mSL, z_mL_mSL, z_mA_mSL, z_mB_mSL, z_mI_mSA, z_mL_mSA, z_mA_mSA, z_mB_mSA, z_mI_mSB, z_mL_mSB, z_mA_mSB, z_mB_mSB, if_true, if_false, and_false, false_and, and_true, true_and, and_self, decide_true, decide_false, reduceCtorEq, not_false_eq_true, not_true_eq_false, Nat.reduceEqDiff, Nat.reduceAdd, Nat.reduceMul, Nat.add_zero, Nat.zero_add]
      unfold fX12_literal fX12_literal_0
      rw [is0, oB_v, if_pos rfl]
      unfold fX12_literal_15
      rw [oC_t (by decide), oL_v, m1, if_neg (by decide)]
    rcases may_v Y0.i Y0.V Y0.F (k := 35) (by omega) (by omega) (by omega) with ⟨_, e1, _⟩ | ⟨q, _⟩
    · have e1' : fX4_skip (sI h 256 a 260) 23 317 = some (sI h 256 a 260, 0) := e1
      have M0 : FM u (mSI u 67 1) := fun x hx => by
        obtain ⟨p1, p, p2, p3, p4⟩ := hx
        exact ⟨by simp only [z_mI_mSI, z_mL_mSI, z_mA_mSI, z_mB_mSI, z_mI_mSL, z_mL_mSL, z_mA_mSL, z_mB_mSL, z_mI_mSA, z_mL_mSA, z_mA_mSA, z_mB_mSA, z_mI_mSB, z_mL_mSB, z_mA_mSB, z_mB_mSB, if_true, if_false, and_false, false_and, and_true, true_and, and_self, decide_true, decide_false, reduceCtorEq, not_false_eq_true, not_true_eq_false, Nat.reduceEqDiff, Nat.reduceAdd, Nat.reduceMul, Nat.add_zero, Nat.zero_add]; exact p1, p, p2, p3, by simp only [z_mI_mSI, z_mL_mSI, z_mA_mSI, z_mB_mSI, z_mI_mSL, z_mL_mSL, z_mA_mSL, z_mB_mSL, z_mI_mSA, z_mL_mSA, z_mA_mSA, z_mB_mSA, z_mI_mSB, z_mL_mSB, z_mA_mSB, z_mB_mSB, if_true, if_false, and_false, false_and, and_true, true_and, and_self, decide_true, decide_false, reduceCtorEq, not_false_eq_true, not_true_eq_false, Nat.reduceEqDiff, Nat.reduceAdd, Nat.reduceMul, Nat.add_zero, Nat.zero_add]; exact p4⟩
      exact fin 1 (.inr rfl) Y1 (T0.trans (LD.mI S0 67 (by omega) 1)) M0 (Nat.le_refl _) h256 (by simp only [z_mI_mSI, z_mL_mSI, z_mA_mSI, z_mB_mSI, z_mI_mSL, z_mL_mSL, z_mA_mSL, z_mB_mSL, z_mI_mSA, z_mL_mSA, z_mA_mSA, z_mB_mSA, z_mI_mSB, z_mL_mSB, z_mA_mSB, z_mB_mSB, if_true, if_false, and_false, false_and, and_true, true_and, and_self, decide_true, decide_false, reduceCtorEq, not_false_eq_true, not_true_eq_false, Nat.reduceEqDiff, Nat.reduceAdd, Nat.reduceMul, Nat.add_zero, Nat.zero_add]) (by rw [hd, e1', oB2_v, if_pos rfl]) hM
    · exact absurd q c35
end L6
