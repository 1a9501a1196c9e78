def lC2 (a : Nat) (h : PH) (y r : Int32) : Option PH := oC (decide (hT h 23 = 5)) (oB2 (fX4_skip h 23 44) (fun h46 r45 => if r45 = 0 then (fX4_literal_101 h46 23 y r 1) else (oC (decide (hT h46 23 = 5)) (oB2 (fX4_term h46 23) (fun h51 r50 => oC (decide (hT h51 a = 3)) (oL (sI h51 260 a r50) (fun h53 => fX4_literal_101 h53 23 y r 2)))))))
def lC1 (a : Nat) (h : PH) (y r : Int32) : Option PH := oC (decide (hT h 23 = 5)) (oB2 (fX4_skip h 23 40) (fun h35 r34 => if r34 = 0 then (fX4_literal_108 h35 23 y r 0) else (oC (decide (hT h35 23 = 5)) (oB2 (fX4_term h35 23) (fun h40 r39 => oC (decide (hT h40 a = 3)) (oL (sI h40 259 a r39) (fun h42 => lC2 a h42 y r)))))))
def lM2 (w : MS) (y : Int32) : Option MS := oB (fX12_is w 7) (fun r29 => if r29 = 0 then (fX12_literal_122 w y 1) else (oB (fX12_next w) (fun h32 => oB2 (fX12_term h32) (fun h35 r34 => oL (mSI h35 69 r34) (fun h36 => fX12_literal_122 h36 y 2)))))
def lM1 (w : MS) (y : Int32) : Option MS := oB (fX12_is w 9) (fun r20 => if r20 = 0 then (fX12_literal_128 w y 0) else (oB (fX12_next w) (fun h23 => oB2 (fX12_term h23) (fun h26 r25 => oL (mSI h26 68 r25) (fun h27 => lM2 h27 y)))))
theorem TmR.nv {c : Sz} {v v' : Nat} {a b : Int32} (h : v ≤ v') (p : TmR c v a b) : TmR c v' a b := by
  obtain ⟨t, p1, p2⟩ := p
  refine ⟨t, ?_, p2⟩
  unfold okTm at *
  omega
section L3b
variable {h : PH} {u : MS} {G : Gh} {z c : Sz} {w v a L n t t0 k : Nat} {D : Nat → Nat × Nat × Nat × List Nat} {r : Int32}
theorem Ded.setC (S : SX h G) (o : OB G w a) (hw : w < 30) (X : Ded h u) (f : Nat) (x : Int32) : Ded (sI h f a x) u := X.fr fun g _ => by
  have := o.n23 S hw
  simp only [z_hI_sI, z_hL_sI, z_hR_sI, z_hA_sI, z_hB_sI, z_hC_sI, z_hT_sI, z_hN_sI, z_hZ_sI, z_hI_sL, z_hL_sL, z_hR_sL, z_hA_sL, z_hB_sL, z_hC_sL, z_hT_sL, z_hN_sL, z_hZ_sL, z_hI_sR, z_hL_sR, z_hR_sR, z_hA_sR, z_hB_sR, z_hC_sR, z_hT_sR, z_hN_sR, z_hZ_sR, z_hI_sA, z_hL_sA, z_hR_sA, z_hA_sA, z_hB_sA, z_hC_sA, z_hT_sA, z_hN_sA, z_hZ_sA, z_hI_sB, z_hL_sB, z_hR_sB, z_hA_sB, z_hB_sB, z_hC_sB, z_hT_sB, z_hN_sB, z_hZ_sB, z_hI_sC, z_hL_sC, z_hR_sC, z_hA_sC, z_hB_sC, z_hC_sC, z_hT_sC, z_hN_sC, z_hZ_sC, z_hI_sY, z_hL_sY, z_hR_sY, z_hA_sY, z_hB_sY, z_hC_sY, z_hT_sY, z_hN_sY, z_hZ_sY, z_hI_nO, z_hL_nO, z_hR_nO, z_hA_nO, z_hB_nO, z_hC_nO, z_hT_nO, z_hN_nO, z_hZ_nO, z_hI_nA, z_hL_nA, z_hR_nA, z_hA_nA, z_hB_nA, z_hC_nA, z_hT_nA, z_hN_nA, z_hZ_nA]
  rw [if_neg (fun q => this q.2.symm)]
theorem Ded.setM (X : Ded h u) (k : Nat) (hk : 66 ≤ k ∧ k ≤ 69) (x : Int32) : Ded h (mSI u k x) := by
  have e : ∀ g, g < 66 → mI (mSI u k x) g = mI u g := fun g hg => by simp only [z_mI_mSI, z_mL_mSI, z_mA_mSI, z_mB_mSI, z_mI_mSL, z_mL_mSL, z_mA_mSL, z_mB_mSL, z_mI_mSA, z_mL_mSA, z_mA_mSA, z_mB_mSA, z_mI_mSB, z_mL_mSB, z_mA_mSB, z_mB_mSB]; rw [if_neg (fun q => by omega)]
  obtain ⟨t, ht, et⟩ := X.tt
  exact ⟨X.st, (e 13 (by omega)).trans X.fa, by rw [e 14 (by omega)]; exact X.pl, X.kd, t, ht, (e 11 (by omega)).trans et⟩
theorem l101_d (S : SX h G) (X : Ded h u) (y r k : Int32) : fX4_literal_101 h 23 y r k = fX4_literal_108 h 23 y r k := by
  have e := expect_d S X (k := 10) (by omega) (by omega)
  have e' : fX4_expect h 23 41 = some (h, 0) := e
  unfold fX4_literal_101
  rw [oC_d S.t23, e', oB2_v]
theorem l122_d (X : Ded h u) (y k : Int32) : fX12_literal_122 u y k = some u := by
  unfold fX12_literal_122
  rw [must_d X, oB_v, fit_dm X]
/-- a stop within a literal: the class ends it all the same -/
theorem lstop {h1 : PH} {u1 : MS} (T : LD h u h1 u1 G w a) (S1 : SX h1 G) (X1 : Ded h1 u1) (s8 : hI h1 897 8 = nI c.nw) (c12 : c.nw ≤ 12) (y r k : Int32) : LOut h u G z c w v a L n D t (fX4_literal_108 h1 23 y r k) (some u1) := by
  obtain ⟨h2, d1, d2, d3⟩ := fit_dc S1 X1 s8 c12 y r k
  exact LOut.dead (T.trans (LD.q S1 d2 (W'.refl u1))) d3 d1 rfl
theorem lsecond (X : LX h u G z c w v a L n D t) (ht0 : t0 < t) (W : Wd h u c (D t0).1 r) (m66 : mI u 66 = r) (s257 : hI h 257 a = r) (T1 : mI u 15 = 0 → TmR c v (hI h 259 a) (mI u 68)) (n1 : hI h 260 a = 0) (n2 : mI u 69 = -1) : LOut h u G z c w v a L n D t (lC2 a h (nI (D t0).1) r) (lM2 u (nI t0)) := by
  have S := X.i.sx
  have w3 := X.K.w3
  have o := X.o
  have n23 := o.n23 S w3
  have g3 := o.g3 w3
  have a8 : 8 ≠ a := fun q => by rw [← q, S.o8] at g3; omega
  rcases may_v X.i X.V X.F (k := 7) (by omega) (by omega) (by omega) with ⟨_, e1, e2⟩ | ⟨_, e2, h1, u1, r1, e1, e3, Q1, W1, o1⟩
  · have e1' : fX4_skip h 23 44 = some (h, 0) := e1
    have e2' : fX12_is u 7 = some 0 := e2
    have := lclose (k := 1) X ht0 (by omega) W m66 s257 (fun e => ⟨by rw [if_pos (by omega)]; exact T1 e, by rw [if_neg (by omega)]; exact ⟨n1, n2⟩⟩)
    unfold lC2 lM2
    rw [oC_d S.t23, e1', oB2_v, if_pos rfl, e2', oB_v, if_pos rfl]
    exact this
  · have e1' : fX4_skip h 23 44 = some (h1, r1) := e1
    have e2' : fX12_is u 7 = some 1 := e2
    have S1 := Q1.sx S
    have TT : LD h u h1 u1 G w a := LD.q S Q1 W1
    rcases o1 with ⟨er, c1, V1, F1, M1⟩ | ⟨er, X1⟩
    · subst er
      have Y1 := X.q Q1 W1 V1 F1 M1 (by omega)
      obtain ⟨h2, u2, q, q', e4, e5, T2, o2⟩ := term_v Y1.i Y1.V Y1.F Y1.K Y1.hw Y1.rp Y1.m18
      have S2 : SX h2 G := (T2.cd z Y1.i.kr.nrG).sx
      have ta2 : hT h2 a = 3 := by rw [T2.T]; exact Y1.ta
      have hC : lC2 a h (nI (D t0).1) r = fX4_literal_101 (sI h2 260 a q) 23 (nI (D t0).1) r 2 := by
        unfold lC2
        rw [oC_d S.t23, e1', oB2_v, if_neg (by decide), oC_d S1.t23, e4, oB2_v, oC_d ta2, oL_v]
      have hM : lM2 u (nI t0) = fX12_literal_122 (mSI u2 69 q') (nI t0) 2 := by
        unfold lM2
        rw [e2', oB_v, if_neg (by decide), e3, oB_v, e5, oB2_v, oL_v]
      rw [hC, hM]
      have TA : LD h u h2 u2 G w a := TT.trans (LD.of T2)
      have TB : LD h u (sI h2 260 a q) (mSI u2 69 q') G w a := (TA.trans (LD.sI S2 o w3 260 (by omega) q)).trans (LD.mI (h := sI h2 260 a q) S2 69 (by omega) q')
      rcases o2 with ⟨v', hv, V2, F2, M2, K2, oo⟩ | X2
      · have Y2 : LX h2 u2 G z c w v' a L n D (t + 1 + 1) := Y1.ld (LD.of T2) V2 F2 M2 K2 (by omega)
        have Y3 := (Y2.setC 260 (by omega) q).setM 69 (by omega) q'
        have MM : FM u (mSI u2 69 q') := (M1.trans M2).trans (fun x hx => by
          obtain ⟨p1, p, p2, p3, p4⟩ := hx
          exact ⟨by simp only [z_mI_mSI, z_mL_mSI, z_mA_mSI, z_mB_mSI, z_mI_mSL, z_mL_mSL, z_mA_mSL, z_mB_mSL, z_mI_mSA, z_mL_mSA, z_mA_mSA, z_mB_mSA, z_mI_mSB, z_mL_mSB, z_mA_mSB, z_mB_mSB, if_true, if_false, and_false, false_and, and_true, true_and, and_self, decide_true, decide_false, reduceCtorEq, not_false_eq_true, not_true_eq_false, Nat.reduceEqDiff, Nat.reduceAdd, Nat.reduceMul, Nat.add_zero, Nat.zero_add]; exact p1, p, p2, p3, by simp only [z_mI_mSI, z_mL_mSI, z_mA_mSI, z_mB_mSI, z_mI_mSL, z_mL_mSL, z_mA_mSL, z_mB_mSL, z_mI_mSA, z_mL_mSA, z_mA_mSA, z_mB_mSA, z_mI_mSB, z_mL_mSB, z_mA_mSB, z_mB_mSB, if_true, if_false, and_false, false_and, and_true, true_and, and_self, decide_true, decide_false, reduceCtorEq, not_false_eq_true, not_true_eq_false, Nat.reduceEqDiff, Nat.reduceAdd, Nat.reduceMul, Nat.add_zero, Nat.zero_add]; exact p4⟩)
        have i2 : ∀ f, hI h2 f a = hI h f a := fun f => (T2.I _ _ n23).trans (Q1.I _ _ n23)
        have is : ∀ f, f ≠ 260 → hI (sI h2 260 a q) f a = hI h f a := fun f hf => by simp only [z_hI_sI, z_hL_sI, z_hR_sI, z_hA_sI, z_hB_sI, z_hC_sI, z_hT_sI, z_hN_sI, z_hZ_sI, z_hI_sL, z_hL_sL, z_hR_sL, z_hA_sL, z_hB_sL, z_hC_sL, z_hT_sL, z_hN_sL, z_hZ_sL, z_hI_sR, z_hL_sR, z_hR_sR, z_hA_sR, z_hB_sR, z_hC_sR, z_hT_sR, z_hN_sR, z_hZ_sR, z_hI_sA, z_hL_sA, z_hR_sA, z_hA_sA, z_hB_sA, z_hC_sA, z_hT_sA, z_hN_sA, z_hZ_sA, z_hI_sB, z_hL_sB, z_hR_sB, z_hA_sB, z_hB_sB, z_hC_sB, z_hT_sB, z_hN_sB, z_hZ_sB, z_hI_sC, z_hL_sC, z_hR_sC, z_hA_sC, z_hB_sC, z_hC_sC, z_hT_sC, z_hN_sC, z_hZ_sC, z_hI_sY, z_hL_sY, z_hR_sY, z_hA_sY, z_hB_sY, z_hC_sY, z_hT_sY, z_hN_sY, z_hZ_sY, z_hI_nO, z_hL_nO, z_hR_nO, z_hA_nO, z_hB_nO, z_hC_nO, z_hT_nO, z_hN_nO, z_hZ_nO, z_hI_nA, z_hL_nA, z_hR_nA, z_hA_nA, z_hB_nA, z_hC_nA, z_hT_nA, z_hN_nA, z_hZ_nA]; rw [if_neg (fun x => hf x.1)]; exact i2 f
        have mm : ∀ j, 66 ≤ j → j ≤ 68 → mI (mSI u2 69 q') j = mI u j := fun j h1 h2 => by simp only [z_mI_mSI, z_mL_mSI, z_mA_mSI, z_mB_mSI, z_mI_mSL, z_mL_mSL, z_mA_mSL, z_mB_mSL, z_mI_mSA, z_mL_mSA, z_mA_mSA, z_mB_mSA, z_mI_mSB, z_mL_mSB, z_mA_mSB, z_mB_mSB]; rw [if_neg (by omega)]; exact (T2.mi j (by omega)).trans (W1.I j (by omega))
        refine LOut.pre TB MM (is 256 (by omega)) (is 258 (by omega)) (mm 67 (by omega) (by omega)) hv (by omega) (lclose (k := 2) Y3 (by omega) (by omega) (W.ld TB MM) ((mm 66 (by omega) (by omega)).trans m66) ((is 257 (by omega)).trans s257) (fun e => ?_))
        have e0 := T1 (FM.z X.F MM e)
        rw [if_pos (by omega), if_pos (by omega), is 259 (by omega), mm 68 (by omega) (by omega)]
        refine ⟨e0.nv hv, ?_⟩
        have e260 : hI (sI h2 260 a q) 260 a = q := by simp only [z_hI_sI, z_hL_sI, z_hR_sI, z_hA_sI, z_hB_sI, z_hC_sI, z_hT_sI, z_hN_sI, z_hZ_sI, z_hI_sL, z_hL_sL, z_hR_sL, z_hA_sL, z_hB_sL, z_hC_sL, z_hT_sL, z_hN_sL, z_hZ_sL, z_hI_sR, z_hL_sR, z_hR_sR, z_hA_sR, z_hB_sR, z_hC_sR, z_hT_sR, z_hN_sR, z_hZ_sR, z_hI_sA, z_hL_sA, z_hR_sA, z_hA_sA, z_hB_sA, z_hC_sA, z_hT_sA, z_hN_sA, z_hZ_sA, z_hI_sB, z_hL_sB, z_hR_sB, z_hA_sB, z_hB_sB, z_hC_sB, z_hT_sB, z_hN_sB, z_hZ_sB, z_hI_sC, z_hL_sC, z_hR_sC, z_hA_sC, z_hB_sC, z_hC_sC, z_hT_sC, z_hN_sC, z_hZ_sC, z_hI_sY, z_hL_sY, z_hR_sY, z_hA_sY, z_hB_sY, z_hC_sY, z_hT_sY, z_hN_sY, z_hZ_sY, z_hI_nO, z_hL_nO, z_hR_nO, z_hA_nO, z_hB_nO, z_hC_nO, z_hT_nO, z_hN_nO, z_hZ_nO, z_hI_nA, z_hL_nA, z_hR_nA, z_hA_nA, z_hB_nA, z_hC_nA, z_hT_nA, z_hN_nA, z_hZ_nA, if_true, if_false, and_false, false_and, and_true, true_and, and_self, decide_true, decide_false, reduceCtorEq, not_false_eq_true, not_true_eq_false, Nat.reduceEqDiff, Nat.reduceAdd, Nat.reduceMul, Nat.add_zero, Nat.zero_add]
        have e69 : mI (mSI u2 69 q') 69 = q' := by simp only [z_mI_mSI, z_mL_mSI, z_mA_mSI, z_mB_mSI, z_mI_mSL, z_mL_mSL, z_mA_mSL, z_mB_mSL, z_mI_mSA, z_mL_mSA, z_mA_mSA, z_mB_mSA, z_mI_mSB, z_mL_mSB, z_mA_mSB, z_mB_mSB, if_true, if_false, and_false, false_and, and_true, true_and, and_self, decide_true, decide_false, reduceCtorEq, not_false_eq_true, not_true_eq_false, Nat.reduceEqDiff, Nat.reduceAdd, Nat.reduceMul, Nat.add_zero, Nat.zero_add]
        have e15 : mI u2 15 = 0 := by simp only [z_mI_mSI, z_mL_mSI, z_mA_mSI, z_mB_mSI, z_mI_mSL, z_mL_mSL, z_mA_mSL, z_mB_mSL, z_mI_mSA, z_mL_mSA, z_mA_mSA, z_mB_mSA, z_mI_mSB, z_mL_mSB, z_mA_mSB, z_mB_mSB, if_true, if_false, and_false, false_and, and_true, true_and, and_self, decide_true, decide_false, reduceCtorEq, not_false_eq_true, not_true_eq_false, Nat.reduceEqDiff, Nat.reduceAdd, Nat.reduceMul, Nat.add_zero, Nat.zero_add] at e; exact e
        rw [e260, e69]
        rcases oo with ⟨tt, ok, eq, eq'⟩ | ⟨_, _, fp⟩
        · exact ⟨tt, ok, eq, eq'⟩
        · exact absurd e15 fp.1
      · have X3 := (X2.setC S2 o w3 260 q).setM 69 (by omega) q'
        rw [l101_d (h := sI h2 260 a q) S2 X3, l122_d X3]
        refine lstop TB S2 X3 ?_ X.c12 _ _ _
        exact (TB.I _ _ (by omega) a8).trans X.s8
    · subst er
      have hC : lC2 a h (nI (D t0).1) r = fX4_literal_108 h1 23 (nI (D t0).1) r 1 := by
        unfold lC2
        rw [oC_d S.t23, e1', oB2_v, if_pos rfl, l101_d S1 X1]
      have hM : lM2 u (nI t0) = some (mSI u1 69 (-1)) := by
        unfold lM2
        rw [e2', oB_v, if_neg (by decide), e3, oB_v, term_dm X1, oB2_v, oL_v, l122_d (X1.setM 69 (by omega) (-1))]
      rw [hC, hM]
      exact lstop (TT.trans (LD.mI S1 69 (by omega) (-1))) S1 (X1.setM 69 (by omega) (-1)) ((Q1.I _ _ (by omega)).trans X.s8) X.c12 _ _ _
end L3b
