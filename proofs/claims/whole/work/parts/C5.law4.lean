section L5
variable {h h1 h5 : PH} {u u1 u5 : MS} {G : Gh} {z c : Sz} {L n t t5 ia : Nat} {D : Nat → Nat × Nat × Nat × List Nat} {x y : Int64} {a : Int32}
theorem law_s2 (I1 : PI h1 u1 G z L n D) (R1 : LR h1 u1 G z c n D t) (F1 : FL h1 u1) (N : NR x y) (sm : c.nl < 10) (Q5 : Q (sI (sB h1 13 c.nl x) 897 12 (nI (c.nl + 1))) h5) (W5 : W' (mSB u1 30 c.nl y) u5) (M5 : FM (mSB u1 30 c.nl y) u5) (I5 : PI h5 u5 G z L n D) (V5 : Liv h5 u5 D n t5) (F5 : FL h5 u5) (ht : t ≤ t5) (md : hI h5 518 23 = mI u5 72) (ha : ia < 1203) (va : mI u5 15 = 0 → a = mA u5 7 ia) : LO G z c L n D t (hN h1) (hI h1 518 23) (lG2 h5 (nI c.nl) a) (lH2 u5 (nI ia)) := by
  have S5 := I5.sx
  have n2 := I5.ts.n2
  have le := R1.le.2.2.2.1
  have g5 : ∀ f, f < 520 → hI h5 f 23 = hI h1 f 23 := fun f hf => (Q5.g f hf).trans (by simp only [z_hI_sI, z_hL_sI, z_hR_sI, z_hA_sI, z_hB_sI, z_hC_sI, z_hT_sI, z_hN_sI, z_hZ_sI, z_hI_sL, z_hL_sL, z_hR_sL, z_hA_sL, z_hB_sL, z_hC_sL, z_hT_sL, z_hN_sL, z_hZ_sL, z_hI_sR, z_hL_sR, z_hR_sR, z_hA_sR, z_hB_sR, z_hC_sR, z_hT_sR, z_hN_sR, z_hZ_sR, z_hI_sA, z_hL_sA, z_hR_sA, z_hA_sA, z_hB_sA, z_hC_sA, z_hT_sA, z_hN_sA, z_hZ_sA, z_hI_sB, z_hL_sB, z_hR_sB, z_hA_sB, z_hB_sB, z_hC_sB, z_hT_sB, z_hN_sB, z_hZ_sB, z_hI_sC, z_hL_sC, z_hR_sC, z_hA_sC, z_hB_sC, z_hC_sC, z_hT_sC, z_hN_sC, z_hZ_sC, z_hI_sY, z_hL_sY, z_hR_sY, z_hA_sY, z_hB_sY, z_hC_sY, z_hT_sY, z_hN_sY, z_hZ_sY, z_hI_nO, z_hL_nO, z_hR_nO, z_hA_nO, z_hB_nO, z_hC_nO, z_hT_nO, z_hN_nO, z_hZ_nO, z_hI_nA, z_hL_nA, z_hR_nA, z_hA_nA, z_hB_nA, z_hC_nA, z_hT_nA, z_hN_nA, z_hZ_nA, if_true, if_false, and_false, false_and, and_true, true_and, and_self, decide_true, decide_false, reduceCtorEq, not_false_eq_true, not_true_eq_false, Nat.reduceEqDiff, Nat.reduceAdd, Nat.reduceMul, Nat.add_zero, Nat.zero_add])
  have sz : ∀ h', Q h5 h' → hI h' 897 12 = nI (c.nl + 1) := fun h' q => (q.I _ _ (by omega)).trans ((Q5.I _ _ (by omega)).trans (by simp only [z_hI_sI, z_hL_sI, z_hR_sI, z_hA_sI, z_hB_sI, z_hC_sI, z_hT_sI, z_hN_sI, z_hZ_sI, z_hI_sL, z_hL_sL, z_hR_sL, z_hA_sL, z_hB_sL, z_hC_sL, z_hT_sL, z_hN_sL, z_hZ_sL, z_hI_sR, z_hL_sR, z_hR_sR, z_hA_sR, z_hB_sR, z_hC_sR, z_hT_sR, z_hN_sR, z_hZ_sR, z_hI_sA, z_hL_sA, z_hR_sA, z_hA_sA, z_hB_sA, z_hC_sA, z_hT_sA, z_hN_sA, z_hZ_sA, z_hI_sB, z_hL_sB, z_hR_sB, z_hA_sB, z_hB_sB, z_hC_sB, z_hT_sB, z_hN_sB, z_hZ_sB, z_hI_sC, z_hL_sC, z_hR_sC, z_hA_sC, z_hB_sC, z_hC_sC, z_hT_sC, z_hN_sC, z_hZ_sC, z_hI_sY, z_hL_sY, z_hR_sY, z_hA_sY, z_hB_sY, z_hC_sY, z_hT_sY, z_hN_sY, z_hZ_sY, z_hI_nO, z_hL_nO, z_hR_nO, z_hA_nO, z_hB_nO, z_hC_nO, z_hT_nO, z_hN_nO, z_hZ_nO, z_hI_nA, z_hL_nA, z_hR_nA, z_hA_nA, z_hB_nA, z_hC_nA, z_hT_nA, z_hN_nA, z_hZ_nA, if_true, if_false, and_false, false_and, and_true, true_and, and_self, decide_true, decide_false, reduceCtorEq, not_false_eq_true, not_true_eq_false, Nat.reduceEqDiff, Nat.reduceAdd, Nat.reduceMul, Nat.add_zero, Nat.zero_add]))
  have od : ∀ h', Q h5 h' → nI c.nl = -1 ∨ ∃ s m, nI c.nl = nI s ∧ s < m ∧ m ≤ 10 ∧ hI h' 897 12 = nI m ∧ z.nl ≤ s := fun h' q => .inr ⟨c.nl, c.nl + 1, rfl, by omega, by omega, sz h' q, le⟩
  have nn : ∀ h', Q h5 h' → hN h' = hN h1 := fun h' q => q.N.trans Q5.N
  have g518 : ∀ h', Q h5 h' → hI h' 518 23 = hI h1 518 23 := fun h' q => (q.g 518 (by omega)).trans (g5 518 (by omega))
  obtain ⟨h6, u6, r6, e3, e4, Q6, W6, o6⟩ := want_v I5 V5 F5 (k := 25) (by omega) (by omega) (by omega)
  have e3' : fX4_expect h5 23 305 = some (h6, r6) := e3
  have e4' : fX12_must u5 25 = some u6 := e4
  have I6 := I5.q Q6 W6
  have S6 := I6.sx
  rcases o6 with ⟨_, _, c6, V6, F6, M6⟩ | ⟨_, X6⟩
  · obtain ⟨h7, u7, r7, e5, e6, Q7, W7, o7⟩ := whole_v I6 V6 F6 (hi := 999999) (by omega)
    have e5' : fX4_integer h6 23 0 999999 = some (h7, r7) := e5
    have e6' : fX12_whole u6 999999 = some (u7, nI (t5 + 1)) := e6
    have I7 := I6.q Q7 W7
    have S7 := I7.sx
    have lt6 := V6.lt
    have hC : lG2 h5 (nI c.nl) a = lG3 h7 (nI c.nl) a r7 := by
      unfold lG2
      rw [oC_d S5.t23, e3', oB2_v, oC_d S6.t23, e5', oB2_v]
    have hM : lH2 u5 (nI ia) = lH3 u7 (nI ia) (nI (t5 + 1)) := by
      unfold lH2
      rw [e4', oB_v, e6', oB2_v]
    rw [hC, hM]
    rcases o7 with ⟨v, v9, m7, c7, V7, F7, M7, orr⟩ | ⟨X7, er⟩
    · have er : r7 = nI v := by
        rcases orr with ⟨_, q⟩ | ⟨q, _⟩
        · exact q
        · omega
      have mdk : hI h7 518 23 = mI u7 72 := ((Q7.g 518 (by omega)).trans ((Q6.g 518 (by omega)).trans md)).trans ((W6.I 72 (by omega)).symm.trans (W7.I 72 (by omega)).symm)
      rw [er]
      exact law_s3 I1 R1 F1 N sm (Q5.trans (Q6.trans Q7)) (W5.trans (W6.trans W7)) (M5.trans (M6.trans M7)) I7 V7 F7 (by omega) mdk ha (by omega) v9 (by rw [W7.A]; exact m7) (fun q => by rw [W7.A, W6.A]; exact va (FM.z F5 (M6.trans M7) q))
    · rw [g3_d S7 X7, h3_d X7]
      exact lo_d I7 X7 (nn h7 (Q6.trans Q7)) (g518 h7 (Q6.trans Q7)) (od h7 (Q6.trans Q7))
  · have hC : lG2 h5 (nI c.nl) a = lG3 h6 (nI c.nl) a 0 := by
      unfold lG2
      rw [oC_d S5.t23, e3', oB2_v, oC_d S6.t23, int_d S6 X6, oB2_v]
    have hM : lH2 u5 (nI ia) = some u6 := by
      unfold lH2
      rw [e4', oB_v, whole_d X6, oB2_v, h3_d X6]
    rw [hC, hM, g3_d S6 X6]
    exact lo_d I6 X6 (nn h6 Q6) (g518 h6 Q6) (od h6 Q6)
theorem law_s1 (I1 : PI h1 u1 G z L n D) (R1 : LR h1 u1 G z c n D t) (F1 : FL h1 u1) (N : NR x y) (sm : c.nl < 10) (I5 : PI (sI (sB h1 13 c.nl x) 897 12 (nI (c.nl + 1))) (mSB u1 30 c.nl y) G z L n D) (V5 : Liv (sI (sB h1 13 c.nl x) 897 12 (nI (c.nl + 1))) (mSB u1 30 c.nl y) D n t5) (F5 : FL (sI (sB h1 13 c.nl x) 897 12 (nI (c.nl + 1))) (mSB u1 30 c.nl y)) (ht : t ≤ t5) (md : hI h1 518 23 = mI u1 72) : LO G z c L n D t (hN h1) (hI h1 518 23) (lG1 (sI (sB h1 13 c.nl x) 897 12 (nI (c.nl + 1))) (nI c.nl)) (lH1 (mSB u1 30 c.nl y)) := by
  have S5 := I5.sx
  have n2 := I5.ts.n2
  have le := R1.le.2.2.2.1
  have g2 : ∀ f, hI (sI (sB h1 13 c.nl x) 897 12 (nI (c.nl + 1))) f 23 = hI h1 f 23 := fun f => by simp only [z_hI_sI, z_hL_sI, z_hR_sI, z_hA_sI, z_hB_sI, z_hC_sI, z_hT_sI, z_hN_sI, z_hZ_sI, z_hI_sL, z_hL_sL, z_hR_sL, z_hA_sL, z_hB_sL, z_hC_sL, z_hT_sL, z_hN_sL, z_hZ_sL, z_hI_sR, z_hL_sR, z_hR_sR, z_hA_sR, z_hB_sR, z_hC_sR, z_hT_sR, z_hN_sR, z_hZ_sR, z_hI_sA, z_hL_sA, z_hR_sA, z_hA_sA, z_hB_sA, z_hC_sA, z_hT_sA, z_hN_sA, z_hZ_sA, z_hI_sB, z_hL_sB, z_hR_sB, z_hA_sB, z_hB_sB, z_hC_sB, z_hT_sB, z_hN_sB, z_hZ_sB, z_hI_sC, z_hL_sC, z_hR_sC, z_hA_sC, z_hB_sC, z_hC_sC, z_hT_sC, z_hN_sC, z_hZ_sC, z_hI_sY, z_hL_sY, z_hR_sY, z_hA_sY, z_hB_sY, z_hC_sY, z_hT_sY, z_hN_sY, z_hZ_sY, z_hI_nO, z_hL_nO, z_hR_nO, z_hA_nO, z_hB_nO, z_hC_nO, z_hT_nO, z_hN_nO, z_hZ_nO, z_hI_nA, z_hL_nA, z_hR_nA, z_hA_nA, z_hB_nA, z_hC_nA, z_hT_nA, z_hN_nA, z_hZ_nA, if_true, if_false, and_false, false_and, and_true, true_and, and_self, decide_true, decide_false, reduceCtorEq, not_false_eq_true, not_true_eq_false, Nat.reduceEqDiff, Nat.reduceAdd, Nat.reduceMul, Nat.add_zero, Nat.zero_add]
  have sz : ∀ h', Q (sI (sB h1 13 c.nl x) 897 12 (nI (c.nl + 1))) h' → hI h' 897 12 = nI (c.nl + 1) := fun h' q => (q.I _ _ (by omega)).trans (by simp only [z_hI_sI, z_hL_sI, z_hR_sI, z_hA_sI, z_hB_sI, z_hC_sI, z_hT_sI, z_hN_sI, z_hZ_sI, z_hI_sL, z_hL_sL, z_hR_sL, z_hA_sL, z_hB_sL, z_hC_sL, z_hT_sL, z_hN_sL, z_hZ_sL, z_hI_sR, z_hL_sR, z_hR_sR, z_hA_sR, z_hB_sR, z_hC_sR, z_hT_sR, z_hN_sR, z_hZ_sR, z_hI_sA, z_hL_sA, z_hR_sA, z_hA_sA, z_hB_sA, z_hC_sA, z_hT_sA, z_hN_sA, z_hZ_sA, z_hI_sB, z_hL_sB, z_hR_sB, z_hA_sB, z_hB_sB, z_hC_sB, z_hT_sB, z_hN_sB, z_hZ_sB, z_hI_sC, z_hL_sC, z_hR_sC, z_hA_sC, z_hB_sC, z_hC_sC, z_hT_sC, z_hN_sC, z_hZ_sC, z_hI_sY, z_hL_sY, z_hR_sY, z_hA_sY, z_hB_sY, z_hC_sY, z_hT_sY, z_hN_sY, z_hZ_sY, z_hI_nO, z_hL_nO, z_hR_nO, z_hA_nO, z_hB_nO, z_hC_nO, z_hT_nO, z_hN_nO, z_hZ_nO, z_hI_nA, z_hL_nA, z_hR_nA, z_hA_nA, z_hB_nA, z_hC_nA, z_hT_nA, z_hN_nA, z_hZ_nA, if_true, if_false, and_false, false_and, and_true, true_and, and_self, decide_true, decide_false, reduceCtorEq, not_false_eq_true, not_true_eq_false, Nat.reduceEqDiff, Nat.reduceAdd, Nat.reduceMul, Nat.add_zero, Nat.zero_add])
  have od : ∀ h', Q (sI (sB h1 13 c.nl x) 897 12 (nI (c.nl + 1))) h' → nI c.nl = -1 ∨ ∃ s m, nI c.nl = nI s ∧ s < m ∧ m ≤ 10 ∧ hI h' 897 12 = nI m ∧ z.nl ≤ s := fun h' q => .inr ⟨c.nl, c.nl + 1, rfl, by omega, by omega, sz h' q, le⟩
  have g518 : ∀ h', Q (sI (sB h1 13 c.nl x) 897 12 (nI (c.nl + 1))) h' → hI h' 518 23 = hI h1 518 23 := fun h' q => (q.g 518 (by omega)).trans (g2 518)
  obtain ⟨h6, u6, r6, e3, e4, Q6, W6, o6⟩ := want_v I5 V5 F5 (k := 24) (by omega) (by omega) (by omega)
  have e3' : fX4_expect (sI (sB h1 13 c.nl x) 897 12 (nI (c.nl + 1))) 23 304 = some (h6, r6) := e3
  have e4' : fX12_must (mSB u1 30 c.nl y) 24 = some u6 := e4
  have I6 := I5.q Q6 W6
  have S6 := I6.sx
  rcases o6 with ⟨_, _, c6, V6, F6, M6⟩ | ⟨_, X6⟩
  · obtain ⟨h7, u7, r7, e5, e6, Q7, W7, o7⟩ := whole_v I6 V6 F6 (hi := 9) (by omega)
    have e5' : fX4_integer h6 23 0 9 = some (h7, r7) := e5
    have e6' : fX12_whole u6 9 = some (u7, nI (t5 + 1)) := e6
    have I7 := I6.q Q7 W7
    have S7 := I7.sx
    have lt6 := V6.lt
    have hC : lG1 (sI (sB h1 13 c.nl x) 897 12 (nI (c.nl + 1))) (nI c.nl) = lG2 h7 (nI c.nl) r7 := by
      unfold lG1
      rw [oC_d S5.t23, e3', oB2_v, oC_d S6.t23, e5', oB2_v]
    have hM : lH1 (mSB u1 30 c.nl y) = lH2 u7 (nI (t5 + 1)) := by
      unfold lH1
      rw [e4', oB_v, e6', oB2_v]
    rw [hC, hM]
    rcases o7 with ⟨v, v9, m7, c7, V7, F7, M7, orr⟩ | ⟨X7, er⟩
    · have mdk : hI h7 518 23 = mI u7 72 := (g518 h7 (Q6.trans Q7)).trans (md.trans ((W6.I 72 (by omega)).symm.trans (W7.I 72 (by omega)).symm))
      refine law_s2 I1 R1 F1 N sm (Q6.trans Q7) (W6.trans W7) (M6.trans M7) I7 V7 F7 (by omega) mdk (by omega) (fun q => ?_)
      rcases orr with ⟨_, er⟩ | ⟨_, _, fp⟩
      · rw [er, W7.A]; exact m7.symm
      · exact absurd q fp.1
    · rw [g2_d S7 X7, h2_d X7]
      exact lo_d I7 X7 ((Q6.trans Q7).N) (g518 h7 (Q6.trans Q7)) (od h7 (Q6.trans Q7))
  · have hC : lG1 (sI (sB h1 13 c.nl x) 897 12 (nI (c.nl + 1))) (nI c.nl) = lG2 h6 (nI c.nl) 0 := by
      unfold lG1
      rw [oC_d S5.t23, e3', oB2_v, oC_d S6.t23, int_d S6 X6, oB2_v]
    have hM : lH1 (mSB u1 30 c.nl y) = some u6 := by
      unfold lH1
      rw [e4', oB_v, whole_d X6, oB2_v, h2_d X6]
    rw [hC, hM, g2_d S6 X6]
    exact lo_d I6 X6 Q6.N (g518 h6 Q6) (od h6 Q6)
theorem law_v (I : PI h u G z L n D) (V : Liv h u D n t) (F : FL h u) (R : LR h u G z c n D t) (md : hI h 518 23 = mI u 72) (e : (D t).2.1 = 23) : LO G z c L n D t (hN h) (hI h 518 23) (fX4_tellLaw h 23) (fX12_tellLaw u) := by
  have S := I.sx
  have le := R.le
  have nr := I.kr.nrG
  obtain ⟨h0, u0, r0, e1, e2, Q0, W0, o0⟩ := pass_v I V F (kw := 23) (by omega) (by omega) (by omega) e
  have e1' : fX4_expect h 23 303 = some (h0, r0) := e1
  have I0 := I.q Q0 W0
  have S0 := I0.sx
  have w21 : mI u0 21 = nI c.nl := (W0.I 21 (by omega)).trans R.zm.2.2.2.1
  rw [law_split S e1' S0, lawM_split, e2, oB_v, w21]
  rcases o0 with ⟨_, c2, V0, F0, M0⟩ | ⟨_, X0⟩
  · obtain ⟨h1, u1, Q1, W1, o1⟩ := tell_v I0 V0 F0 ((R.roL S).q Q0 W0)
    have I1 := I0.q Q1 W1
    have S1 := I1.sx
    have QQ := Q0.trans Q1
    rcases o1 with ⟨x, y, N, ck, sm, c3, V1, F1, M1, e3, e4⟩ | ⟨X1, e3, e4⟩
    · have e4' : fX12_tells u0 30 (nI c.nl) 10 = some (mSB u1 30 c.nl y, nI (t + 1)) := e4
      have I2 : PI (sI (sB h1 13 c.nl x) 897 12 (nI (c.nl + 1))) (mSB u1 30 c.nl y) G z L n D := I1.d (CD.add S1 nr (.inr (.inr (.inr (.inl ⟨rfl, rfl, le.2.2.2.1⟩))))) ((MD.refl u1 z).sB (by omega) (by unfold kM; have := le.2.2.2.1; omega)) I1.rm.p3
      have R1 := R.q (t' := t) S F QQ (W0.trans W1) (M0.trans M1) (Nat.le_refl _) (Nat.le_refl _)
      have mdk : hI h1 518 23 = mI u1 72 := (QQ.g 518 (by omega)).trans (md.trans ((W0.trans W1).I 72 (by omega)).symm)
      have := law_s1 I1 R1 F1 N sm I2 (V1.add x _ y (by omega)) (F1.add x _ y (by omega)) (by omega) mdk
      rw [e3, oB2_v, e4', oB2_v]
      rw [QQ.N, QQ.g 518 (by omega)] at this
      exact this
    · have e4' : fX12_tells u0 30 (nI c.nl) 10 = some (u1, nI (t + 1)) := e4
      rw [e3, oB2_v, e4', oB2_v, g1_d S1 X1, h1_d X1]
      exact lo_d I1 X1 QQ.N (QQ.g 518 (by omega)) (.inl rfl)
  · rw [tell_dc S0 X0, oB2_v, tell_dm X0 (by decide), oB2_v, g1_d S0 X0, h1_d X0]
    exact lo_d I0 X0 Q0.N (Q0.g 518 (by omega)) (.inl rfl)
end L5
