section L4
variable {h1 h5 : PH} {u1 u5 : MS} {G : Gh} {z c : Sz} {L n t t5 ia ib v2 : Nat} {D : Nat → Nat × Nat × Nat × List Nat} {x y : Int64} {a : Int32}
theorem law_s3 (I1 : PI h1 u1 G z L n D) (R1 : LR h1 u1 G z c n D t) (F1 : FL h1 u1) (N : NR x y) (sm : c.nl < 10) (Q5 : Q (sI (sB h1 13 c.nl x) 897 12 (nI (c.nl + 1))) h5) (W5 : W' (mSB u1 30 c.nl y) u5) (M5 : FM (mSB u1 30 c.nl y) u5) (I5 : PI h5 u5 G z L n D) (V5 : Liv h5 u5 D n t5) (F5 : FL h5 u5) (ht : t ≤ t5) (md : hI h5 518 23 = mI u5 72) (ha : ia < 1203) (hb : ib < 1203) (hv : v2 ≤ 999999) (e2 : mA u5 7 ib = nI v2) (va : mI u5 15 = 0 → a = mA u5 7 ia) : LO G z c L n D t (hN h1) (hI h1 518 23) (lG3 h5 (nI c.nl) a (nI v2)) (lH3 u5 (nI ia) (nI ib)) := by
  have S5 := I5.sx
  have n2 := I5.ts.n2
  have le := R1.le.2.2.2.1
  have g5 : ∀ f, f < 520 → hI h5 f 23 = hI h1 f 23 := fun f hf => (Q5.g f hf).trans (by simp only [z_hI_sI, z_hL_sI, z_hR_sI, z_hA_sI, z_hB_sI, z_hC_sI, z_hT_sI, z_hN_sI, z_hZ_sI, z_hI_sL, z_hL_sL, z_hR_sL, z_hA_sL, z_hB_sL, z_hC_sL, z_hT_sL, z_hN_sL, z_hZ_sL, z_hI_sR, z_hL_sR, z_hR_sR, z_hA_sR, z_hB_sR, z_hC_sR, z_hT_sR, z_hN_sR, z_hZ_sR, z_hI_sA, z_hL_sA, z_hR_sA, z_hA_sA, z_hB_sA, z_hC_sA, z_hT_sA, z_hN_sA, z_hZ_sA, z_hI_sB, z_hL_sB, z_hR_sB, z_hA_sB, z_hB_sB, z_hC_sB, z_hT_sB, z_hN_sB, z_hZ_sB, z_hI_sC, z_hL_sC, z_hR_sC, z_hA_sC, z_hB_sC, z_hC_sC, z_hT_sC, z_hN_sC, z_hZ_sC, z_hI_sY, z_hL_sY, z_hR_sY, z_hA_sY, z_hB_sY, z_hC_sY, z_hT_sY, z_hN_sY, z_hZ_sY, z_hI_nO, z_hL_nO, z_hR_nO, z_hA_nO, z_hB_nO, z_hC_nO, z_hT_nO, z_hN_nO, z_hZ_nO, z_hI_nA, z_hL_nA, z_hR_nA, z_hA_nA, z_hB_nA, z_hC_nA, z_hT_nA, z_hN_nA, z_hZ_nA, if_true, if_false, and_false, false_and, and_true, true_and, and_self, decide_true, decide_false, reduceCtorEq, not_false_eq_true, not_true_eq_false, Nat.reduceEqDiff, Nat.reduceAdd, Nat.reduceMul, Nat.add_zero, Nat.zero_add])
  have sz : ∀ h', Q h5 h' → hI h' 897 12 = nI (c.nl + 1) := fun h' q => (q.I _ _ (by omega)).trans ((Q5.I _ _ (by omega)).trans (by simp only [z_hI_sI, z_hL_sI, z_hR_sI, z_hA_sI, z_hB_sI, z_hC_sI, z_hT_sI, z_hN_sI, z_hZ_sI, z_hI_sL, z_hL_sL, z_hR_sL, z_hA_sL, z_hB_sL, z_hC_sL, z_hT_sL, z_hN_sL, z_hZ_sL, z_hI_sR, z_hL_sR, z_hR_sR, z_hA_sR, z_hB_sR, z_hC_sR, z_hT_sR, z_hN_sR, z_hZ_sR, z_hI_sA, z_hL_sA, z_hR_sA, z_hA_sA, z_hB_sA, z_hC_sA, z_hT_sA, z_hN_sA, z_hZ_sA, z_hI_sB, z_hL_sB, z_hR_sB, z_hA_sB, z_hB_sB, z_hC_sB, z_hT_sB, z_hN_sB, z_hZ_sB, z_hI_sC, z_hL_sC, z_hR_sC, z_hA_sC, z_hB_sC, z_hC_sC, z_hT_sC, z_hN_sC, z_hZ_sC, z_hI_sY, z_hL_sY, z_hR_sY, z_hA_sY, z_hB_sY, z_hC_sY, z_hT_sY, z_hN_sY, z_hZ_sY, z_hI_nO, z_hL_nO, z_hR_nO, z_hA_nO, z_hB_nO, z_hC_nO, z_hT_nO, z_hN_nO, z_hZ_nO, z_hI_nA, z_hL_nA, z_hR_nA, z_hA_nA, z_hB_nA, z_hC_nA, z_hT_nA, z_hN_nA, z_hZ_nA, if_true, if_false, and_false, false_and, and_true, true_and, and_self, decide_true, decide_false, reduceCtorEq, not_false_eq_true, not_true_eq_false, Nat.reduceEqDiff, Nat.reduceAdd, Nat.reduceMul, Nat.add_zero, Nat.zero_add]))
  have od : ∀ h', Q h5 h' → nI c.nl = -1 ∨ ∃ s m, nI c.nl = nI s ∧ s < m ∧ m ≤ 10 ∧ hI h' 897 12 = nI m ∧ z.nl ≤ s := fun h' q => .inr ⟨c.nl, c.nl + 1, rfl, by omega, by omega, sz h' q, le⟩
  have nn : ∀ h', Q h5 h' → hN h' = hN h1 := fun h' q => q.N.trans Q5.N
  have g518 : ∀ h', Q h5 h' → hI h' 518 23 = hI h1 518 23 := fun h' q => (q.g 518 (by omega)).trans (g5 518 (by omega))
  have i7 : ∀ i, i < 1203 → ix (nI i) (mlen 7) = true := fun i hi => ix_n (show i < mlen 7 from hi) (by decide)
  rcases may_v I5 V5 F5 (k := 26) (by omega) (by omega) (by omega) with ⟨_, e3, e4⟩ | ⟨_, e4, h6, u6, r, e3, e5, Q6, W6, o6⟩
  · have e3' : fX4_skip h5 23 306 = some (h5, 0) := e3
    have e4' : fX12_is u5 26 = some 0 := e4
    have := law_end (x4 := -1) (d := -1) I1 R1 F1 N sm Q5 W5 M5 I5 V5 F5 ht md ha hb (.inl rfl) (a := a) (cc := nI v2) (fun q => ⟨va q, e2.symm, by rw [if_pos rfl]⟩)
    unfold lG3 lH3
    rw [oC_d S5.t23, e3', oB2_v, if_pos rfl, e4', oB_v, if_pos rfl]
    exact this
  · have e3' : fX4_skip h5 23 306 = some (h6, r) := e3
    have e4' : fX12_is u5 26 = some 1 := e4
    have I6 := I5.q Q6 W6
    have S6 := I6.sx
    rcases o6 with ⟨r1, c6, V6, F6, M6⟩ | ⟨r1, X6⟩
    · subst r1
      have V6t := V6.t0
      have lt6 := V6.lt
      obtain ⟨h7, u7, Q7, W7, o7⟩ := int_v I6 V6 F6 (lo := v2 + 1) (hi := 999999) (by omega) (by omega)
      have I7 := I6.q Q7 W7
      have S7 := I7.sx
      have elo : nI v2 + 1 = nI (v2 + 1) := nI_add v2 1
      have hdC : lG3 h5 (nI c.nl) a (nI v2) = oB2 (fX4_integer h6 23 (nI (v2 + 1)) (nI 999999)) (fun h47 r46 => fX4_tellLaw_75 h47 23 (nI c.nl) a (nI v2) r46) := by
        unfold lG3
        rw [oC_d S5.t23, e3', oB2_v, if_neg (by decide), oC_d S6.t23, elo]
        rfl
      have hdM : ∀ w, fX12_must u6 3 = some w → W' u6 w → mI w 13 = 0 → ∀ v3, v3 ≤ 999999 → mA u6 7 (t5 + 1) = nI v3 → lH3 u5 (nI ia) (nI ib) = if v2 < v3 then fX12_tellLaw_101 w (nI ia) (nI ib) (nI (t5 + 1)) else oB (fX12_wrong w 5 (nI (t5 + 1))) (fun h65 => fX12_tellLaw_101 h65 (nI ia) (nI ib) (nI (t5 + 1))) := by
        intro w ew Ww f0 v3 hv3 m7
        have ew2 : fX12_whole u6 999999 = some (w, nI (t5 + 1)) := by
          unfold fX12_whole fX12_whole_0
          rw [oL_v, ew, oB_v, if_pos f0, V6t, oC_t (i7 _ (by omega)), nI_clamp (show t5 + 1 < 2147483648 by omega), Ww.A, m7, if_pos (show nI v3 ≤ 999999 from nI_le (b := 999999) hv3 (by omega))]
        unfold lH3
        rw [e4', oB_v, if_neg (by decide), e5, oB_v, ew2, oB2_v, if_pos f0, oC_t (i7 _ (by omega)), oC_t (i7 ib hb), nI_clamp (show t5 + 1 < 2147483648 by omega), nI_clamp (show ib < 2147483648 by omega), Ww.A, m7, W6.A, e2]
        have lt : nI v2 < nI v3 ↔ v2 < v3 := nI_ltI (by omega) (by omega)
        by_cases q : v2 < v3
        · rw [if_pos (lt.mpr q), if_pos q]
        · rw [if_neg (fun p => q (lt.mp p)), if_neg q]
      rcases o7 with ⟨v3, _, c7, v9, m7, ev, V7, F7, M7, o1, o2⟩ | ⟨X7, e6, e7⟩
      · have mdk : hI h7 518 23 = mI u7 72 := ((Q7.g 518 (by omega)).trans ((Q6.g 518 (by omega)).trans md)).trans ((W6.I 72 (by omega)).symm.trans (W7.I 72 (by omega)).symm)
        by_cases cr : v2 + 1 ≤ v3 ∧ v3 ≤ 999999
        · have e6 : fX4_integer h6 23 (nI (v2 + 1)) (nI 999999) = some (h7, nI v3) := by
            rcases o1 with ⟨_, _, q⟩ | ⟨q, _⟩
            · exact q
            · exact absurd cr q
          have e7 : fX12_must u6 3 = some u7 := by
            rcases o2 with ⟨_, _, q⟩ | ⟨q, _⟩
            · exact q
            · exact absurd cr q
          have := law_end (x4 := nI (t5 + 1)) (d := nI v3) (ia := ia) (ib := ib) (a := a) (cc := nI v2) I1 R1 F1 N sm (Q5.trans (Q6.trans Q7)) (W5.trans (W6.trans W7)) (M5.trans (M6.trans M7)) I7 V7 F7 (by omega) mdk ha hb (.inr ⟨t5 + 1, by omega, rfl⟩) (fun q => ⟨by rw [W7.A, W6.A]; exact va (FM.z F5 (M6.trans M7) q), by rw [W7.A, W6.A]; exact e2.symm, by rw [if_neg (nI_m1 (by omega)), nI_clamp (by omega), W7.A]; exact m7.symm⟩)
          rw [hdC, e6, oB2_v, hdM u7 e7 W7 V7.f0 v3 v9 m7, if_pos (by omega)]
          exact this
        · have e6 : FP u7 (D (t5 + 1)).1 ∧ fX4_integer h6 23 (nI (v2 + 1)) (nI 999999) = some (h7, nI (v2 + 1)) := by
            rcases o1 with ⟨q1, q2, _⟩ | ⟨_, q⟩
            · exact absurd ⟨q1, q2⟩ cr
            · exact q
          have e7 : oB (fX12_must u6 3) (fun w => fX12_wrong w 5 (nI (t5 + 1))) = some u7 := by
            rcases o2 with ⟨q1, q2, _⟩ | ⟨_, q⟩
            · exact absurd ⟨q1, q2⟩ cr
            · exact q
          obtain ⟨w, w1, w2⟩ := oB_inv e7
          have m0 : fX12_must u6 (nI 3) = some w := w1
          obtain ⟨_, uw, _, _, e8, _, Ww, ow⟩ := want_v I6 V6 F6 (k := 3) (by omega) (by omega) (by omega)
          have ew : uw = w := by rw [m0] at e8; exact (Option.some.inj e8).symm
          subst ew
          have f0 : mI uw 13 = 0 := by
            rcases ow with ⟨_, _, _, Vw, _⟩ | ⟨_, Xw⟩
            · exact Vw.f0
            · exfalso
              have : fX12_wrong uw 5 (nI (t5 + 1)) = some uw := by
                unfold fX12_wrong fX12_wrong_0
                rw [oC_t (ix_n (show t5 + 1 < mlen 6 by show t5 + 1 < 1203; omega) (by decide)), oL_v, if_pos Xw.f.2.2]
              rw [this] at w2
              have : uw = u7 := Option.some.inj w2
              rw [this] at Xw
              exact Xw.f.1 V7.f0
          have := law_end (x4 := nI (t5 + 1)) (d := nI (v2 + 1)) (ia := ia) (ib := ib) (a := a) (cc := nI v2) I1 R1 F1 N sm (Q5.trans (Q6.trans Q7)) (W5.trans (W6.trans W7)) (M5.trans (M6.trans M7)) I7 V7 F7 (by omega) mdk ha hb (.inr ⟨t5 + 1, by omega, rfl⟩) (fun q => absurd q e6.1.1)
          rw [hdC, e6.2, oB2_v, hdM uw w1 Ww f0 v3 v9 m7, if_neg (by omega), w2, oB_v]
          exact this
      · have hM : lH3 u5 (nI ia) (nI ib) = some u7 := by
          have ew2 : fX12_whole u6 999999 = some (u7, nI (t5 + 1)) := by
            unfold fX12_whole fX12_whole_0
            rw [oL_v, e7, oB_v, if_neg X7.f.1, V6t]
          unfold lH3
          rw [e4', oB_v, if_neg (by decide), e5, oB_v, ew2, oB2_v, if_neg X7.f.1, h101_d X7]
        rw [hdC, e6, oB2_v, hM]
        exact lo_d I7 X7 (nn h7 (Q6.trans Q7)) (g518 h7 (Q6.trans Q7)) (od h7 (Q6.trans Q7))
    · subst r1
      have hM : lH3 u5 (nI ia) (nI ib) = some u6 := by
        unfold lH3
        rw [e4', oB_v, if_neg (by decide), e5, oB_v, whole_d X6, oB2_v, if_neg X6.f.1, h101_d X6]
      have hC : lG3 h5 (nI c.nl) a (nI v2) = fX4_tellLaw_75 h6 23 (nI c.nl) a (nI v2) (-1) := by
        unfold lG3
        rw [oC_d S5.t23, e3', oB2_v, if_pos rfl]
      rw [hC, hM]
      exact lo_d I6 X6 (nn h6 Q6) (g518 h6 Q6) (od h6 Q6)
end L4
