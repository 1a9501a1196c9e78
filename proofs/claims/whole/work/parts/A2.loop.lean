/-- one round of the class's scan -/
theorem scan_s {h0 h : PH} {G : Gh} {L m : Nat} {b : Nat → Nat} (E : SE h0 G L b m) (hL : L ≤ 4000) {p q i : Nat} (hi : i < m) (hi2 : i ≤ 1200) (X : SC h0 h G) (at_ : hI h 1286 24 = nI p) (T : BlT b L p q) (f : Nat) : ∃ h', fX10_scan_35 (f + 1) h 24 1 (nI i) = fX10_scan_35 f h' 24 (if (tk b L q).1 = 0 ∨ (tk b L q).1 = 4 then 0 else 1) (nI (i + 1)) ∧ SC h0 h' G ∧ hI h' 1286 24 = nI (tk b L q).2.1 ∧ hI h' 1284 24 = nI (i + 1) ∧ hA h' G.kd i = cK (tk b L q).1 ∧ hA h' G.st i = nI q ∧ hB h' G.vl i = (if (tk b L q).1 = 1 ∨ 20 ≤ (tk b L q).1 then nL (pk 64 (tk b L q).2.2.2) else nL (tk b L q).2.2.1) ∧ ∀ j, j < i → hA h' G.kd j = hA h G.kd j ∧ hA h' G.st j = hA h G.st j ∧ hB h' G.vl j = hB h G.vl j := by
  have m1 := E.m1
  have tf := tk_f E.bb hL T.2.1
  obtain ⟨h1, e1, X1, a1, A1, B1, S1⟩ := skip_v E (q := q) (q - p) p (FU - (q - p + 1)) (by have := T.1; omega) X at_ T
  rw [show FU - (q - p + 1) + (q - p + 1) = FU by have : FU = 100000 := rfl; have := T.2.1; omega] at e1
  have Y1 := X.trans X1
  have Y2 : SC h0 (sB (sA h1 G.st i (nI q)) G.vl i 0) G := (Y1.sA (.inr rfl)).sB
  have k3 := E.k3
  obtain ⟨h3, e3, T3⟩ := next_v E hL hi T.2.1 (p := q) Y2 (by simp only [z_hI_sI, z_hL_sI, z_hR_sI, z_hA_sI, z_hB_sI, z_hC_sI, z_hT_sI, z_hN_sI, z_hZ_sI, z_hI_sL, z_hL_sL, z_hR_sL, z_hA_sL, z_hB_sL, z_hC_sL, z_hT_sL, z_hN_sL, z_hZ_sL, z_hI_sR, z_hL_sR, z_hR_sR, z_hA_sR, z_hB_sR, z_hC_sR, z_hT_sR, z_hN_sR, z_hZ_sR, z_hI_sA, z_hL_sA, z_hR_sA, z_hA_sA, z_hB_sA, z_hC_sA, z_hT_sA, z_hN_sA, z_hZ_sA, z_hI_sB, z_hL_sB, z_hR_sB, z_hA_sB, z_hB_sB, z_hC_sB, z_hT_sB, z_hN_sB, z_hZ_sB, z_hI_sC, z_hL_sC, z_hR_sC, z_hA_sC, z_hB_sC, z_hC_sC, z_hT_sC, z_hN_sC, z_hZ_sC, z_hI_sY, z_hL_sY, z_hR_sY, z_hA_sY, z_hB_sY, z_hC_sY, z_hT_sY, z_hN_sY, z_hZ_sY, z_hI_nO, z_hL_nO, z_hR_nO, z_hA_nO, z_hB_nO, z_hC_nO, z_hT_nO, z_hN_nO, z_hZ_nO, z_hI_nA, z_hL_nA, z_hR_nA, z_hA_nA, z_hB_nA, z_hC_nA, z_hT_nA, z_hN_nA, z_hZ_nA, if_true, if_false, and_false, false_and, and_true, true_and, and_self, decide_true, decide_false, reduceCtorEq, not_false_eq_true, not_true_eq_false, Nat.reduceEqDiff, Nat.reduceAdd, Nat.reduceMul, Nat.add_zero, Nat.zero_add]; exact a1) (by simp only [z_hI_sI, z_hL_sI, z_hR_sI, z_hA_sI, z_hB_sI, z_hC_sI, z_hT_sI, z_hN_sI, z_hZ_sI, z_hI_sL, z_hL_sL, z_hR_sL, z_hA_sL, z_hB_sL, z_hC_sL, z_hT_sL, z_hN_sL, z_hZ_sL, z_hI_sR, z_hL_sR, z_hR_sR, z_hA_sR, z_hB_sR, z_hC_sR, z_hT_sR, z_hN_sR, z_hZ_sR, z_hI_sA, z_hL_sA, z_hR_sA, z_hA_sA, z_hB_sA, z_hC_sA, z_hT_sA, z_hN_sA, z_hZ_sA, z_hI_sB, z_hL_sB, z_hR_sB, z_hA_sB, z_hB_sB, z_hC_sB, z_hT_sB, z_hN_sB, z_hZ_sB, z_hI_sC, z_hL_sC, z_hR_sC, z_hA_sC, z_hB_sC, z_hC_sC, z_hT_sC, z_hN_sC, z_hZ_sC, z_hI_sY, z_hL_sY, z_hR_sY, z_hA_sY, z_hB_sY, z_hC_sY, z_hT_sY, z_hN_sY, z_hZ_sY, z_hI_nO, z_hL_nO, z_hR_nO, z_hA_nO, z_hB_nO, z_hC_nO, z_hT_nO, z_hN_nO, z_hZ_nO, z_hI_nA, z_hL_nA, z_hR_nA, z_hA_nA, z_hB_nA, z_hC_nA, z_hT_nA, z_hN_nA, z_hZ_nA, if_true, if_false, and_false, false_and, and_true, true_and, and_self, decide_true, decide_false, reduceCtorEq, not_false_eq_true, not_true_eq_false, Nat.reduceEqDiff, Nat.reduceAdd, Nat.reduceMul, Nat.add_zero, Nat.zero_add])
  have Y3 := Y2.trans T3.sc
  refine ⟨sI (sA h3 G.kd i (cK (tk b L q).1)) 1284 24 (nI (i + 1)), ?_, (Y3.sA (.inl rfl)).sI (.inl rfl), by simp only [z_hI_sI, z_hL_sI, z_hR_sI, z_hA_sI, z_hB_sI, z_hC_sI, z_hT_sI, z_hN_sI, z_hZ_sI, z_hI_sL, z_hL_sL, z_hR_sL, z_hA_sL, z_hB_sL, z_hC_sL, z_hT_sL, z_hN_sL, z_hZ_sL, z_hI_sR, z_hL_sR, z_hR_sR, z_hA_sR, z_hB_sR, z_hC_sR, z_hT_sR, z_hN_sR, z_hZ_sR, z_hI_sA, z_hL_sA, z_hR_sA, z_hA_sA, z_hB_sA, z_hC_sA, z_hT_sA, z_hN_sA, z_hZ_sA, z_hI_sB, z_hL_sB, z_hR_sB, z_hA_sB, z_hB_sB, z_hC_sB, z_hT_sB, z_hN_sB, z_hZ_sB, z_hI_sC, z_hL_sC, z_hR_sC, z_hA_sC, z_hB_sC, z_hC_sC, z_hT_sC, z_hN_sC, z_hZ_sC, z_hI_sY, z_hL_sY, z_hR_sY, z_hA_sY, z_hB_sY, z_hC_sY, z_hT_sY, z_hN_sY, z_hZ_sY, z_hI_nO, z_hL_nO, z_hR_nO, z_hA_nO, z_hB_nO, z_hC_nO, z_hT_nO, z_hN_nO, z_hZ_nO, z_hI_nA, z_hL_nA, z_hR_nA, z_hA_nA, z_hB_nA, z_hC_nA, z_hT_nA, z_hN_nA, z_hZ_nA, if_true, if_false, and_false, false_and, and_true, true_and, and_self, decide_true, decide_false, reduceCtorEq, not_false_eq_true, not_true_eq_false, Nat.reduceEqDiff, Nat.reduceAdd, Nat.reduceMul, Nat.add_zero, Nat.zero_add]; exact T3.at_, by simp only [z_hI_sI, z_hL_sI, z_hR_sI, z_hA_sI, z_hB_sI, z_hC_sI, z_hT_sI, z_hN_sI, z_hZ_sI, z_hI_sL, z_hL_sL, z_hR_sL, z_hA_sL, z_hB_sL, z_hC_sL, z_hT_sL, z_hN_sL, z_hZ_sL, z_hI_sR, z_hL_sR, z_hR_sR, z_hA_sR, z_hB_sR, z_hC_sR, z_hT_sR, z_hN_sR, z_hZ_sR, z_hI_sA, z_hL_sA, z_hR_sA, z_hA_sA, z_hB_sA, z_hC_sA, z_hT_sA, z_hN_sA, z_hZ_sA, z_hI_sB, z_hL_sB, z_hR_sB, z_hA_sB, z_hB_sB, z_hC_sB, z_hT_sB, z_hN_sB, z_hZ_sB, z_hI_sC, z_hL_sC, z_hR_sC, z_hA_sC, z_hB_sC, z_hC_sC, z_hT_sC, z_hN_sC, z_hZ_sC, z_hI_sY, z_hL_sY, z_hR_sY, z_hA_sY, z_hB_sY, z_hC_sY, z_hT_sY, z_hN_sY, z_hZ_sY, z_hI_nO, z_hL_nO, z_hR_nO, z_hA_nO, z_hB_nO, z_hC_nO, z_hT_nO, z_hN_nO, z_hZ_nO, z_hI_nA, z_hL_nA, z_hR_nA, z_hA_nA, z_hB_nA, z_hC_nA, z_hT_nA, z_hN_nA, z_hZ_nA, if_true, if_false, and_false, false_and, and_true, true_and, and_self, decide_true, decide_false, reduceCtorEq, not_false_eq_true, not_true_eq_false, Nat.reduceEqDiff, Nat.reduceAdd, Nat.reduceMul, Nat.add_zero, Nat.zero_add], by simp only [z_hI_sI, z_hL_sI, z_hR_sI, z_hA_sI, z_hB_sI, z_hC_sI, z_hT_sI, z_hN_sI, z_hZ_sI, z_hI_sL, z_hL_sL, z_hR_sL, z_hA_sL, z_hB_sL, z_hC_sL, z_hT_sL, z_hN_sL, z_hZ_sL, z_hI_sR, z_hL_sR, z_hR_sR, z_hA_sR, z_hB_sR, z_hC_sR, z_hT_sR, z_hN_sR, z_hZ_sR, z_hI_sA, z_hL_sA, z_hR_sA, z_hA_sA, z_hB_sA, z_hC_sA, z_hT_sA, z_hN_sA, z_hZ_sA, z_hI_sB, z_hL_sB, z_hR_sB, z_hA_sB, z_hB_sB, z_hC_sB, z_hT_sB, z_hN_sB, z_hZ_sB, z_hI_sC, z_hL_sC, z_hR_sC, z_hA_sC, z_hB_sC, z_hC_sC, z_hT_sC, z_hN_sC, z_hZ_sC, z_hI_sY, z_hL_sY, z_hR_sY, z_hA_sY, z_hB_sY, z_hC_sY, z_hT_sY, z_hN_sY, z_hZ_sY, z_hI_nO, z_hL_nO, z_hR_nO, z_hA_nO, z_hB_nO, z_hC_nO, z_hT_nO, z_hN_nO, z_hZ_nO, z_hI_nA, z_hL_nA, z_hR_nA, z_hA_nA, z_hB_nA, z_hC_nA, z_hT_nA, z_hN_nA, z_hZ_nA, if_true, if_false, and_false, false_and, and_true, true_and, and_self, decide_true, decide_false, reduceCtorEq, not_false_eq_true, not_true_eq_false, Nat.reduceEqDiff, Nat.reduceAdd, Nat.reduceMul, Nat.add_zero, Nat.zero_add], ?_, ?_, fun j hj => ⟨?_, ?_, ?_⟩⟩
  · show fX10_scan_35F (fX10_scan_35 f) h 24 1 (nI i) = _
    unfold fX10_scan_35F
    rw [X.T, X.R, X.N, oC_d E.t24, E.rk, oN_v, oC_d E.tkd, E.nkd, if_neg (nI_ge hi (by omega)), if_neg (show ¬ (1200 : Int32) < nI i from nI_nlt (a := 1200) (by omega) (by omega)), if_neg (show ¬ ((1 : Int32) = 0) by decide)]
    unfold fX10_skipBlanks
    rw [e1, oB_v, Y1.T, Y1.R, Y1.N, oC_d E.t24, E.rs, oN_v, oC_d E.tst, E.nst, oC_t (ix_n hi (by omega)), oL_v, nI_clamp (show i < 2147483648 by omega), a1]
    have Y4 : SC h0 (sA h1 G.st i (nI q)) G := Y1.sA (.inr rfl)
    rw [Y4.R, Y4.T, Y4.N, E.rv, oN_v, oC_d E.tvl, E.nvl, oC_t (ix_n hi (by omega)), oL_v, e3, oB2_v, Y2.R, Y3.T, Y3.N, E.rk, oN_v, oC_d E.tkd, E.nkd, oC_t (ix_n hi (by omega)), oL_v, (Y3.sA (i := i) (v := cK (tk b L q).1) (.inl rfl)).T, oC_d E.t24, oL_v, nI_1]
    have Y5 : SC h0 (sI (sA h3 G.kd i (cK (tk b L q).1)) 1284 24 (nI (i + 1))) G := (Y3.sA (.inl rfl)).sI (.inl rfl)
    have ea : hA (sI (sA h3 G.kd i (cK (tk b L q).1)) 1284 24 (nI (i + 1))) G.kd i = cK (tk b L q).1 := by simp only [z_hI_sI, z_hL_sI, z_hR_sI, z_hA_sI, z_hB_sI, z_hC_sI, z_hT_sI, z_hN_sI, z_hZ_sI, z_hI_sL, z_hL_sL, z_hR_sL, z_hA_sL, z_hB_sL, z_hC_sL, z_hT_sL, z_hN_sL, z_hZ_sL, z_hI_sR, z_hL_sR, z_hR_sR, z_hA_sR, z_hB_sR, z_hC_sR, z_hT_sR, z_hN_sR, z_hZ_sR, z_hI_sA, z_hL_sA, z_hR_sA, z_hA_sA, z_hB_sA, z_hC_sA, z_hT_sA, z_hN_sA, z_hZ_sA, z_hI_sB, z_hL_sB, z_hR_sB, z_hA_sB, z_hB_sB, z_hC_sB, z_hT_sB, z_hN_sB, z_hZ_sB, z_hI_sC, z_hL_sC, z_hR_sC, z_hA_sC, z_hB_sC, z_hC_sC, z_hT_sC, z_hN_sC, z_hZ_sC, z_hI_sY, z_hL_sY, z_hR_sY, z_hA_sY, z_hB_sY, z_hC_sY, z_hT_sY, z_hN_sY, z_hZ_sY, z_hI_nO, z_hL_nO, z_hR_nO, z_hA_nO, z_hB_nO, z_hC_nO, z_hT_nO, z_hN_nO, z_hZ_nO, z_hI_nA, z_hL_nA, z_hR_nA, z_hA_nA, z_hB_nA, z_hC_nA, z_hT_nA, z_hN_nA, z_hZ_nA, if_true, if_false, and_false, false_and, and_true, true_and, and_self, decide_true, decide_false, reduceCtorEq, not_false_eq_true, not_true_eq_false, Nat.reduceEqDiff, Nat.reduceAdd, Nat.reduceMul, Nat.add_zero, Nat.zero_add]
    rw [Y5.R, Y5.T, Y5.N, E.rk, oN_v, oC_d E.tkd, E.nkd, oC_t (ix_n hi (by omega)), oC_t (ix_n hi (by omega)), ea]
    unfold fX10_scan_123
    rw [oL_v, oL_v, nI_1]
    have g0 : cK (tk b L q).1 = 263 ↔ (tk b L q).1 = 0 := cK_inj (b := 0) tf.1 (by omega)
    have g4 : cK (tk b L q).1 = 264 ↔ (tk b L q).1 = 4 := cK_inj (b := 4) tf.1 (by omega)
    by_cases c0 : (tk b L q).1 = 0
    · rw [if_pos (g0.mpr c0), if_pos (.inl c0)]
    · rw [if_neg (fun x => c0 (g0.mp x))]
      by_cases c4 : (tk b L q).1 = 4
      · rw [if_pos (g4.mpr c4), if_pos (.inr c4)]
      · rw [if_neg (fun x => c4 (g4.mp x)), if_neg (fun x => by rcases x with x | x; exact c0 x; exact c4 x)]
  · simp only [z_hI_sI, z_hL_sI, z_hR_sI, z_hA_sI, z_hB_sI, z_hC_sI, z_hT_sI, z_hN_sI, z_hZ_sI, z_hI_sL, z_hL_sL, z_hR_sL, z_hA_sL, z_hB_sL, z_hC_sL, z_hT_sL, z_hN_sL, z_hZ_sL, z_hI_sR, z_hL_sR, z_hR_sR, z_hA_sR, z_hB_sR, z_hC_sR, z_hT_sR, z_hN_sR, z_hZ_sR, z_hI_sA, z_hL_sA, z_hR_sA, z_hA_sA, z_hB_sA, z_hC_sA, z_hT_sA, z_hN_sA, z_hZ_sA, z_hI_sB, z_hL_sB, z_hR_sB, z_hA_sB, z_hB_sB, z_hC_sB, z_hT_sB, z_hN_sB, z_hZ_sB, z_hI_sC, z_hL_sC, z_hR_sC, z_hA_sC, z_hB_sC, z_hC_sC, z_hT_sC, z_hN_sC, z_hZ_sC, z_hI_sY, z_hL_sY, z_hR_sY, z_hA_sY, z_hB_sY, z_hC_sY, z_hT_sY, z_hN_sY, z_hZ_sY, z_hI_nO, z_hL_nO, z_hR_nO, z_hA_nO, z_hB_nO, z_hC_nO, z_hT_nO, z_hN_nO, z_hZ_nO, z_hI_nA, z_hL_nA, z_hR_nA, z_hA_nA, z_hB_nA, z_hC_nA, z_hT_nA, z_hN_nA, z_hZ_nA, if_true, if_false, and_false, false_and, and_true, true_and, and_self, decide_true, decide_false, reduceCtorEq, not_false_eq_true, not_true_eq_false, Nat.reduceEqDiff, Nat.reduceAdd, Nat.reduceMul, Nat.add_zero, Nat.zero_add]
    rw [if_neg (fun x => k3 x.symm), T3.A]
    simp only [z_hI_sI, z_hL_sI, z_hR_sI, z_hA_sI, z_hB_sI, z_hC_sI, z_hT_sI, z_hN_sI, z_hZ_sI, z_hI_sL, z_hL_sL, z_hR_sL, z_hA_sL, z_hB_sL, z_hC_sL, z_hT_sL, z_hN_sL, z_hZ_sL, z_hI_sR, z_hL_sR, z_hR_sR, z_hA_sR, z_hB_sR, z_hC_sR, z_hT_sR, z_hN_sR, z_hZ_sR, z_hI_sA, z_hL_sA, z_hR_sA, z_hA_sA, z_hB_sA, z_hC_sA, z_hT_sA, z_hN_sA, z_hZ_sA, z_hI_sB, z_hL_sB, z_hR_sB, z_hA_sB, z_hB_sB, z_hC_sB, z_hT_sB, z_hN_sB, z_hZ_sB, z_hI_sC, z_hL_sC, z_hR_sC, z_hA_sC, z_hB_sC, z_hC_sC, z_hT_sC, z_hN_sC, z_hZ_sC, z_hI_sY, z_hL_sY, z_hR_sY, z_hA_sY, z_hB_sY, z_hC_sY, z_hT_sY, z_hN_sY, z_hZ_sY, z_hI_nO, z_hL_nO, z_hR_nO, z_hA_nO, z_hB_nO, z_hC_nO, z_hT_nO, z_hN_nO, z_hZ_nO, z_hI_nA, z_hL_nA, z_hR_nA, z_hA_nA, z_hB_nA, z_hC_nA, z_hT_nA, z_hN_nA, z_hZ_nA, if_true, if_false, and_false, false_and, and_true, true_and, and_self, decide_true, decide_false, reduceCtorEq, not_false_eq_true, not_true_eq_false, Nat.reduceEqDiff, Nat.reduceAdd, Nat.reduceMul, Nat.add_zero, Nat.zero_add]
  · simp only [z_hI_sI, z_hL_sI, z_hR_sI, z_hA_sI, z_hB_sI, z_hC_sI, z_hT_sI, z_hN_sI, z_hZ_sI, z_hI_sL, z_hL_sL, z_hR_sL, z_hA_sL, z_hB_sL, z_hC_sL, z_hT_sL, z_hN_sL, z_hZ_sL, z_hI_sR, z_hL_sR, z_hR_sR, z_hA_sR, z_hB_sR, z_hC_sR, z_hT_sR, z_hN_sR, z_hZ_sR, z_hI_sA, z_hL_sA, z_hR_sA, z_hA_sA, z_hB_sA, z_hC_sA, z_hT_sA, z_hN_sA, z_hZ_sA, z_hI_sB, z_hL_sB, z_hR_sB, z_hA_sB, z_hB_sB, z_hC_sB, z_hT_sB, z_hN_sB, z_hZ_sB, z_hI_sC, z_hL_sC, z_hR_sC, z_hA_sC, z_hB_sC, z_hC_sC, z_hT_sC, z_hN_sC, z_hZ_sC, z_hI_sY, z_hL_sY, z_hR_sY, z_hA_sY, z_hB_sY, z_hC_sY, z_hT_sY, z_hN_sY, z_hZ_sY, z_hI_nO, z_hL_nO, z_hR_nO, z_hA_nO, z_hB_nO, z_hC_nO, z_hT_nO, z_hN_nO, z_hZ_nO, z_hI_nA, z_hL_nA, z_hR_nA, z_hA_nA, z_hB_nA, z_hC_nA, z_hT_nA, z_hN_nA, z_hZ_nA]
    rw [T3.B, if_pos rfl]
  · simp only [z_hI_sI, z_hL_sI, z_hR_sI, z_hA_sI, z_hB_sI, z_hC_sI, z_hT_sI, z_hN_sI, z_hZ_sI, z_hI_sL, z_hL_sL, z_hR_sL, z_hA_sL, z_hB_sL, z_hC_sL, z_hT_sL, z_hN_sL, z_hZ_sL, z_hI_sR, z_hL_sR, z_hR_sR, z_hA_sR, z_hB_sR, z_hC_sR, z_hT_sR, z_hN_sR, z_hZ_sR, z_hI_sA, z_hL_sA, z_hR_sA, z_hA_sA, z_hB_sA, z_hC_sA, z_hT_sA, z_hN_sA, z_hZ_sA, z_hI_sB, z_hL_sB, z_hR_sB, z_hA_sB, z_hB_sB, z_hC_sB, z_hT_sB, z_hN_sB, z_hZ_sB, z_hI_sC, z_hL_sC, z_hR_sC, z_hA_sC, z_hB_sC, z_hC_sC, z_hT_sC, z_hN_sC, z_hZ_sC, z_hI_sY, z_hL_sY, z_hR_sY, z_hA_sY, z_hB_sY, z_hC_sY, z_hT_sY, z_hN_sY, z_hZ_sY, z_hI_nO, z_hL_nO, z_hR_nO, z_hA_nO, z_hB_nO, z_hC_nO, z_hT_nO, z_hN_nO, z_hZ_nO, z_hI_nA, z_hL_nA, z_hR_nA, z_hA_nA, z_hB_nA, z_hC_nA, z_hT_nA, z_hN_nA, z_hZ_nA, if_true, if_false, and_false, false_and, and_true, true_and, and_self, decide_true, decide_false, reduceCtorEq, not_false_eq_true, not_true_eq_false, Nat.reduceEqDiff, Nat.reduceAdd, Nat.reduceMul, Nat.add_zero, Nat.zero_add]
    rw [if_neg (by omega), T3.A]
    simp only [z_hI_sI, z_hL_sI, z_hR_sI, z_hA_sI, z_hB_sI, z_hC_sI, z_hT_sI, z_hN_sI, z_hZ_sI, z_hI_sL, z_hL_sL, z_hR_sL, z_hA_sL, z_hB_sL, z_hC_sL, z_hT_sL, z_hN_sL, z_hZ_sL, z_hI_sR, z_hL_sR, z_hR_sR, z_hA_sR, z_hB_sR, z_hC_sR, z_hT_sR, z_hN_sR, z_hZ_sR, z_hI_sA, z_hL_sA, z_hR_sA, z_hA_sA, z_hB_sA, z_hC_sA, z_hT_sA, z_hN_sA, z_hZ_sA, z_hI_sB, z_hL_sB, z_hR_sB, z_hA_sB, z_hB_sB, z_hC_sB, z_hT_sB, z_hN_sB, z_hZ_sB, z_hI_sC, z_hL_sC, z_hR_sC, z_hA_sC, z_hB_sC, z_hC_sC, z_hT_sC, z_hN_sC, z_hZ_sC, z_hI_sY, z_hL_sY, z_hR_sY, z_hA_sY, z_hB_sY, z_hC_sY, z_hT_sY, z_hN_sY, z_hZ_sY, z_hI_nO, z_hL_nO, z_hR_nO, z_hA_nO, z_hB_nO, z_hC_nO, z_hT_nO, z_hN_nO, z_hZ_nO, z_hI_nA, z_hL_nA, z_hR_nA, z_hA_nA, z_hB_nA, z_hC_nA, z_hT_nA, z_hN_nA, z_hZ_nA]
    rw [if_neg (fun x => k3 x.1), A1]
  · simp only [z_hI_sI, z_hL_sI, z_hR_sI, z_hA_sI, z_hB_sI, z_hC_sI, z_hT_sI, z_hN_sI, z_hZ_sI, z_hI_sL, z_hL_sL, z_hR_sL, z_hA_sL, z_hB_sL, z_hC_sL, z_hT_sL, z_hN_sL, z_hZ_sL, z_hI_sR, z_hL_sR, z_hR_sR, z_hA_sR, z_hB_sR, z_hC_sR, z_hT_sR, z_hN_sR, z_hZ_sR, z_hI_sA, z_hL_sA, z_hR_sA, z_hA_sA, z_hB_sA, z_hC_sA, z_hT_sA, z_hN_sA, z_hZ_sA, z_hI_sB, z_hL_sB, z_hR_sB, z_hA_sB, z_hB_sB, z_hC_sB, z_hT_sB, z_hN_sB, z_hZ_sB, z_hI_sC, z_hL_sC, z_hR_sC, z_hA_sC, z_hB_sC, z_hC_sC, z_hT_sC, z_hN_sC, z_hZ_sC, z_hI_sY, z_hL_sY, z_hR_sY, z_hA_sY, z_hB_sY, z_hC_sY, z_hT_sY, z_hN_sY, z_hZ_sY, z_hI_nO, z_hL_nO, z_hR_nO, z_hA_nO, z_hB_nO, z_hC_nO, z_hT_nO, z_hN_nO, z_hZ_nO, z_hI_nA, z_hL_nA, z_hR_nA, z_hA_nA, z_hB_nA, z_hC_nA, z_hT_nA, z_hN_nA, z_hZ_nA]
    rw [if_neg (fun x => k3 x.1.symm), T3.A]
    simp only [z_hI_sI, z_hL_sI, z_hR_sI, z_hA_sI, z_hB_sI, z_hC_sI, z_hT_sI, z_hN_sI, z_hZ_sI, z_hI_sL, z_hL_sL, z_hR_sL, z_hA_sL, z_hB_sL, z_hC_sL, z_hT_sL, z_hN_sL, z_hZ_sL, z_hI_sR, z_hL_sR, z_hR_sR, z_hA_sR, z_hB_sR, z_hC_sR, z_hT_sR, z_hN_sR, z_hZ_sR, z_hI_sA, z_hL_sA, z_hR_sA, z_hA_sA, z_hB_sA, z_hC_sA, z_hT_sA, z_hN_sA, z_hZ_sA, z_hI_sB, z_hL_sB, z_hR_sB, z_hA_sB, z_hB_sB, z_hC_sB, z_hT_sB, z_hN_sB, z_hZ_sB, z_hI_sC, z_hL_sC, z_hR_sC, z_hA_sC, z_hB_sC, z_hC_sC, z_hT_sC, z_hN_sC, z_hZ_sC, z_hI_sY, z_hL_sY, z_hR_sY, z_hA_sY, z_hB_sY, z_hC_sY, z_hT_sY, z_hN_sY, z_hZ_sY, z_hI_nO, z_hL_nO, z_hR_nO, z_hA_nO, z_hB_nO, z_hC_nO, z_hT_nO, z_hN_nO, z_hZ_nO, z_hI_nA, z_hL_nA, z_hR_nA, z_hA_nA, z_hB_nA, z_hC_nA, z_hT_nA, z_hN_nA, z_hZ_nA, if_true, if_false, and_false, false_and, and_true, true_and, and_self, decide_true, decide_false, reduceCtorEq, not_false_eq_true, not_true_eq_false, Nat.reduceEqDiff, Nat.reduceAdd, Nat.reduceMul, Nat.add_zero, Nat.zero_add]
    rw [if_neg (by omega), A1]
  · simp only [z_hI_sI, z_hL_sI, z_hR_sI, z_hA_sI, z_hB_sI, z_hC_sI, z_hT_sI, z_hN_sI, z_hZ_sI, z_hI_sL, z_hL_sL, z_hR_sL, z_hA_sL, z_hB_sL, z_hC_sL, z_hT_sL, z_hN_sL, z_hZ_sL, z_hI_sR, z_hL_sR, z_hR_sR, z_hA_sR, z_hB_sR, z_hC_sR, z_hT_sR, z_hN_sR, z_hZ_sR, z_hI_sA, z_hL_sA, z_hR_sA, z_hA_sA, z_hB_sA, z_hC_sA, z_hT_sA, z_hN_sA, z_hZ_sA, z_hI_sB, z_hL_sB, z_hR_sB, z_hA_sB, z_hB_sB, z_hC_sB, z_hT_sB, z_hN_sB, z_hZ_sB, z_hI_sC, z_hL_sC, z_hR_sC, z_hA_sC, z_hB_sC, z_hC_sC, z_hT_sC, z_hN_sC, z_hZ_sC, z_hI_sY, z_hL_sY, z_hR_sY, z_hA_sY, z_hB_sY, z_hC_sY, z_hT_sY, z_hN_sY, z_hZ_sY, z_hI_nO, z_hL_nO, z_hR_nO, z_hA_nO, z_hB_nO, z_hC_nO, z_hT_nO, z_hN_nO, z_hZ_nO, z_hI_nA, z_hL_nA, z_hR_nA, z_hA_nA, z_hB_nA, z_hC_nA, z_hT_nA, z_hN_nA, z_hZ_nA]
    rw [T3.B, if_neg (by omega)]
    simp only [z_hI_sI, z_hL_sI, z_hR_sI, z_hA_sI, z_hB_sI, z_hC_sI, z_hT_sI, z_hN_sI, z_hZ_sI, z_hI_sL, z_hL_sL, z_hR_sL, z_hA_sL, z_hB_sL, z_hC_sL, z_hT_sL, z_hN_sL, z_hZ_sL, z_hI_sR, z_hL_sR, z_hR_sR, z_hA_sR, z_hB_sR, z_hC_sR, z_hT_sR, z_hN_sR, z_hZ_sR, z_hI_sA, z_hL_sA, z_hR_sA, z_hA_sA, z_hB_sA, z_hC_sA, z_hT_sA, z_hN_sA, z_hZ_sA, z_hI_sB, z_hL_sB, z_hR_sB, z_hA_sB, z_hB_sB, z_hC_sB, z_hT_sB, z_hN_sB, z_hZ_sB, z_hI_sC, z_hL_sC, z_hR_sC, z_hA_sC, z_hB_sC, z_hC_sC, z_hT_sC, z_hN_sC, z_hZ_sC, z_hI_sY, z_hL_sY, z_hR_sY, z_hA_sY, z_hB_sY, z_hC_sY, z_hT_sY, z_hN_sY, z_hZ_sY, z_hI_nO, z_hL_nO, z_hR_nO, z_hA_nO, z_hB_nO, z_hC_nO, z_hT_nO, z_hN_nO, z_hZ_nO, z_hI_nA, z_hL_nA, z_hR_nA, z_hA_nA, z_hB_nA, z_hC_nA, z_hT_nA, z_hN_nA, z_hZ_nA, if_true, if_false, and_false, false_and, and_true, true_and, and_self, decide_true, decide_false, reduceCtorEq, not_false_eq_true, not_true_eq_false, Nat.reduceEqDiff, Nat.reduceAdd, Nat.reduceMul, Nat.add_zero, Nat.zero_add]
    rw [if_neg (by omega), B1]
/-- the tokens of both -/
def TS (h : PH) (u : MS) (G : Gh) (L : Nat) (n : Nat) (D : Nat → Nat × Nat × Nat × List Nat) : Prop := (1 ≤ n) ∧ (n ≤ 1201) ∧ (hI h 1284 24 = nI n) ∧ (∀ j, j < n → TkR h u G j (D j)) ∧ (∀ i j, i < j → j < n → (D i).1 < (D j).1) ∧ (∀ j, j < n → (D j).1 ≤ L) ∧ (∀ j, j + 1 < n → (D j).2.1 ≠ 0 ∧ (D j).2.1 ≠ 4) ∧ ((D (n - 1)).2.1 = 0 ∨ (D (n - 1)).2.1 = 4 ∨ n = 1201)
theorem TS.n1 {h : PH} {u : MS} {G : Gh} {L : Nat} {n : Nat} {D : Nat → Nat × Nat × Nat × List Nat} (X_ : TS h u G L n D) : 1 ≤ n := X_.1
theorem TS.n2 {h : PH} {u : MS} {G : Gh} {L : Nat} {n : Nat} {D : Nat → Nat × Nat × Nat × List Nat} (X_ : TS h u G L n D) : n ≤ 1201 := X_.2.1
theorem TS.sz {h : PH} {u : MS} {G : Gh} {L : Nat} {n : Nat} {D : Nat → Nat × Nat × Nat × List Nat} (X_ : TS h u G L n D) : hI h 1284 24 = nI n := X_.2.2.1
theorem TS.tk {h : PH} {u : MS} {G : Gh} {L : Nat} {n : Nat} {D : Nat → Nat × Nat × Nat × List Nat} (X_ : TS h u G L n D) : ∀ j, j < n → TkR h u G j (D j) := X_.2.2.2.1
theorem TS.mo {h : PH} {u : MS} {G : Gh} {L : Nat} {n : Nat} {D : Nat → Nat × Nat × Nat × List Nat} (X_ : TS h u G L n D) : ∀ i j, i < j → j < n → (D i).1 < (D j).1 := X_.2.2.2.2.1
theorem TS.pl {h : PH} {u : MS} {G : Gh} {L : Nat} {n : Nat} {D : Nat → Nat × Nat × Nat × List Nat} (X_ : TS h u G L n D) : ∀ j, j < n → (D j).1 ≤ L := X_.2.2.2.2.2.1
theorem TS.go {h : PH} {u : MS} {G : Gh} {L : Nat} {n : Nat} {D : Nat → Nat × Nat × Nat × List Nat} (X_ : TS h u G L n D) : ∀ j, j + 1 < n → (D j).2.1 ≠ 0 ∧ (D j).2.1 ≠ 4 := X_.2.2.2.2.2.2.1
theorem TS.en {h : PH} {u : MS} {G : Gh} {L : Nat} {n : Nat} {D : Nat → Nat × Nat × Nat × List Nat} (X_ : TS h u G L n D) : (D (n - 1)).2.1 = 0 ∨ (D (n - 1)).2.1 = 4 ∨ n = 1201 := X_.2.2.2.2.2.2.2
theorem TS.mk {h : PH} {u : MS} {G : Gh} {L : Nat} {n : Nat} {D : Nat → Nat × Nat × Nat × List Nat} (n1_ : 1 ≤ n) (n2_ : n ≤ 1201) (sz_ : hI h 1284 24 = nI n) (tk_ : ∀ j, j < n → TkR h u G j (D j)) (mo_ : ∀ i j, i < j → j < n → (D i).1 < (D j).1) (pl_ : ∀ j, j < n → (D j).1 ≤ L) (go_ : ∀ j, j + 1 < n → (D j).2.1 ≠ 0 ∧ (D j).2.1 ≠ 4) (en_ : (D (n - 1)).2.1 = 0 ∨ (D (n - 1)).2.1 = 4 ∨ n = 1201) : TS h u G L n D := ⟨n1_, n2_, sz_, tk_, mo_, pl_, go_, en_⟩
def upD (D : Nat → Nat × Nat × Nat × List Nat) (i : Nat) (x : Nat × Nat × Nat × List Nat) : Nat → Nat × Nat × Nat × List Nat := fun j => if j = i then x else D j
theorem upD_s {D : Nat → Nat × Nat × Nat × List Nat} {i : Nat} {x : Nat × Nat × Nat × List Nat} : upD D i x i = x := if_pos rfl
theorem upD_n {D : Nat → Nat × Nat × Nat × List Nat} {i j : Nat} {x : Nat × Nat × Nat × List Nat} (h : ¬ j = i) : upD D i x j = D j := if_neg h
theorem scan_l {h0 : PH} {u0 : MS} {G : Gh} {L m : Nat} {b : Nat → Nat} (E : SE h0 G L b m) (hL : L ≤ 4000) (hm : L + 1 ≤ m ∨ m = 1201) : ∀ d i p f F {h : PH} {u : MS} {D : Nat → Nat × Nat × Nat × List Nat}, i + d = 1201 → d + 2 ≤ f → 6000 ≤ F + p → i ≤ p → p ≤ L → SC h0 h G → hI h 1286 24 = nI p → hI h 1284 24 = nI i → ME u L b → mI u 10 = nI i → MAg (fun k => k < 5 ∨ k = 9 ∨ 10 < k) u0 u → (∀ j, j < i → TkR h u G j (D j)) → (∀ a c, a < c → c < i → (D a).1 < (D c).1) → (∀ j, j < i → (D j).1 < p) → (∀ j, j < i → (D j).2.1 ≠ 0 ∧ (D j).2.1 ≠ 4) → (d = 0 → 1 ≤ i) → ∃ h' u' n D', fX10_scan_35 f h 24 1 (nI i) = some (h', 0, 0) ∧ fX12_cut_7 F u (nI p) = some u' ∧ SC h0 h' G ∧ MAg (fun k => k < 5 ∨ k = 9 ∨ 10 < k) u0 u' ∧ TS h' u' G L n D' ∧ n ≤ m := by
  have m1 := E.m1
  intro d
  induction d with
  | zero =>
    intro i p f F h u D hd hf hF hip hp X at_ sz M h10 AG TK mo pl go g1
    have ei : i = 1201 := by omega
    subst ei
    obtain ⟨f', rfl⟩ : ∃ f', f = f' + 1 := ⟨f - 1, by omega⟩
    obtain ⟨F', rfl⟩ : ∃ F', F = F' + 1 := ⟨F - 1, by omega⟩
    refine ⟨h, u, 1201, D, ?_, ?_, X, AG, ⟨by omega, by omega, sz, TK, mo, fun j hj => by have := pl j hj; omega, fun j hj => go j (by omega), .inr (.inr rfl)⟩, by omega⟩
    · show fX10_scan_35F (fX10_scan_35 f') h 24 1 (nI 1201) = _
      unfold fX10_scan_35F
      rw [X.T, X.R, X.N, oC_d E.t24, E.rk, oN_v, oC_d E.tkd, E.nkd, if_pos (nI_le (by omega) (by omega))]
    · show fX12_cut_7F (fX12_cut_7 F') u (nI p) = _
      unfold fX12_cut_7F
      rw [h10, if_pos (by decide)]
  | succ d ih =>
    intro i p f F h u D hd hf hF hip hp X at_ sz M h10 AG TK mo pl go g1
    obtain ⟨q, T⟩ := bl_ex b L (L - p) p (by omega)
    obtain ⟨t1, t2, t3, t4⟩ := T
    have T : BlT b L p q := ⟨t1, t2, t3, t4⟩
    obtain ⟨f', rfl⟩ : ∃ f', f = f' + 1 := ⟨f - 1, by omega⟩
    obtain ⟨h', e', X', a', s', k', st', v', old⟩ := scan_s E hL (show i < m by omega) (by omega) X at_ T f'
    have tf := tk_f E.bb hL t2
    obtain ⟨F', rfl⟩ : ∃ F', F = F' + 1 + (q - p) := ⟨F - 1 - (q - p), by omega⟩
    have eb := m_blanks hL M h10 (show i ≤ 1200 by omega) (q - p) p (F' + 1) (fun j h1 h2 => t3 j h1 (by omega)) (by omega)
    rw [show p + (q - p) = q by omega] at eb
    by_cases c0 : q = L
    · -- the end
      subst c0
      have k0 := tf.2.2.1 rfl
      have em : fX12_cut_7 (F' + 1) u (nI q) = some (tokU u i 0 (nI q) 0 0) := by
        show fX12_cut_7F (fX12_cut_7 F') u (nI q) = _
        unfold fX12_cut_7F
        rw [h10, if_neg (show ¬ (1200 : Int32) < nI i from nI_nlt (a := 1200) (by omega) (by omega)), at_v M hL (by omega), oB_v, M.len, if_neg (nI_nlt (Nat.le_refl q) (by omega)), token_v h10 (by omega), oB_v]
      obtain ⟨f2, rfl⟩ : ∃ f2, f' = f2 + 1 := ⟨f' - 1, by omega⟩
      refine ⟨h', tokU u i 0 (nI q) 0 0, i + 1, upD D i (q, 0, 0, []), ?_, eb.trans em, X', ?_, ?_, by omega⟩
      · rw [e', if_pos (.inl k0)]
        show fX10_scan_35F (fX10_scan_35 f2) h' 24 0 (nI (i + 1)) = _
        unfold fX10_scan_35F
        rw [X'.T, X'.R, X'.N, oC_d E.t24, E.rk, oN_v, oC_d E.tkd, E.nkd, if_pos rfl]
        split
        · rfl
        · split <;> rfl
      · refine AG.trans ?_
        unfold tokU
        exact (((((MAg.refl u).sA (by omega)).sA (by omega)).sA (by omega)).sB (by omega)).sI (by omega)
      · refine ⟨by omega, by omega, s', fun j hj => ?_, fun a c hac hc => ?_, fun j hj => ?_, fun j hj => ?_, .inl (by rw [Nat.add_sub_cancel, upD_s])⟩
        · by_cases ej : j = i
          · subst ej
            rw [upD_s]
            have te : tk b q q = (0, q, 0, []) := by unfold tk; rw [if_pos (Nat.le_refl _)]
            rw [te] at k' v'
            refine ⟨k', st', v', ?_, ?_, fun x => by simp only at x; omega, fun x => by simp only at x; omega, by simp only; omega, fun x => by simp only at x; omega, fun x => by simp only at x; omega⟩
            · unfold tokU; simp only [z_mI_mSI, z_mL_mSI, z_mA_mSI, z_mB_mSI, z_mI_mSL, z_mL_mSL, z_mA_mSL, z_mB_mSL, z_mI_mSA, z_mL_mSA, z_mA_mSA, z_mB_mSA, z_mI_mSB, z_mL_mSB, z_mA_mSB, z_mB_mSB, if_true, if_false, and_false, false_and, and_true, true_and, and_self, decide_true, decide_false, reduceCtorEq, not_false_eq_true, not_true_eq_false, Nat.reduceEqDiff, Nat.reduceAdd, Nat.reduceMul, Nat.add_zero, Nat.zero_add]; rfl
            · unfold tokU; simp only [z_mI_mSI, z_mL_mSI, z_mA_mSI, z_mB_mSI, z_mI_mSL, z_mL_mSL, z_mA_mSL, z_mB_mSL, z_mI_mSA, z_mL_mSA, z_mA_mSA, z_mB_mSA, z_mI_mSB, z_mL_mSB, z_mA_mSB, z_mB_mSB, if_true, if_false, and_false, false_and, and_true, true_and, and_self, decide_true, decide_false, reduceCtorEq, not_false_eq_true, not_true_eq_false, Nat.reduceEqDiff, Nat.reduceAdd, Nat.reduceMul, Nat.add_zero, Nat.zero_add]
          · rw [upD_n ej]
            obtain ⟨o1, o2, o3⟩ := old j (by omega)
            have := TK j (by omega)
            unfold TkR at this ⊢
            unfold tokU
            simp only [z_mI_mSI, z_mL_mSI, z_mA_mSI, z_mB_mSI, z_mI_mSL, z_mL_mSL, z_mA_mSL, z_mB_mSL, z_mI_mSA, z_mL_mSA, z_mA_mSA, z_mB_mSA, z_mI_mSB, z_mL_mSB, z_mA_mSB, z_mB_mSB, if_true, if_false, and_false, false_and, and_true, true_and, and_self, decide_true, decide_false, reduceCtorEq, not_false_eq_true, not_true_eq_false, Nat.reduceEqDiff, Nat.reduceAdd, Nat.reduceMul, Nat.add_zero, Nat.zero_add, if_neg ej, o1, o2, o3]
            exact this
        · by_cases ec : c = i
          · subst ec
            rw [upD_s, upD_n (by omega)]
            have := pl a (by omega)
            simp only
            omega
          · rw [upD_n ec, upD_n (by omega)]
            exact mo a c hac (by omega)
        · by_cases ej : j = i
          · rw [ej, upD_s]; exact Nat.le_refl _
          · rw [upD_n ej]; have := pl j (by omega); omega
        · rw [upD_n (by omega)]
          exact go j (by omega)
    · have qL : q < L := by omega
      have nb : ¬ isBl (b q) := by
        rcases t4 with x | x
        · omega
        · exact x
      obtain ⟨V, NM, em, hV, hM⟩ := cut_s M hL qL nb h10 (show i ≤ 1200 by omega) F'
      have tf2 := tf.2.1 qL
      have TK' : ∀ j, j < i + 1 → TkR h' (tokU u i (nI (tk b L q).1) (nI q) V NM) G j (upD D i (q, (tk b L q).1, (tk b L q).2.2.1, (tk b L q).2.2.2) j) := by
        intro j hj
        by_cases ej : j = i
        · subst ej
          rw [upD_s]
          refine ⟨k', st', v', ?_, ?_, fun x => ?_, fun x => ⟨?_, tf.2.2.2.1 x⟩, tf.1, tf.2.2.2.2.1, tf.2.2.2.2.2⟩
          · unfold tokU; simp only [z_mI_mSI, z_mL_mSI, z_mA_mSI, z_mB_mSI, z_mI_mSL, z_mL_mSL, z_mA_mSL, z_mB_mSL, z_mI_mSA, z_mL_mSA, z_mA_mSA, z_mB_mSA, z_mI_mSB, z_mL_mSB, z_mA_mSB, z_mB_mSB, if_true, if_false, and_false, false_and, and_true, true_and, and_self, decide_true, decide_false, reduceCtorEq, not_false_eq_true, not_true_eq_false, Nat.reduceEqDiff, Nat.reduceAdd, Nat.reduceMul, Nat.add_zero, Nat.zero_add]
          · unfold tokU; simp only [z_mI_mSI, z_mL_mSI, z_mA_mSI, z_mB_mSI, z_mI_mSL, z_mL_mSL, z_mA_mSL, z_mB_mSL, z_mI_mSA, z_mL_mSA, z_mA_mSA, z_mB_mSA, z_mI_mSB, z_mL_mSB, z_mA_mSB, z_mB_mSB, if_true, if_false, and_false, false_and, and_true, true_and, and_self, decide_true, decide_false, reduceCtorEq, not_false_eq_true, not_true_eq_false, Nat.reduceEqDiff, Nat.reduceAdd, Nat.reduceMul, Nat.add_zero, Nat.zero_add]
          · unfold tokU; simp only [z_mI_mSI, z_mL_mSI, z_mA_mSI, z_mB_mSI, z_mI_mSL, z_mL_mSL, z_mA_mSL, z_mB_mSL, z_mI_mSA, z_mL_mSA, z_mA_mSA, z_mB_mSA, z_mI_mSB, z_mL_mSB, z_mA_mSB, z_mB_mSB, if_true, if_false, and_false, false_and, and_true, true_and, and_self, decide_true, decide_false, reduceCtorEq, not_false_eq_true, not_true_eq_false, Nat.reduceEqDiff, Nat.reduceAdd, Nat.reduceMul, Nat.add_zero, Nat.zero_add]; exact hV x
          · unfold tokU; simp only [z_mI_mSI, z_mL_mSI, z_mA_mSI, z_mB_mSI, z_mI_mSL, z_mL_mSL, z_mA_mSL, z_mB_mSL, z_mI_mSA, z_mL_mSA, z_mA_mSA, z_mB_mSA, z_mI_mSB, z_mL_mSB, z_mA_mSB, z_mB_mSB, if_true, if_false, and_false, false_and, and_true, true_and, and_self, decide_true, decide_false, reduceCtorEq, not_false_eq_true, not_true_eq_false, Nat.reduceEqDiff, Nat.reduceAdd, Nat.reduceMul, Nat.add_zero, Nat.zero_add]; exact hM x
        · rw [upD_n ej]
          obtain ⟨o1, o2, o3⟩ := old j (by omega)
          have := TK j (by omega)
          unfold TkR at this ⊢
          unfold tokU
          simp only [z_mI_mSI, z_mL_mSI, z_mA_mSI, z_mB_mSI, z_mI_mSL, z_mL_mSL, z_mA_mSL, z_mB_mSL, z_mI_mSA, z_mL_mSA, z_mA_mSA, z_mB_mSA, z_mI_mSB, z_mL_mSB, z_mA_mSB, z_mB_mSB, if_true, if_false, and_false, false_and, and_true, true_and, and_self, decide_true, decide_false, reduceCtorEq, not_false_eq_true, not_true_eq_false, Nat.reduceEqDiff, Nat.reduceAdd, Nat.reduceMul, Nat.add_zero, Nat.zero_add, if_neg ej, o1, o2, o3]
          exact this
      have mo' : ∀ a c, a < c → c < i + 1 → (upD D i (q, (tk b L q).1, (tk b L q).2.2.1, (tk b L q).2.2.2) a).1 < (upD D i (q, (tk b L q).1, (tk b L q).2.2.1, (tk b L q).2.2.2) c).1 := by
        intro a c hac hc
        by_cases ec : c = i
        · subst ec
          rw [upD_s, upD_n (by omega)]
          have := pl a (by omega)
          simp only
          omega
        · rw [upD_n ec, upD_n (by omega)]
          exact mo a c hac (by omega)
      have AG' : MAg (fun k => k < 5 ∨ k = 9 ∨ 10 < k) u0 (tokU u i (nI (tk b L q).1) (nI q) V NM) := by
        refine AG.trans ?_
        unfold tokU
        exact (((((MAg.refl u).sA (by omega)).sA (by omega)).sA (by omega)).sB (by omega)).sI (by omega)
      by_cases c4 : (tk b L q).1 = 4
      · obtain ⟨f2, rfl⟩ : ∃ f2, f' = f2 + 1 := ⟨f' - 1, by omega⟩
        obtain ⟨u', er, h1, h2⟩ := m_rest (b := b) hL (L - (tk b L q).2.1) (tk b L q).2.1 (i + 1) F' (Nat.le_refl _) tf2.2.1 (by omega) (by omega) (M.tok i (nI (tk b L q).1) (nI q) V NM) (by unfold tokU; simp only [z_mI_mSI, z_mL_mSI, z_mA_mSI, z_mB_mSI, z_mI_mSL, z_mL_mSL, z_mA_mSL, z_mB_mSL, z_mI_mSA, z_mL_mSA, z_mA_mSA, z_mB_mSA, z_mI_mSB, z_mL_mSB, z_mA_mSB, z_mB_mSB, if_true, if_false, and_false, false_and, and_true, true_and, and_self, decide_true, decide_false, reduceCtorEq, not_false_eq_true, not_true_eq_false, Nat.reduceEqDiff, Nat.reduceAdd, Nat.reduceMul, Nat.add_zero, Nat.zero_add])
        refine ⟨h', u', i + 1, upD D i (q, (tk b L q).1, (tk b L q).2.2.1, (tk b L q).2.2.2), ?_, eb.trans (em.trans er), X', AG'.trans h2, ⟨by omega, by omega, s', fun j hj => ?_, mo', fun j hj => ?_, fun j hj => ?_, .inr (.inl (by rw [Nat.add_sub_cancel, upD_s]; exact c4))⟩, by omega⟩
        · rw [e', if_pos (.inr c4)]
          show fX10_scan_35F (fX10_scan_35 f2) h' 24 0 (nI (i + 1)) = _
          unfold fX10_scan_35F
          rw [X'.T, X'.R, X'.N, oC_d E.t24, E.rk, oN_v, oC_d E.tkd, E.nkd, if_pos rfl]
          split
          · rfl
          · split <;> rfl
        · have := TK' j hj
          obtain ⟨g5, g6, g7, g8⟩ := h1 j hj
          unfold TkR at this ⊢
          rw [g5, g6, g7, g8]
          exact this
        · by_cases ej : j = i
          · rw [ej, upD_s]; exact t2
          · rw [upD_n ej]; have := pl j (by omega); omega
        · rw [upD_n (by omega)]
          exact go j (by omega)
      · obtain ⟨h2, u2, n, D', r1, r2, r3⟩ := ih (i + 1) (tk b L q).2.1 f' F' (h := h') (u := tokU u i (nI (tk b L q).1) (nI q) V NM) (D := upD D i (q, (tk b L q).1, (tk b L q).2.2.1, (tk b L q).2.2.2)) (by omega) (by omega) (by omega) (by omega) tf2.2.1 X' a' s' (M.tok i _ _ _ _) (by unfold tokU; simp only [z_mI_mSI, z_mL_mSI, z_mA_mSI, z_mB_mSI, z_mI_mSL, z_mL_mSL, z_mA_mSL, z_mB_mSL, z_mI_mSA, z_mL_mSA, z_mA_mSA, z_mB_mSA, z_mI_mSB, z_mL_mSB, z_mA_mSB, z_mB_mSB, if_true, if_false, and_false, false_and, and_true, true_and, and_self, decide_true, decide_false, reduceCtorEq, not_false_eq_true, not_true_eq_false, Nat.reduceEqDiff, Nat.reduceAdd, Nat.reduceMul, Nat.add_zero, Nat.zero_add]) AG' TK' mo' (fun j hj => by
            by_cases ej : j = i
            · rw [ej, upD_s]; exact tf2.1
            · rw [upD_n ej]; have := pl j (by omega); omega) (fun j hj => by
            by_cases ej : j = i
            · rw [ej, upD_s]; exact ⟨tf2.2.2, c4⟩
            · rw [upD_n ej]; exact go j (by omega)) (fun _ => by omega)
        refine ⟨h2, u2, n, D', ?_, eb.trans (em.trans r2), r3⟩
        rw [e', if_neg (fun x => by rcases x with x | x; exact tf2.2.2 x; exact c4 x)]
        exact r1
