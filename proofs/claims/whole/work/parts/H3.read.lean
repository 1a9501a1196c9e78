section RD3
variable {h : PH} {u : MS} {G : Gh} {z c : Sz} {L n t j : Nat} {D : Nat → Nat × Nat × Nat × List Nat}
/-- the reference's last state where the reading is dropped -/
def rsM (u : MS) (x1 x2 x3 x4 x5 x6 x7 p : Int32) : MS := mSI (mSI (mSI (mSI (mSI (mSI (mSI (mSI (mSI u 17 (-1)) 18 x1) 19 x2) 20 x3) 21 x4) 22 x5) 23 x6) 24 x7) 17 p
theorem rsM_i (u : MS) (x1 x2 x3 x4 x5 x6 x7 p : Int32) (k : Nat) (hk : ¬ (17 ≤ k ∧ k ≤ 24)) : mI (rsM u x1 x2 x3 x4 x5 x6 x7 p) k = mI u k := by
  unfold rsM
  simp only [z_mI_mSI, z_mL_mSI, z_mA_mSI, z_mB_mSI, z_mI_mSL, z_mL_mSL, z_mA_mSL, z_mB_mSL, z_mI_mSA, z_mL_mSA, z_mA_mSA, z_mB_mSA, z_mI_mSB, z_mL_mSB, z_mA_mSB, z_mB_mSB]
  rw [if_neg (by omega), if_neg (by omega), if_neg (by omega), if_neg (by omega), if_neg (by omega), if_neg (by omega), if_neg (by omega), if_neg (by omega), if_neg (by omega)]
theorem r183_v (u : MS) (x1 x2 x3 x4 x5 x6 x7 : Int32) : fX12_read_183 (mSI u 17 (-1)) x1 x2 x3 x4 x5 x6 x7 = if mI u 13 ≤ 0 then some (rsM u x1 x2 x3 x4 x5 x6 x7 (mI u 16), mI u 15) else some (rsM u x1 x2 x3 x4 x5 x6 x7 (mI u 14), mI u 13) := by
  have e : ∀ k, ¬ (17 ≤ k ∧ k ≤ 24) → mI (mSI (mSI (mSI (mSI (mSI (mSI (mSI (mSI u 17 (-1)) 18 x1) 19 x2) 20 x3) 21 x4) 22 x5) 23 x6) 24 x7) k = mI u k := fun k hk => by
    simp only [z_mI_mSI, z_mL_mSI, z_mA_mSI, z_mB_mSI, z_mI_mSL, z_mL_mSL, z_mA_mSL, z_mB_mSL, z_mI_mSA, z_mL_mSA, z_mA_mSA, z_mB_mSA, z_mI_mSB, z_mL_mSB, z_mA_mSB, z_mB_mSB]
    rw [if_neg (by omega), if_neg (by omega), if_neg (by omega), if_neg (by omega), if_neg (by omega), if_neg (by omega), if_neg (by omega), if_neg (by omega)]
  unfold fX12_read_183
  simp only [oL_v]
  rw [e 13 (by omega), e 16 (by omega), e 14 (by omega)]
  by_cases c : mI u 13 ≤ 0
  · rw [if_pos c, if_pos c]
    unfold fX12_read_241
    rw [oL_v]
    show (if mI (rsM u x1 x2 x3 x4 x5 x6 x7 (mI u 16)) 13 ≤ 0 then _ else _) = _
    rw [rsM_i _ _ _ _ _ _ _ _ _ 13 (by omega), if_pos c]
    show some (rsM u x1 x2 x3 x4 x5 x6 x7 (mI u 16), mI (rsM u x1 x2 x3 x4 x5 x6 x7 (mI u 16)) 15) = _
    rw [rsM_i _ _ _ _ _ _ _ _ _ 15 (by omega)]
  · rw [if_neg c, if_neg c]
    unfold fX12_read_241
    rw [oL_v]
    show (if mI (rsM u x1 x2 x3 x4 x5 x6 x7 (mI u 14)) 13 ≤ 0 then _ else _) = _
    rw [rsM_i _ _ _ _ _ _ _ _ _ 13 (by omega), if_neg c]
    show some (rsM u x1 x2 x3 x4 x5 x6 x7 (mI u 14), mI (rsM u x1 x2 x3 x4 x5 x6 x7 (mI u 14)) 13) = _
    rw [rsM_i _ _ _ _ _ _ _ _ _ 13 (by omega)]
theorem rsM_z (u : MS) (z : Sz) (p : Int32) : SzM (rsM u (nI z.np) (nI z.nw) (nI z.ns) (nI z.nl) (nI z.nr) (nI z.no) (nI z.rc) p) z := by
  unfold rsM
  refine ⟨?_, ?_, ?_, ?_, ?_, ?_, ?_⟩ <;> simp only [z_mI_mSI, z_mL_mSI, z_mA_mSI, z_mB_mSI, z_mI_mSL, z_mL_mSL, z_mA_mSL, z_mB_mSL, z_mI_mSA, z_mL_mSA, z_mA_mSA, z_mB_mSA, z_mI_mSB, z_mL_mSB, z_mA_mSB, z_mB_mSB, if_true, if_false, and_false, false_and, and_true, true_and, and_self, decide_true, decide_false, reduceCtorEq, not_false_eq_true, not_true_eq_false, Nat.reduceEqDiff, Nat.reduceAdd, Nat.reduceMul, Nat.add_zero, Nat.zero_add]
theorem rsM_p (u : MS) (x1 x2 x3 x4 x5 x6 x7 p : Int32) : mI (rsM u x1 x2 x3 x4 x5 x6 x7 p) 17 = p := by
  unfold rsM
  simp only [z_mI_mSI, z_mL_mSI, z_mA_mSI, z_mB_mSI, z_mI_mSL, z_mL_mSL, z_mA_mSL, z_mB_mSL, z_mI_mSA, z_mL_mSA, z_mA_mSA, z_mB_mSA, z_mI_mSB, z_mL_mSB, z_mA_mSB, z_mB_mSB, if_true, if_false, and_false, false_and, and_true, true_and, and_self, decide_true, decide_false, reduceCtorEq, not_false_eq_true, not_true_eq_false, Nat.reduceEqDiff, Nat.reduceAdd, Nat.reduceMul, Nat.add_zero, Nat.zero_add]
/-- the class's end: what finish gave -/
theorem r67_v (S : SX h G) {h6 : PH} {r p : Int32} (e : fX4_finish h 23 = some (h6, r)) (S6 : SX h6 G) (ep : fX4_placeOfFault h6 23 = some p) : fX11_read_67 h 0 = some (enH h6 p, r, 0, 0) := by
  have S7 : SX (sI h6 1415 0 p) G := S6
  unfold fX11_read_67
  rw [oC_d S.t0, S.r1411_0, oN_v, oC_d S.t23, e, oB2_v, oC_d S6.t0, S6.r1411_0, oN_v, oC_d S6.t23, ep, oB_v, oL_v, S7.r1408_0, oN_v, oC_d S7.t1, oL_v]
  rfl
/-- all overs resolved -/
theorem overs_v (x1 x2 x3 x4 x5 x6 x7 : Int32) : ∀ (d j : Nat) (h : PH) (u : MS) (g f : Nat), j + d = c.no - z.no → OS h u G z c L n D t j → ∃ h' u', fX4_finish_2 (g + (d + 1)) h 23 (nI j) = fX4_finish_33 h' 23 ∧ fX12_read_141 (f + (d + 1)) u x1 x2 x3 x4 x5 x6 x7 (nI (2 * j)) = fX12_read_162 u' x1 x2 x3 x4 x5 x6 x7 ∧ OS h' u' G z c L n D t (c.no - z.no) ∧ hN h' = hN h := by
  intro d
  induction d with
  | zero =>
    intro j h u g f hj X
    have S := X.i.sx
    have no20 := X.ok.2.2.2.2.2
    have ej : j = c.no - z.no := by omega
    subst ej
    refine ⟨h, u, ?_, ?_, X, rfl⟩
    · show fX4_finish_2F (fX4_finish_2 g) h 23 _ = _
      unfold fX4_finish_2F
      rw [oC_d S.t23, X.o1, if_pos (nI_le (Nat.le_refl _) (by omega))]
    · show fX12_read_141F (fX12_read_141 f) u x1 x2 x3 x4 x5 x6 x7 _ = _
      unfold fX12_read_141F
      rw [X.o2, if_pos (nI_le (Nat.le_refl _) (by omega))]
  | succ d ih =>
    intro j h u g f hj X
    have S := X.i.sx
    have no20 := X.ok.2.2.2.2.2
    obtain ⟨h1, u1, k, e30, e1, e2, X1, hn⟩ := X.step (by omega)
    obtain ⟨h', u', f1, f2, f3, f4⟩ := ih (j + 1) h1 u1 g f (by omega) X1
    refine ⟨h', u', ?_, ?_, f3, f4.trans hn⟩
    · show fX4_finish_2F (fX4_finish_2 (g + (d + 1))) h 23 _ = _
      unfold fX4_finish_2F
      rw [oC_d S.t23, X.o1, if_neg (nI_ge (by omega) (by omega)), if_pos X.st, S.r515_23, oN_v, oC_d S.t30, S.n30, oC_t (ix_n (show j < 20 by omega) (by omega)), nI_clamp (show j < 2147483648 by omega), e30, e1, oB_v, oL_v, nI_1, f1]
    · show fX12_read_141F (fX12_read_141 (f + (d + 1))) u x1 x2 x3 x4 x5 x6 x7 _ = _
      have e : nI (2 * j) + 2 = nI (2 * (j + 1)) := nI_add (2 * j) 2
      unfold fX12_read_141F
      rw [X.o2, if_neg (nI_ge (by omega) (by omega)), e2, oB_v, oL_v, e, f2]
theorem finish_d (I : PI h u G z L n D) (X : Ded h u) : fX4_finish h 23 = some (drH h, hI h 524 23) := by
  have S := I.sx
  have s0 : ¬ hI h 524 23 = 0 := fun q => by
    rcases X.st with p | p <;> rw [p] at q <;> exact absurd q (by decide)
  have e33 : fX4_finish_33 h 23 = some (drH h, hI h 524 23) := by
    unfold fX4_finish_33
    rw [oC_d S.t23, if_neg s0]
    unfold fX4_finish_51
    rw [if_neg s0, oC_d S.t23, S.r512_23, oN_v, oC_d S.t5, drop_v S, oB_v]
  obtain ⟨g, hg⟩ : ∃ g, FU = g + 1 := ⟨FU - 1, by rw [FU_v]⟩
  unfold fX4_finish fX4_finish_0
  rw [hg]
  show fX4_finish_2F (fX4_finish_2 g) h 23 0 = _
  unfold fX4_finish_2F
  rw [oC_d S.t23]
  by_cases c : hI h 517 23 ≤ 0
  · rw [if_pos c, e33]
  · rw [if_neg c, if_neg s0, e33]
theorem pof {h6 : PH} (S : SX h6 G) : fX4_placeOfFault h6 23 = some (if hI h6 524 23 = 0 then hI h6 527 23 else hI h6 525 23) := by
  unfold fX4_placeOfFault fX4_placeOfFault_0
  rw [oC_d S.t23]
  split <;> rfl
/-- a reading ended by both -/
theorem end_v (I : PI h u G z L n D) (o : (∃ t' c', Liv h u D n t' ∧ FL h u ∧ LR h u G z c' n D t') ∨ Ded h u) : ∃ hF r uF z', fX11_read_67 h 0 = some (hF, r, 0, 0) ∧ fX12_read_131 u (nI z.np) (nI z.nw) (nI z.ns) (nI z.nl) (nI z.nr) (nI z.no) (nI z.rc) = some (uF, r) ∧ Iv hF uF G z' ∧ hN hF = hN h := by
  have S := I.sx
  have dr23 : ∀ (h : PH) f, hI (drH h) f 23 = hI h f 23 := fun h f => drH_i h f 23 (by omega)
  rcases o with ⟨t', c', V, F, R⟩ | X
  · have X0 := OS.of I V F R
    obtain ⟨g, hg⟩ : ∃ g, FU = g + (c'.no - z.no + 1) := ⟨FU - (c'.no - z.no + 1), by have := R.ok.2.2.2.2.2; rw [FU_v]; omega⟩
    obtain ⟨h1, u1, e1, e2, X1, hn⟩ := overs_v (nI z.np) (nI z.nw) (nI z.ns) (nI z.nl) (nI z.nr) (nI z.no) (nI z.rc) (c'.no - z.no) 0 h u g g (by omega) X0
    have S1 := X1.i.sx
    rw [← hg] at e1 e2
    have e2' : fX12_read_131 u (nI z.np) (nI z.nw) (nI z.ns) (nI z.nl) (nI z.nr) (nI z.no) (nI z.rc) = fX12_read_162 u1 (nI z.np) (nI z.nw) (nI z.ns) (nI z.nl) (nI z.nr) (nI z.no) (nI z.rc) := by
      unfold fX12_read_131
      rw [if_pos V.f0]
      exact e2
    have fe : fX4_finish h 23 = fX4_finish_51 h1 23 (hI h1 526 23) := by
      unfold fX4_finish fX4_finish_0
      have e1' : fX4_finish_2 FU h 23 0 = fX4_finish_33 h1 23 := e1
      rw [e1']
      unfold fX4_finish_33
      rw [oC_d S1.t23, if_pos X1.st]
    have r162 : fX12_read_162 u1 (nI z.np) (nI z.nw) (nI z.ns) (nI z.nl) (nI z.nr) (nI z.no) (nI z.rc) = if mI u1 15 = 0 then some (mSI u1 17 (-1), 0) else fX12_read_183 (mSI u1 17 (-1)) (nI z.np) (nI z.nw) (nI z.ns) (nI z.nl) (nI z.nr) (nI z.no) (nI z.rc) := by
      have a1 : mI (mSI u1 17 (-1)) 13 = 0 := by simp only [z_mI_mSI, z_mL_mSI, z_mA_mSI, z_mB_mSI, z_mI_mSL, z_mL_mSL, z_mA_mSL, z_mB_mSL, z_mI_mSA, z_mL_mSA, z_mA_mSA, z_mB_mSA, z_mI_mSB, z_mL_mSB, z_mA_mSB, z_mB_mSB, if_true, if_false, and_false, false_and, and_true, true_and, and_self, decide_true, decide_false, reduceCtorEq, not_false_eq_true, not_true_eq_false, Nat.reduceEqDiff, Nat.reduceAdd, Nat.reduceMul, Nat.add_zero, Nat.zero_add]; exact X1.f0
      have a2 : mI (mSI u1 17 (-1)) 15 = mI u1 15 := by simp only [z_mI_mSI, z_mL_mSI, z_mA_mSI, z_mB_mSI, z_mI_mSL, z_mL_mSL, z_mA_mSL, z_mB_mSL, z_mI_mSA, z_mL_mSA, z_mA_mSA, z_mB_mSA, z_mI_mSB, z_mL_mSB, z_mA_mSB, z_mB_mSB, if_true, if_false, and_false, false_and, and_true, true_and, and_self, decide_true, decide_false, reduceCtorEq, not_false_eq_true, not_true_eq_false, Nat.reduceEqDiff, Nat.reduceAdd, Nat.reduceMul, Nat.add_zero, Nat.zero_add]
      unfold fX12_read_162
      rw [oL_v, a1, if_pos rfl, a2]
    by_cases nf : mI u1 15 = 0
    · have f0 : hI h1 526 23 = 0 := X1.F.1.trans nf
      have p1 : hI h1 527 23 = -1 := X1.F.2.2 nf
      have fe2 : fX4_finish h 23 = some (kpH h1, 0) := by
        rw [fe, f0]
        unfold fX4_finish_51
        rw [if_pos rfl, oC_d S1.t23, S1.r512_23, oN_v, oC_d S1.t5, keep_v S1, oB_v]
      have S2 : SX (kpH h1) G := S1
      have ep : fX4_placeOfFault (kpH h1) 23 = some (-1) := by
        rw [pof S2, kpH_i h1 524 23 (by omega), kpH_i h1 527 23 (by omega), X1.st, if_pos rfl, p1]
      have er : fX11_read_67 h 0 = some (enH (kpH h1) (-1), 0, 0, 0) := r67_v S fe2 S2 ep
      refine ⟨enH (kpH h1) (-1), 0, mSI u1 17 (-1), c', er, by rw [e2', r162, if_pos nf], end_keep X1 nf ?_ (-1) (fun k hk => by simp only [z_mI_mSI, z_mL_mSI, z_mA_mSI, z_mB_mSI, z_mI_mSL, z_mL_mSL, z_mA_mSL, z_mB_mSL, z_mI_mSA, z_mL_mSA, z_mA_mSA, z_mB_mSA, z_mI_mSB, z_mL_mSB, z_mA_mSB, z_mB_mSB]; rw [if_neg (by omega)]) rfl rfl rfl (by simp only [z_mI_mSI, z_mL_mSI, z_mA_mSI, z_mB_mSI, z_mI_mSL, z_mL_mSL, z_mA_mSL, z_mB_mSL, z_mI_mSA, z_mL_mSA, z_mA_mSA, z_mB_mSA, z_mI_mSB, z_mL_mSB, z_mA_mSB, z_mB_mSB, if_true, if_false, and_false, false_and, and_true, true_and, and_self, decide_true, decide_false, reduceCtorEq, not_false_eq_true, not_true_eq_false, Nat.reduceEqDiff, Nat.reduceAdd, Nat.reduceMul, Nat.add_zero, Nat.zero_add]), hn⟩
      obtain ⟨m1, m2, m3, m4, m5, m6, m7⟩ := X1.zm
      refine ⟨?_, ?_, ?_, ?_, ?_, ?_, ?_⟩ <;> simp only [z_mI_mSI, z_mL_mSI, z_mA_mSI, z_mB_mSI, z_mI_mSL, z_mL_mSL, z_mA_mSL, z_mB_mSL, z_mI_mSA, z_mL_mSA, z_mA_mSA, z_mB_mSA, z_mI_mSB, z_mL_mSB, z_mA_mSB, z_mB_mSB, if_true, if_false, and_false, false_and, and_true, true_and, and_self, decide_true, decide_false, reduceCtorEq, not_false_eq_true, not_true_eq_false, Nat.reduceEqDiff, Nat.reduceAdd, Nat.reduceMul, Nat.add_zero, Nat.zero_add] <;> assumption
    · have f0 : ¬ hI h1 526 23 = 0 := by rw [X1.F.1]; exact nf
      obtain ⟨p, p1, p2, p3⟩ := X1.F.2.1 nf
      have fe2 : fX4_finish h 23 = some (drH h1, mI u1 15) := by
        rw [fe]
        unfold fX4_finish_51
        rw [if_neg f0, oC_d S1.t23, S1.r512_23, oN_v, oC_d S1.t5, drop_v S1, oB_v, X1.F.1]
      have S2 : SX (drH h1) G := S1
      have ep : fX4_placeOfFault (drH h1) 23 = some (nI p) := by
        rw [pof S2, dr23, dr23, X1.st, if_pos rfl, p2]
      have er : fX11_read_67 h 0 = some (enH (drH h1) (nI p), mI u1 15, 0, 0) := r67_v S fe2 S2 ep
      refine ⟨enH (drH h1) (nI p), mI u1 15, rsM u1 (nI z.np) (nI z.nw) (nI z.ns) (nI z.nl) (nI z.nr) (nI z.no) (nI z.rc) (mI u1 16), z, er, ?_, end_drop X1.i (rsM_z _ _ _) (nI p) (fun k hk => rsM_i _ _ _ _ _ _ _ _ _ k hk) rfl rfl rfl ?_, hn⟩
      · rw [e2', r162, if_neg nf, r183_v, X1.f0, if_pos (by decide)]
      · rw [rsM_p, p3]
  · have S2 : SX (drH h) G := S
    have s0 : ¬ hI h 524 23 = 0 := fun q => by
      rcases X.st with p | p <;> rw [p] at q <;> exact absurd q (by decide)
    have ep : fX4_placeOfFault (drH h) 23 = some (hI h 525 23) := by
      rw [pof S2, dr23, dr23, dr23, if_neg s0]
    have er : fX11_read_67 h 0 = some (enH (drH h) (hI h 525 23), hI h 524 23, 0, 0) := r67_v S (finish_d I X) S2 ep
    have a1 : ¬ mI (mSI u 17 (-1)) 13 = 0 := by simp only [z_mI_mSI, z_mL_mSI, z_mA_mSI, z_mB_mSI, z_mI_mSL, z_mL_mSL, z_mA_mSL, z_mB_mSL, z_mI_mSA, z_mL_mSA, z_mA_mSA, z_mB_mSA, z_mI_mSB, z_mL_mSB, z_mA_mSB, z_mB_mSB, if_true, if_false, and_false, false_and, and_true, true_and, and_self, decide_true, decide_false, reduceCtorEq, not_false_eq_true, not_true_eq_false, Nat.reduceEqDiff, Nat.reduceAdd, Nat.reduceMul, Nat.add_zero, Nat.zero_add]; exact X.f.1
    refine ⟨enH (drH h) (hI h 525 23), hI h 524 23, rsM u (nI z.np) (nI z.nw) (nI z.ns) (nI z.nl) (nI z.nr) (nI z.no) (nI z.rc) (mI u 14), z, er, ?_, end_drop I (rsM_z _ _ _) (hI h 525 23) (fun k hk => rsM_i _ _ _ _ _ _ _ _ _ k hk) rfl rfl rfl ?_, rfl⟩
    · unfold fX12_read_131
      rw [if_neg X.f.1]
      unfold fX12_read_162
      rw [oL_v, if_neg a1, r183_v, if_neg X.f.2.1, X.fa]
    · rw [rsM_p, X.pl]
end RD3
theorem le1301 : 1301 ≤ 1301 + 0 := Nat.le_refl _
theorem le2000 : 2000 ≤ FU + 0 := by rw [FU_v]; omega
theorem sp_read : SP_read Inv := by
  intro n c s h u ⟨G, z, I, b1, b2⟩
  have S := I.sx
  have ed : hI h 1414 0 = mI u 72 := by
    obtain ⟨d, _, d2, d3⟩ := I.dy
    rw [d2, d3]
  obtain ⟨h1, G1, i, j, u1, L, nn, D, e1, hi, hj, e2, I1, V1, F1, R1, _, g9, pt⟩ := begin_v I (hI h 1414 0) ed
  obtain ⟨m1, m2, m3, m4, m5, m6, m7⟩ := I.zm
  rw [m1, m2, m3, m4, m5, m6, m7] at e2
  have q1 := le1301
  have q2 := le2000
  have q3 : 0 ≤ 0 := Nat.le_refl _
  obtain ⟨h2, G2, ci, cj, u2, f1, f2, C, I2, o⟩ := (main_v (z := z) (L := L) (n := nn) (D := D) (x1 := nI z.np) (x2 := nI z.nw) (x3 := nI z.ns) (x4 := nI z.nl) (x5 := nI z.nr) (x6 := nI z.no) (x7 := nI z.rc) 1301).1 h1 u1 G1 z 0 0 FU FU q1 I1 V1 F1 R1 g9 q3 q2 q2
  obtain ⟨hF, r, uF, z', k1, k2, k3, k4⟩ := end_v I2 o
  have f1' : fX11_read_17 FU h1 0 0 = oK4 ci cj (fX11_read_67 h2 0) := f1
  refine ⟨hF, r, i + (ci + 0), j + (cj + 0), uF, ?_, by rw [e2, f2, k2], G2, z', k3, ?_⟩
  · unfold fX11_read fX11_read_0
    rw [oC_d S.t0, S.r1411_0, oN_v, oC_d S.t23, S.r1408_0, e1, oB3_v, f1', k1, oK4_v, oK4_v]
  · have pF := pot_n G2 k4
    have c1 := C.c1
    have c2 := C.c2
    rw [pt] at c1 c2
    unfold Bud
    rw [pF]
    exact ⟨by omega, by omega⟩
