/-! steps of the grammar's own object -/
theorem kO_o {h : PH} {G : Gh} {z : Sz} {a : Nat} (S : SX h G) (nr : z.nr ≤ G.nr) (k : kO G z a) : G.ow a / 100000 = 3 ∧ a < hZ h := by
  obtain ⟨r, hr, q⟩ := k
  have r30 := S.nr30
  rcases q with q | q | ⟨i, hi, q⟩
  · rw [q, S.rlo r (by omega)]; exact ⟨by omega, lt_T S.fr (S.rlT r (by omega)) (by omega)⟩
  · rw [q, S.hdo r (by omega)]; exact ⟨by omega, lt_T S.fr (S.hdT r (by omega)) (by omega)⟩
  · have := S.nc6 r (by omega)
    rw [q, S.cdo r (by omega) i hi]; exact ⟨by omega, lt_T S.fr (S.cdT r (by omega) i hi) (by omega)⟩
theorem CD.s23 {h : PH} {G : Gh} {z : Sz} (S : SX h G) (nr : z.nr ≤ G.nr) (f : Nat) (v : Int32) (h8 : f ≠ 518 := by decide) : CD h (sI h f 23 v) G G z := by
  have o : ∀ a, G.ow a / 100000 ≠ 7 → a ≠ 23 := fun a ha q => ha (by rw [q, S.o23])
  refine CD.mk S (GD.refl G _) (Nat.le_refl _) (fun _ _ => rfl) ((Ag.refl h).sI (fun q => q.2.2.1 (by rw [S.o23]))) (fun _ => ⟨rfl, rfl, rfl⟩) (by simp only [z_hI_sI, z_hL_sI, z_hR_sI, z_hA_sI, z_hB_sI, z_hC_sI, z_hT_sI, z_hN_sI, z_hZ_sI, z_hI_sL, z_hL_sL, z_hR_sL, z_hA_sL, z_hB_sL, z_hC_sL, z_hT_sL, z_hN_sL, z_hZ_sL, z_hI_sR, z_hL_sR, z_hR_sR, z_hA_sR, z_hB_sR, z_hC_sR, z_hT_sR, z_hN_sR, z_hZ_sR, z_hI_sA, z_hL_sA, z_hR_sA, z_hA_sA, z_hB_sA, z_hC_sA, z_hT_sA, z_hN_sA, z_hZ_sA, z_hI_sB, z_hL_sB, z_hR_sB, z_hA_sB, z_hB_sB, z_hC_sB, z_hT_sB, z_hN_sB, z_hZ_sB, z_hI_sC, z_hL_sC, z_hR_sC, z_hA_sC, z_hB_sC, z_hC_sC, z_hT_sC, z_hN_sC, z_hZ_sC, z_hI_sY, z_hL_sY, z_hR_sY, z_hA_sY, z_hB_sY, z_hC_sY, z_hT_sY, z_hN_sY, z_hZ_sY, z_hI_nO, z_hL_nO, z_hR_nO, z_hA_nO, z_hB_nO, z_hC_nO, z_hT_nO, z_hN_nO, z_hZ_nO, z_hI_nA, z_hL_nA, z_hR_nA, z_hA_nA, z_hB_nA, z_hC_nA, z_hT_nA, z_hN_nA, z_hZ_nA, if_true, if_false, and_false, false_and, and_true, true_and, and_self, decide_true, decide_false, reduceCtorEq, not_false_eq_true, not_true_eq_false, Nat.reduceEqDiff, Nat.reduceAdd, Nat.reduceMul, Nat.add_zero, Nat.zero_add]) (fun _ _ _ => ⟨rfl, rfl⟩) (fun a ha f' => ?_) (fun _ _ => rfl) (Nat.le_refl _) ⟨by simp only [z_hI_sI, z_hL_sI, z_hR_sI, z_hA_sI, z_hB_sI, z_hC_sI, z_hT_sI, z_hN_sI, z_hZ_sI, z_hI_sL, z_hL_sL, z_hR_sL, z_hA_sL, z_hB_sL, z_hC_sL, z_hT_sL, z_hN_sL, z_hZ_sL, z_hI_sR, z_hL_sR, z_hR_sR, z_hA_sR, z_hB_sR, z_hC_sR, z_hT_sR, z_hN_sR, z_hZ_sR, z_hI_sA, z_hL_sA, z_hR_sA, z_hA_sA, z_hB_sA, z_hC_sA, z_hT_sA, z_hN_sA, z_hZ_sA, z_hI_sB, z_hL_sB, z_hR_sB, z_hA_sB, z_hB_sB, z_hC_sB, z_hT_sB, z_hN_sB, z_hZ_sB, z_hI_sC, z_hL_sC, z_hR_sC, z_hA_sC, z_hB_sC, z_hC_sC, z_hT_sC, z_hN_sC, z_hZ_sC, z_hI_sY, z_hL_sY, z_hR_sY, z_hA_sY, z_hB_sY, z_hC_sY, z_hT_sY, z_hN_sY, z_hZ_sY, z_hI_nO, z_hL_nO, z_hR_nO, z_hA_nO, z_hB_nO, z_hC_nO, z_hT_nO, z_hN_nO, z_hZ_nO, z_hI_nA, z_hL_nA, z_hR_nA, z_hA_nA, z_hB_nA, z_hC_nA, z_hT_nA, z_hN_nA, z_hZ_nA]; rw [if_neg (fun q => h8 q.1.symm)], by simp only [z_hI_sI, z_hL_sI, z_hR_sI, z_hA_sI, z_hB_sI, z_hC_sI, z_hT_sI, z_hN_sI, z_hZ_sI, z_hI_sL, z_hL_sL, z_hR_sL, z_hA_sL, z_hB_sL, z_hC_sL, z_hT_sL, z_hN_sL, z_hZ_sL, z_hI_sR, z_hL_sR, z_hR_sR, z_hA_sR, z_hB_sR, z_hC_sR, z_hT_sR, z_hN_sR, z_hZ_sR, z_hI_sA, z_hL_sA, z_hR_sA, z_hA_sA, z_hB_sA, z_hC_sA, z_hT_sA, z_hN_sA, z_hZ_sA, z_hI_sB, z_hL_sB, z_hR_sB, z_hA_sB, z_hB_sB, z_hC_sB, z_hT_sB, z_hN_sB, z_hZ_sB, z_hI_sC, z_hL_sC, z_hR_sC, z_hA_sC, z_hB_sC, z_hC_sC, z_hT_sC, z_hN_sC, z_hZ_sC, z_hI_sY, z_hL_sY, z_hR_sY, z_hA_sY, z_hB_sY, z_hC_sY, z_hT_sY, z_hN_sY, z_hZ_sY, z_hI_nO, z_hL_nO, z_hR_nO, z_hA_nO, z_hB_nO, z_hC_nO, z_hT_nO, z_hN_nO, z_hZ_nO, z_hI_nA, z_hL_nA, z_hR_nA, z_hA_nA, z_hB_nA, z_hC_nA, z_hT_nA, z_hN_nA, z_hZ_nA, if_true, if_false, and_false, false_and, and_true, true_and, and_self, decide_true, decide_false, reduceCtorEq, not_false_eq_true, not_true_eq_false, Nat.reduceEqDiff, Nat.reduceAdd, Nat.reduceMul, Nat.add_zero, Nat.zero_add]⟩
  have := (kO_o S nr ha).1
  simp only [z_hI_sI, z_hL_sI, z_hR_sI, z_hA_sI, z_hB_sI, z_hC_sI, z_hT_sI, z_hN_sI, z_hZ_sI, z_hI_sL, z_hL_sL, z_hR_sL, z_hA_sL, z_hB_sL, z_hC_sL, z_hT_sL, z_hN_sL, z_hZ_sL, z_hI_sR, z_hL_sR, z_hR_sR, z_hA_sR, z_hB_sR, z_hC_sR, z_hT_sR, z_hN_sR, z_hZ_sR, z_hI_sA, z_hL_sA, z_hR_sA, z_hA_sA, z_hB_sA, z_hC_sA, z_hT_sA, z_hN_sA, z_hZ_sA, z_hI_sB, z_hL_sB, z_hR_sB, z_hA_sB, z_hB_sB, z_hC_sB, z_hT_sB, z_hN_sB, z_hZ_sB, z_hI_sC, z_hL_sC, z_hR_sC, z_hA_sC, z_hB_sC, z_hC_sC, z_hT_sC, z_hN_sC, z_hZ_sC, z_hI_sY, z_hL_sY, z_hR_sY, z_hA_sY, z_hB_sY, z_hC_sY, z_hT_sY, z_hN_sY, z_hZ_sY, z_hI_nO, z_hL_nO, z_hR_nO, z_hA_nO, z_hB_nO, z_hC_nO, z_hT_nO, z_hN_nO, z_hZ_nO, z_hI_nA, z_hL_nA, z_hR_nA, z_hA_nA, z_hB_nA, z_hC_nA, z_hT_nA, z_hN_nA, z_hZ_nA]
  rw [if_neg (fun q => o a (by omega) q.2)]
theorem CD.l23 {h : PH} {G : Gh} {z : Sz} (S : SX h G) (f : Nat) (v : Int64) : CD h (sL h f 23 v) G G z :=
  CD.mk S (GD.refl G _) (Nat.le_refl _) (fun _ _ => rfl) ((Ag.refl h).sL (fun q => q.2.2.1 (by rw [S.o23]))) (fun _ => ⟨rfl, rfl, rfl⟩) rfl (fun _ _ _ => ⟨rfl, rfl⟩) (fun _ _ _ => rfl) (fun _ _ => rfl) (Nat.le_refl _) ⟨rfl, rfl, rfl, rfl, rfl, rfl, rfl, rfl⟩
theorem CD.lk {h : PH} {G : Gh} {z : Sz} (S : SX h G) (nr : z.nr ≤ G.nr) (k p : Int32) (v : Int64) (t : Nat) : CD h (lkH h k p v t) G G z :=
  CD.trans nr (CD.trans nr (CD.trans nr (CD.s23 S nr 520 (nI t)) (CD.s23 (h := sI h 520 23 (nI t)) S nr 521 k)) (CD.s23 (h := sI (sI h 520 23 (nI t)) 521 23 k) S nr 522 p)) (CD.l23 (h := sI (sI (sI h 520 23 (nI t)) 521 23 k) 522 23 p) S 523 v)
def stH (h : PH) (f : Int32) : PH := sI (sI (sI h 524 23 f) 525 23 (hI h 522 23)) 521 23 264
theorem CD.st {h : PH} {G : Gh} {z : Sz} (S : SX h G) (nr : z.nr ≤ G.nr) (f : Int32) : CD h (stH h f) G G z :=
  CD.trans nr (CD.trans nr (CD.s23 S nr 524 f) (CD.s23 (h := sI h 524 23 f) S nr 525 (hI h 522 23))) (CD.s23 (h := sI (sI h 524 23 f) 525 23 (hI h 522 23)) S nr 521 264)
def vD (d : Nat × Nat × Nat × List Nat) : Int64 := if d.2.1 = 1 ∨ 20 ≤ d.2.1 then nL (pk 64 d.2.2.2) else nL d.2.2.1
def adH (h : PH) (D : Nat → Nat × Nat × Nat × List Nat) (t : Nat) : PH := lkH h (cK (D t).2.1) (nI (D t).1) (vD (D t)) t
/-- both stand at token t, and nothing has stopped them -/
def Liv (h : PH) (u : MS) (D : Nat → Nat × Nat × Nat × List Nat) (n : Nat) (t : Nat) : Prop := (t < n) ∧ (hI h 520 23 = nI t) ∧ (hI h 521 23 = cK (D t).2.1) ∧ (hI h 522 23 = nI (D t).1) ∧ (hL h 523 23 = vD (D t)) ∧ (hI h 524 23 = 0) ∧ (mI u 13 = 0) ∧ (mI u 11 = nI t)
theorem Liv.lt {h : PH} {u : MS} {D : Nat → Nat × Nat × Nat × List Nat} {n : Nat} {t : Nat} (X_ : Liv h u D n t) : t < n := X_.1
theorem Liv.at_ {h : PH} {u : MS} {D : Nat → Nat × Nat × Nat × List Nat} {n : Nat} {t : Nat} (X_ : Liv h u D n t) : hI h 520 23 = nI t := X_.2.1
theorem Liv.kd {h : PH} {u : MS} {D : Nat → Nat × Nat × Nat × List Nat} {n : Nat} {t : Nat} (X_ : Liv h u D n t) : hI h 521 23 = cK (D t).2.1 := X_.2.2.1
theorem Liv.pl {h : PH} {u : MS} {D : Nat → Nat × Nat × Nat × List Nat} {n : Nat} {t : Nat} (X_ : Liv h u D n t) : hI h 522 23 = nI (D t).1 := X_.2.2.2.1
theorem Liv.vl {h : PH} {u : MS} {D : Nat → Nat × Nat × Nat × List Nat} {n : Nat} {t : Nat} (X_ : Liv h u D n t) : hL h 523 23 = vD (D t) := X_.2.2.2.2.1
theorem Liv.st {h : PH} {u : MS} {D : Nat → Nat × Nat × Nat × List Nat} {n : Nat} {t : Nat} (X_ : Liv h u D n t) : hI h 524 23 = 0 := X_.2.2.2.2.2.1
theorem Liv.f0 {h : PH} {u : MS} {D : Nat → Nat × Nat × Nat × List Nat} {n : Nat} {t : Nat} (X_ : Liv h u D n t) : mI u 13 = 0 := X_.2.2.2.2.2.2.1
theorem Liv.t0 {h : PH} {u : MS} {D : Nat → Nat × Nat × Nat × List Nat} {n : Nat} {t : Nat} (X_ : Liv h u D n t) : mI u 11 = nI t := X_.2.2.2.2.2.2.2
theorem Liv.mk {h : PH} {u : MS} {D : Nat → Nat × Nat × Nat × List Nat} {n : Nat} {t : Nat} (lt_ : t < n) (at__ : hI h 520 23 = nI t) (kd_ : hI h 521 23 = cK (D t).2.1) (pl_ : hI h 522 23 = nI (D t).1) (vl_ : hL h 523 23 = vD (D t)) (st_ : hI h 524 23 = 0) (f0_ : mI u 13 = 0) (t0_ : mI u 11 = nI t) : Liv h u D n t := ⟨lt_, at__, kd_, pl_, vl_, st_, f0_, t0_⟩
/-- both have stopped, with the same fault -/
def Ded (h : PH) (u : MS) : Prop := (hI h 524 23 = 1 ∨ hI h 524 23 = 2) ∧ (mI u 13 = hI h 524 23) ∧ (hI h 525 23 = mI u 14) ∧ (hI h 521 23 = 264) ∧ (∃ t, t ≤ 1200 ∧ mI u 11 = nI t)
theorem Ded.st {h : PH} {u : MS} (X_ : Ded h u) : hI h 524 23 = 1 ∨ hI h 524 23 = 2 := X_.1
theorem Ded.fa {h : PH} {u : MS} (X_ : Ded h u) : mI u 13 = hI h 524 23 := X_.2.1
theorem Ded.pl {h : PH} {u : MS} (X_ : Ded h u) : hI h 525 23 = mI u 14 := X_.2.2.1
theorem Ded.kd {h : PH} {u : MS} (X_ : Ded h u) : hI h 521 23 = 264 := X_.2.2.2.1
theorem Ded.tt {h : PH} {u : MS} (X_ : Ded h u) : ∃ t, t ≤ 1200 ∧ mI u 11 = nI t := X_.2.2.2.2
theorem Ded.mk {h : PH} {u : MS} (st_ : hI h 524 23 = 1 ∨ hI h 524 23 = 2) (fa_ : mI u 13 = hI h 524 23) (pl_ : hI h 525 23 = mI u 14) (kd_ : hI h 521 23 = 264) (tt_ : ∃ t, t ≤ 1200 ∧ mI u 11 = nI t) : Ded h u := ⟨st_, fa_, pl_, kd_, tt_⟩
theorem TS.adv {h : PH} {u : MS} {G : Gh} {L n t : Nat} {D : Nat → Nat × Nat × Nat × List Nat} (T : TS h u G L n D) (ht : t < n) (h0 : (D t).2.1 ≠ 0) (h4 : (D t).2.1 ≠ 4) (h12 : t < 1200) : t + 1 < n := by
  rcases T.en with e | e | e
  · by_cases c : t = n - 1
    · rw [← c] at e; exact absurd e h0
    · omega
  · by_cases c : t = n - 1
    · rw [← c] at e; exact absurd e h4
    · omega
  · omega
theorem Liv.ad {h : PH} {u : MS} {D : Nat → Nat × Nat × Nat × List Nat} {n t : Nat} (V : Liv h u D n t) (h1 : t + 1 < n) : Liv (adH h D (t + 1)) (mSI u 11 (nI (t + 1))) D n (t + 1) := by
  unfold adH lkH
  refine ⟨h1, ?_, ?_, ?_, ?_, ?_, ?_, ?_⟩ <;> simp only [z_hI_sI, z_hL_sI, z_hR_sI, z_hA_sI, z_hB_sI, z_hC_sI, z_hT_sI, z_hN_sI, z_hZ_sI, z_hI_sL, z_hL_sL, z_hR_sL, z_hA_sL, z_hB_sL, z_hC_sL, z_hT_sL, z_hN_sL, z_hZ_sL, z_hI_sR, z_hL_sR, z_hR_sR, z_hA_sR, z_hB_sR, z_hC_sR, z_hT_sR, z_hN_sR, z_hZ_sR, z_hI_sA, z_hL_sA, z_hR_sA, z_hA_sA, z_hB_sA, z_hC_sA, z_hT_sA, z_hN_sA, z_hZ_sA, z_hI_sB, z_hL_sB, z_hR_sB, z_hA_sB, z_hB_sB, z_hC_sB, z_hT_sB, z_hN_sB, z_hZ_sB, z_hI_sC, z_hL_sC, z_hR_sC, z_hA_sC, z_hB_sC, z_hC_sC, z_hT_sC, z_hN_sC, z_hZ_sC, z_hI_sY, z_hL_sY, z_hR_sY, z_hA_sY, z_hB_sY, z_hC_sY, z_hT_sY, z_hN_sY, z_hZ_sY, z_hI_nO, z_hL_nO, z_hR_nO, z_hA_nO, z_hB_nO, z_hC_nO, z_hT_nO, z_hN_nO, z_hZ_nO, z_hI_nA, z_hL_nA, z_hR_nA, z_hA_nA, z_hB_nA, z_hC_nA, z_hT_nA, z_hN_nA, z_hZ_nA, z_mI_mSI, z_mL_mSI, z_mA_mSI, z_mB_mSI, z_mI_mSL, z_mL_mSL, z_mA_mSL, z_mB_mSL, z_mI_mSA, z_mL_mSA, z_mA_mSA, z_mB_mSA, z_mI_mSB, z_mL_mSB, z_mA_mSB, z_mB_mSB, if_true, if_false, and_false, false_and, and_true, true_and, and_self, decide_true, decide_false, reduceCtorEq, not_false_eq_true, not_true_eq_false, Nat.reduceEqDiff, Nat.reduceAdd, Nat.reduceMul, Nat.add_zero, Nat.zero_add]
  · exact V.st
  · exact V.f0
theorem Ded.of {h : PH} {u : MS} {D : Nat → Nat × Nat × Nat × List Nat} {n t : Nat} (V : Liv h u D n t) (h12 : t ≤ 1200) {f : Int32} (hf : f = 1 ∨ f = 2) : Ded (stH h f) (mSI (mSI u 13 f) 14 (nI (D t).1)) := by
  unfold stH
  refine ⟨?_, ?_, ?_, ?_, t, h12, ?_⟩ <;> simp only [z_hI_sI, z_hL_sI, z_hR_sI, z_hA_sI, z_hB_sI, z_hC_sI, z_hT_sI, z_hN_sI, z_hZ_sI, z_hI_sL, z_hL_sL, z_hR_sL, z_hA_sL, z_hB_sL, z_hC_sL, z_hT_sL, z_hN_sL, z_hZ_sL, z_hI_sR, z_hL_sR, z_hR_sR, z_hA_sR, z_hB_sR, z_hC_sR, z_hT_sR, z_hN_sR, z_hZ_sR, z_hI_sA, z_hL_sA, z_hR_sA, z_hA_sA, z_hB_sA, z_hC_sA, z_hT_sA, z_hN_sA, z_hZ_sA, z_hI_sB, z_hL_sB, z_hR_sB, z_hA_sB, z_hB_sB, z_hC_sB, z_hT_sB, z_hN_sB, z_hZ_sB, z_hI_sC, z_hL_sC, z_hR_sC, z_hA_sC, z_hB_sC, z_hC_sC, z_hT_sC, z_hN_sC, z_hZ_sC, z_hI_sY, z_hL_sY, z_hR_sY, z_hA_sY, z_hB_sY, z_hC_sY, z_hT_sY, z_hN_sY, z_hZ_sY, z_hI_nO, z_hL_nO, z_hR_nO, z_hA_nO, z_hB_nO, z_hC_nO, z_hT_nO, z_hN_nO, z_hZ_nO, z_hI_nA, z_hL_nA, z_hR_nA, z_hA_nA, z_hB_nA, z_hC_nA, z_hT_nA, z_hN_nA, z_hZ_nA, z_mI_mSI, z_mL_mSI, z_mA_mSI, z_mB_mSI, z_mI_mSL, z_mL_mSL, z_mA_mSL, z_mB_mSL, z_mI_mSA, z_mL_mSA, z_mA_mSA, z_mB_mSA, z_mI_mSB, z_mL_mSB, z_mA_mSB, z_mB_mSB, if_true, if_false, and_false, false_and, and_true, true_and, and_self, decide_true, decide_false, reduceCtorEq, not_false_eq_true, not_true_eq_false, Nat.reduceEqDiff, Nat.reduceAdd, Nat.reduceMul, Nat.add_zero, Nat.zero_add]
  · exact hf
  · exact V.pl
  · exact V.t0
section EX
variable {h : PH} {u : MS} {G : Gh} {z : Sz} {L n t : Nat} {D : Nat → Nat × Nat × Nat × List Nat}
theorem is_v (I : PI h u G z L n D) (V : Liv h u D n t) {k : Nat} (hk : k < 38) : fX12_is u (nI k) = some (if (D t).2.1 = k then 1 else 0) := by
  have n2 := I.ts.n2
  have lt := V.lt
  obtain ⟨_, _, _, t4, _, _, _, t8, _⟩ := I.ts.tk t lt
  unfold fX12_is fX12_is_0
  rw [if_pos V.f0, V.t0, oC_t (ix_n (show t < mlen 5 by show t < 1203; omega) (by decide)), nI_clamp (show t < 2147483648 by omega), t4]
  have e : nI (D t).2.1 = nI k ↔ (D t).2.1 = k := nI_eq (by omega) (by omega)
  by_cases c : (D t).2.1 = k
  · rw [if_pos (e.mpr c), if_pos c]
  · rw [if_neg (fun q => c (e.mp q)), if_neg c]
theorem fail_v (I : PI h u G z L n D) (V : Liv h u D n t) (f : Int32) : fX12_fail u f = some (mSI (mSI u 13 f) 14 (nI (D t).1)) := by
  have n2 := I.ts.n2
  have lt := V.lt
  obtain ⟨_, _, _, _, t5, _⟩ := I.ts.tk t lt
  unfold fX12_fail fX12_fail_0
  rw [V.f0, if_pos (by decide), oL_v]
  have e : mI (mSI u 13 f) 11 = nI t := by simp only [z_mI_mSI, z_mL_mSI, z_mA_mSI, z_mB_mSI, z_mI_mSL, z_mL_mSL, z_mA_mSL, z_mB_mSL, z_mI_mSA, z_mL_mSA, z_mA_mSA, z_mB_mSA, z_mI_mSB, z_mL_mSB, z_mA_mSB, z_mB_mSB, if_true, if_false, and_false, false_and, and_true, true_and, and_self, decide_true, decide_false, reduceCtorEq, not_false_eq_true, not_true_eq_false, Nat.reduceEqDiff, Nat.reduceAdd, Nat.reduceMul, Nat.add_zero, Nat.zero_add]; exact V.t0
  have e2 : mA (mSI u 13 f) 6 t = nI (D t).1 := t5
  rw [e, oC_t (ix_n (show t < mlen 6 by show t < 1203; omega) (by decide)), nI_clamp (show t < 2147483648 by omega), e2, oL_v]
theorem stopAt_v (I : PI h u G z L n D) (V : Liv h u D n t) (f : Int32) : fX4_stopAt h 23 f = some (stH h f) := by
  have S := I.sx
  unfold stH
  simp only [fX4_stopAt, fX4_stopAt_0, S.t0, S.t1, S.t3, S.t5, S.t6, S.t8, S.t10, S.t12, S.t14, S.t23, S.t24, S.t7, S.t9, S.t11, S.t13, S.t15, S.t16, S.t17, S.t18, S.t19, S.t20, S.t21, S.t25, S.t29, S.t30, S.t31, S.n7, S.n9, S.n11, S.n13, S.n15, S.n16, S.n17, S.n18, S.n19, S.n20, S.n21, S.n25, S.n29, S.n30, S.n31, S.r1408_0, S.r1409_0, S.r1410_0, S.r1411_0, S.r1412_0, S.r128_5, S.r129_5, S.r130_5, S.r131_5, S.r132_5, S.r133_5, S.r134_5, S.r135_5, S.r136_5, S.r137_5, S.r138_5, S.r512_23, S.r513_23, S.r514_23, S.r515_23, S.r896_6, S.r896_8, S.r896_10, S.r896_12, S.r896_14, S.r1280_24, S.r0_1, S.ttk, S.otk, S.r0_3, S.twk, S.owk, S.r141_5, S.tpg, S.opg, S.r1281_24, S.tkd, S.okd, S.r1282_24, S.tst, S.ost, S.r1283_24, S.tvl, S.ovl, S.o0, S.o1, S.o3, S.o31, S.o5, S.o6, S.o7, S.o8, S.o9, S.o10, S.o11, S.o12, S.o13, S.o14, S.o15, S.o16, S.o17, S.o18, S.o19, S.o20, S.o21, S.o23, S.o24, S.o25, S.o29, S.o30, oN_v, oC_v, oB_v, oB2_v, oB3_v, oB4_v, oK3_v, oK4_v, oL_v, if_true, if_false, and_false, false_and, and_true, true_and, and_self, decide_true, decide_false, reduceCtorEq, not_false_eq_true, not_true_eq_false, Nat.reduceEqDiff, Nat.reduceAdd, Nat.reduceMul, Nat.add_zero, Nat.zero_add, V.st, z_hI_sI, z_hL_sI, z_hR_sI, z_hA_sI, z_hB_sI, z_hC_sI, z_hT_sI, z_hN_sI, z_hZ_sI, z_hI_sL, z_hL_sL, z_hR_sL, z_hA_sL, z_hB_sL, z_hC_sL, z_hT_sL, z_hN_sL, z_hZ_sL, z_hI_sR, z_hL_sR, z_hR_sR, z_hA_sR, z_hB_sR, z_hC_sR, z_hT_sR, z_hN_sR, z_hZ_sR, z_hI_sA, z_hL_sA, z_hR_sA, z_hA_sA, z_hB_sA, z_hC_sA, z_hT_sA, z_hN_sA, z_hZ_sA, z_hI_sB, z_hL_sB, z_hR_sB, z_hA_sB, z_hB_sB, z_hC_sB, z_hT_sB, z_hN_sB, z_hZ_sB, z_hI_sC, z_hL_sC, z_hR_sC, z_hA_sC, z_hB_sC, z_hC_sC, z_hT_sC, z_hN_sC, z_hZ_sC, z_hI_sY, z_hL_sY, z_hR_sY, z_hA_sY, z_hB_sY, z_hC_sY, z_hT_sY, z_hN_sY, z_hZ_sY, z_hI_nO, z_hL_nO, z_hR_nO, z_hA_nO, z_hB_nO, z_hC_nO, z_hT_nO, z_hN_nO, z_hZ_nO, z_hI_nA, z_hL_nA, z_hR_nA, z_hA_nA, z_hB_nA, z_hC_nA, z_hT_nA, z_hN_nA, z_hZ_nA]
theorem next_m (I : PI h u G z L n D) (V : Liv h u D n t) : fX12_next u = some (if t < 1200 then mSI u 11 (nI (t + 1)) else mSI (mSI u 13 2) 14 (nI (D t).1)) := by
  have n2 := I.ts.n2
  have lt := V.lt
  unfold fX12_next fX12_next_0
  rw [V.t0, fail_v I V, oB_v, oL_v, nI_1]
  have e : nI t = 1200 ↔ t = 1200 := nI_eq (b := 1200) (by omega) (by omega)
  by_cases c : t < 1200
  · rw [if_neg (fun q => by have := e.mp q; omega), if_pos c]
  · rw [if_pos (e.mpr (by omega)), if_neg c]
theorem look_v (I : PI h u G z L n D) {t : Nat} (ht : t < n) : fX4_lookAt h 23 (nI t) = some (adH h D t) := lookAt_v I.sx I.rm I.ts I.nk ht
/-- a token that is wanted -/
theorem expect_v (I : PI h u G z L n D) (V : Liv h u D n t) {k : Nat} (hk : k < 38) (k0 : k ≠ 0) (k4 : k ≠ 4) : ((D t).2.1 = k ∧ t < 1200 ∧ fX4_expect h 23 (cK k) = some (adH h D (t + 1), 1) ∧ fX12_must u (nI k) = some (mSI u 11 (nI (t + 1))) ∧ Liv (adH h D (t + 1)) (mSI u 11 (nI (t + 1))) D n (t + 1)) ∨ ∃ f : Int32, (f = 1 ∨ f = 2) ∧ fX4_expect h 23 (cK k) = some (stH h f, 0) ∧ fX12_must u (nI k) = some (mSI (mSI u 13 f) 14 (nI (D t).1)) ∧ Ded (stH h f) (mSI (mSI u 13 f) 14 (nI (D t).1)) := by
  have S := I.sx
  have n2 := I.ts.n2
  have lt := V.lt
  have tb := (I.ts.tk t lt).2.2.2.2.2.2.2.1
  have e : cK (D t).2.1 = cK k ↔ (D t).2.1 = k := cK_inj tb hk
  by_cases c : (D t).2.1 = k
  · by_cases c2 : t < 1200
    · have ad := I.ts.adv lt (by omega) (by omega) c2
      refine .inl ⟨c, c2, ?_, ?_, V.ad ad⟩
      · simp only [fX4_expect, fX4_expect_0, S.t0, S.t1, S.t3, S.t5, S.t6, S.t8, S.t10, S.t12, S.t14, S.t23, S.t24, S.t7, S.t9, S.t11, S.t13, S.t15, S.t16, S.t17, S.t18, S.t19, S.t20, S.t21, S.t25, S.t29, S.t30, S.t31, S.n7, S.n9, S.n11, S.n13, S.n15, S.n16, S.n17, S.n18, S.n19, S.n20, S.n21, S.n25, S.n29, S.n30, S.n31, S.r1408_0, S.r1409_0, S.r1410_0, S.r1411_0, S.r1412_0, S.r128_5, S.r129_5, S.r130_5, S.r131_5, S.r132_5, S.r133_5, S.r134_5, S.r135_5, S.r136_5, S.r137_5, S.r138_5, S.r512_23, S.r513_23, S.r514_23, S.r515_23, S.r896_6, S.r896_8, S.r896_10, S.r896_12, S.r896_14, S.r1280_24, S.r0_1, S.ttk, S.otk, S.r0_3, S.twk, S.owk, S.r141_5, S.tpg, S.opg, S.r1281_24, S.tkd, S.okd, S.r1282_24, S.tst, S.ost, S.r1283_24, S.tvl, S.ovl, S.o0, S.o1, S.o3, S.o31, S.o5, S.o6, S.o7, S.o8, S.o9, S.o10, S.o11, S.o12, S.o13, S.o14, S.o15, S.o16, S.o17, S.o18, S.o19, S.o20, S.o21, S.o23, S.o24, S.o25, S.o29, S.o30, oN_v, oC_v, oB_v, oB2_v, oB3_v, oB4_v, oK3_v, oK4_v, oL_v, if_true, if_false, and_false, false_and, and_true, true_and, and_self, decide_true, decide_false, reduceCtorEq, not_false_eq_true, not_true_eq_false, Nat.reduceEqDiff, Nat.reduceAdd, Nat.reduceMul, Nat.add_zero, Nat.zero_add, V.kd, if_pos (e.mpr c), V.at_, if_pos (show nI t < 1200 from nI_lt (b := 1200) c2 (by omega)), nI_1, look_v I ad]
      · unfold fX12_must fX12_must_0
        rw [is_v I V hk, if_pos c, oB_v, if_neg (by decide), next_m I V, if_pos c2, oB_v]
    · refine .inr ⟨2, .inr rfl, ?_, ?_, Ded.of V (by omega) (.inr rfl)⟩
      · simp only [fX4_expect, fX4_expect_0, S.t0, S.t1, S.t3, S.t5, S.t6, S.t8, S.t10, S.t12, S.t14, S.t23, S.t24, S.t7, S.t9, S.t11, S.t13, S.t15, S.t16, S.t17, S.t18, S.t19, S.t20, S.t21, S.t25, S.t29, S.t30, S.t31, S.n7, S.n9, S.n11, S.n13, S.n15, S.n16, S.n17, S.n18, S.n19, S.n20, S.n21, S.n25, S.n29, S.n30, S.n31, S.r1408_0, S.r1409_0, S.r1410_0, S.r1411_0, S.r1412_0, S.r128_5, S.r129_5, S.r130_5, S.r131_5, S.r132_5, S.r133_5, S.r134_5, S.r135_5, S.r136_5, S.r137_5, S.r138_5, S.r512_23, S.r513_23, S.r514_23, S.r515_23, S.r896_6, S.r896_8, S.r896_10, S.r896_12, S.r896_14, S.r1280_24, S.r0_1, S.ttk, S.otk, S.r0_3, S.twk, S.owk, S.r141_5, S.tpg, S.opg, S.r1281_24, S.tkd, S.okd, S.r1282_24, S.tst, S.ost, S.r1283_24, S.tvl, S.ovl, S.o0, S.o1, S.o3, S.o31, S.o5, S.o6, S.o7, S.o8, S.o9, S.o10, S.o11, S.o12, S.o13, S.o14, S.o15, S.o16, S.o17, S.o18, S.o19, S.o20, S.o21, S.o23, S.o24, S.o25, S.o29, S.o30, oN_v, oC_v, oB_v, oB2_v, oB3_v, oB4_v, oK3_v, oK4_v, oL_v, if_true, if_false, and_false, false_and, and_true, true_and, and_self, decide_true, decide_false, reduceCtorEq, not_false_eq_true, not_true_eq_false, Nat.reduceEqDiff, Nat.reduceAdd, Nat.reduceMul, Nat.add_zero, Nat.zero_add, V.kd, if_pos (e.mpr c), V.at_, if_neg (show ¬ nI t < 1200 from nI_nlt (b := 1200) (by omega) (by omega)), stopAt_v I V]
      · unfold fX12_must fX12_must_0
        rw [is_v I V hk, if_pos c, oB_v, if_neg (by decide), next_m I V, if_neg c2, oB_v]
  · refine .inr ⟨1, .inl rfl, ?_, ?_, Ded.of V (by omega) (.inl rfl)⟩
    · simp only [fX4_expect, fX4_expect_0, S.t0, S.t1, S.t3, S.t5, S.t6, S.t8, S.t10, S.t12, S.t14, S.t23, S.t24, S.t7, S.t9, S.t11, S.t13, S.t15, S.t16, S.t17, S.t18, S.t19, S.t20, S.t21, S.t25, S.t29, S.t30, S.t31, S.n7, S.n9, S.n11, S.n13, S.n15, S.n16, S.n17, S.n18, S.n19, S.n20, S.n21, S.n25, S.n29, S.n30, S.n31, S.r1408_0, S.r1409_0, S.r1410_0, S.r1411_0, S.r1412_0, S.r128_5, S.r129_5, S.r130_5, S.r131_5, S.r132_5, S.r133_5, S.r134_5, S.r135_5, S.r136_5, S.r137_5, S.r138_5, S.r512_23, S.r513_23, S.r514_23, S.r515_23, S.r896_6, S.r896_8, S.r896_10, S.r896_12, S.r896_14, S.r1280_24, S.r0_1, S.ttk, S.otk, S.r0_3, S.twk, S.owk, S.r141_5, S.tpg, S.opg, S.r1281_24, S.tkd, S.okd, S.r1282_24, S.tst, S.ost, S.r1283_24, S.tvl, S.ovl, S.o0, S.o1, S.o3, S.o31, S.o5, S.o6, S.o7, S.o8, S.o9, S.o10, S.o11, S.o12, S.o13, S.o14, S.o15, S.o16, S.o17, S.o18, S.o19, S.o20, S.o21, S.o23, S.o24, S.o25, S.o29, S.o30, oN_v, oC_v, oB_v, oB2_v, oB3_v, oB4_v, oK3_v, oK4_v, oL_v, if_true, if_false, and_false, false_and, and_true, true_and, and_self, decide_true, decide_false, reduceCtorEq, not_false_eq_true, not_true_eq_false, Nat.reduceEqDiff, Nat.reduceAdd, Nat.reduceMul, Nat.add_zero, Nat.zero_add, V.kd, if_neg (fun q => c (e.mp q)), stopAt_v I V]
    · unfold fX12_must fX12_must_0
      rw [is_v I V hk, if_neg c, oB_v, if_pos rfl, fail_v I V, oB_v]
end EX
/-! and behind a stop -/
theorem expect_d {h : PH} {u : MS} {G : Gh} (S : SX h G) (X : Ded h u) {k : Nat} (hk : k < 38) (k4 : k ≠ 4) : fX4_expect h 23 (cK k) = some (h, 0) := by
  have e : cK 4 = cK k ↔ 4 = k := cK_inj (by omega) hk
  have s0 : ¬ hI h 524 23 = 0 := fun q => by
    rcases X.st with p | p <;> rw [p] at q <;> exact absurd q (by decide)
  have nk : ¬ (264 : Int32) = cK k := fun q => k4 (e.mp q).symm
  simp only [fX4_expect, fX4_expect_0, fX4_stopAt, fX4_stopAt_0, S.t0, S.t1, S.t3, S.t5, S.t6, S.t8, S.t10, S.t12, S.t14, S.t23, S.t24, S.t7, S.t9, S.t11, S.t13, S.t15, S.t16, S.t17, S.t18, S.t19, S.t20, S.t21, S.t25, S.t29, S.t30, S.t31, S.n7, S.n9, S.n11, S.n13, S.n15, S.n16, S.n17, S.n18, S.n19, S.n20, S.n21, S.n25, S.n29, S.n30, S.n31, S.r1408_0, S.r1409_0, S.r1410_0, S.r1411_0, S.r1412_0, S.r128_5, S.r129_5, S.r130_5, S.r131_5, S.r132_5, S.r133_5, S.r134_5, S.r135_5, S.r136_5, S.r137_5, S.r138_5, S.r512_23, S.r513_23, S.r514_23, S.r515_23, S.r896_6, S.r896_8, S.r896_10, S.r896_12, S.r896_14, S.r1280_24, S.r0_1, S.ttk, S.otk, S.r0_3, S.twk, S.owk, S.r141_5, S.tpg, S.opg, S.r1281_24, S.tkd, S.okd, S.r1282_24, S.tst, S.ost, S.r1283_24, S.tvl, S.ovl, S.o0, S.o1, S.o3, S.o31, S.o5, S.o6, S.o7, S.o8, S.o9, S.o10, S.o11, S.o12, S.o13, S.o14, S.o15, S.o16, S.o17, S.o18, S.o19, S.o20, S.o21, S.o23, S.o24, S.o25, S.o29, S.o30, oN_v, oC_v, oB_v, oB2_v, oB3_v, oB4_v, oK3_v, oK4_v, oL_v, if_true, if_false, and_false, false_and, and_true, true_and, and_self, decide_true, decide_false, reduceCtorEq, not_false_eq_true, not_true_eq_false, Nat.reduceEqDiff, Nat.reduceAdd, Nat.reduceMul, Nat.add_zero, Nat.zero_add, X.kd, if_neg nk, if_neg s0]
theorem stopAt_d {h : PH} {u : MS} {G : Gh} (S : SX h G) (X : Ded h u) (f : Int32) : fX4_stopAt h 23 f = some h := by
  have s0 : ¬ hI h 524 23 = 0 := fun q => by
    rcases X.st with p | p <;> rw [p] at q <;> exact absurd q (by decide)
  simp only [fX4_stopAt, fX4_stopAt_0, S.t0, S.t1, S.t3, S.t5, S.t6, S.t8, S.t10, S.t12, S.t14, S.t23, S.t24, S.t7, S.t9, S.t11, S.t13, S.t15, S.t16, S.t17, S.t18, S.t19, S.t20, S.t21, S.t25, S.t29, S.t30, S.t31, S.n7, S.n9, S.n11, S.n13, S.n15, S.n16, S.n17, S.n18, S.n19, S.n20, S.n21, S.n25, S.n29, S.n30, S.n31, S.r1408_0, S.r1409_0, S.r1410_0, S.r1411_0, S.r1412_0, S.r128_5, S.r129_5, S.r130_5, S.r131_5, S.r132_5, S.r133_5, S.r134_5, S.r135_5, S.r136_5, S.r137_5, S.r138_5, S.r512_23, S.r513_23, S.r514_23, S.r515_23, S.r896_6, S.r896_8, S.r896_10, S.r896_12, S.r896_14, S.r1280_24, S.r0_1, S.ttk, S.otk, S.r0_3, S.twk, S.owk, S.r141_5, S.tpg, S.opg, S.r1281_24, S.tkd, S.okd, S.r1282_24, S.tst, S.ost, S.r1283_24, S.tvl, S.ovl, S.o0, S.o1, S.o3, S.o31, S.o5, S.o6, S.o7, S.o8, S.o9, S.o10, S.o11, S.o12, S.o13, S.o14, S.o15, S.o16, S.o17, S.o18, S.o19, S.o20, S.o21, S.o23, S.o24, S.o25, S.o29, S.o30, oN_v, oC_v, oB_v, oB2_v, oB3_v, oB4_v, oK3_v, oK4_v, oL_v, if_true, if_false, and_false, false_and, and_true, true_and, and_self, decide_true, decide_false, reduceCtorEq, not_false_eq_true, not_true_eq_false, Nat.reduceEqDiff, Nat.reduceAdd, Nat.reduceMul, Nat.add_zero, Nat.zero_add, if_neg s0]
theorem skip_d {h : PH} {u : MS} {G : Gh} (S : SX h G) (X : Ded h u) {k : Nat} (hk : k < 38) (k4 : k ≠ 4) : fX4_skip h 23 (cK k) = some (h, 0) := by
  have e : cK 4 = cK k ↔ 4 = k := cK_inj (by omega) hk
  have nk : ¬ (264 : Int32) = cK k := fun q => k4 (e.mp q).symm
  simp only [fX4_skip, fX4_skip_0, S.t0, S.t1, S.t3, S.t5, S.t6, S.t8, S.t10, S.t12, S.t14, S.t23, S.t24, S.t7, S.t9, S.t11, S.t13, S.t15, S.t16, S.t17, S.t18, S.t19, S.t20, S.t21, S.t25, S.t29, S.t30, S.t31, S.n7, S.n9, S.n11, S.n13, S.n15, S.n16, S.n17, S.n18, S.n19, S.n20, S.n21, S.n25, S.n29, S.n30, S.n31, S.r1408_0, S.r1409_0, S.r1410_0, S.r1411_0, S.r1412_0, S.r128_5, S.r129_5, S.r130_5, S.r131_5, S.r132_5, S.r133_5, S.r134_5, S.r135_5, S.r136_5, S.r137_5, S.r138_5, S.r512_23, S.r513_23, S.r514_23, S.r515_23, S.r896_6, S.r896_8, S.r896_10, S.r896_12, S.r896_14, S.r1280_24, S.r0_1, S.ttk, S.otk, S.r0_3, S.twk, S.owk, S.r141_5, S.tpg, S.opg, S.r1281_24, S.tkd, S.okd, S.r1282_24, S.tst, S.ost, S.r1283_24, S.tvl, S.ovl, S.o0, S.o1, S.o3, S.o31, S.o5, S.o6, S.o7, S.o8, S.o9, S.o10, S.o11, S.o12, S.o13, S.o14, S.o15, S.o16, S.o17, S.o18, S.o19, S.o20, S.o21, S.o23, S.o24, S.o25, S.o29, S.o30, oN_v, oC_v, oB_v, oB2_v, oB3_v, oB4_v, oK3_v, oK4_v, oL_v, if_true, if_false, and_false, false_and, and_true, true_and, and_self, decide_true, decide_false, reduceCtorEq, not_false_eq_true, not_true_eq_false, Nat.reduceEqDiff, Nat.reduceAdd, Nat.reduceMul, Nat.add_zero, Nat.zero_add, X.kd, if_neg nk]
theorem Ded.f {h : PH} {u : MS} (X : Ded h u) : ¬ mI u 13 = 0 ∧ ¬ mI u 13 ≤ 0 ∧ 0 < mI u 13 := by
  rw [X.fa]
  rcases X.st with p | p <;> rw [p] <;> exact ⟨by decide, by decide, by decide⟩
theorem is_d {h : PH} {u : MS} (X : Ded h u) (k : Int32) : fX12_is u k = some 0 := by
  unfold fX12_is fX12_is_0
  rw [if_neg X.f.1]
theorem fail_d {h : PH} {u : MS} (X : Ded h u) (k : Int32) : fX12_fail u k = some u := by
  unfold fX12_fail fX12_fail_0
  rw [if_neg X.f.2.1]
theorem must_d {h : PH} {u : MS} (X : Ded h u) (k : Int32) : fX12_must u k = some u := by
  unfold fX12_must fX12_must_0
  rw [is_d X, oB_v, if_pos rfl, fail_d X, oB_v]
