/-- a law's head read by both: told, and the reference at its rules; or stopped -/
def LO (G : Gh) (z c : Sz) (L n : Nat) (D : Nat → Nat × Nat × Nat × List Nat) (t : Nat) (hn : Nat → Nat) (md : Int32) (F : Option PH) (M : Option MS) : Prop := ∃ h', F = some h' ∧ hN h' = hn ∧ hI h' 518 23 = md ∧ ((∃ u' t', M = fX12_tellLaw_199 FU u' (nI c.nl) ∧ PI h' u' G z L n D ∧ hI h' 519 23 = 1 ∧ t < t' ∧ Liv h' u' D n t' ∧ FL h' u' ∧ LR h' u' G z c.wL n D t') ∨ (∃ u', M = some u' ∧ PI h' u' G z L n D ∧ Ded h' u'))
section LE
variable {h1 h5 : PH} {u1 u5 : MS} {G : Gh} {z c : Sz} {L n t t5 ia ib : Nat} {D : Nat → Nat × Nat × Nat × List Nat} {x y : Int64} {a cc d x4 : Int32}
theorem lwH_I (h : PH) (s : Nat) (a b c d : Int32) : hI (lwH h s a b c d) = hI h ∧ hL (lwH h s a b c d) = hL h ∧ hB (lwH h s a b c d) = hB h ∧ hN (lwH h s a b c d) = hN h := ⟨rfl, rfl, rfl, rfl⟩
theorem lwH_A {h : PH} {s : Nat} {a b c d : Int32} : hA (lwH h s a b c d) 18 (5 * s) = a ∧ hA (lwH h s a b c d) 18 (5 * s + 1) = b ∧ hA (lwH h s a b c d) 18 (5 * s + 2) = c ∧ hA (lwH h s a b c d) 18 (5 * s + 3) = d ∧ hA (lwH h s a b c d) 18 (5 * s + 4) = 0 := by
  unfold lwH
  refine ⟨?_, ?_, ?_, ?_, ?_⟩ <;> simp only [z_hA_sA, true_and]
  · rw [if_neg (by omega), if_neg (by omega), if_neg (by omega), if_neg (by omega), if_pos trivial]
  · rw [if_neg (by omega), if_neg (by omega), if_neg (by omega), if_pos trivial]
  · rw [if_neg (by omega), if_neg (by omega), if_pos trivial]
  · rw [if_neg (by omega), if_pos trivial]
  · rw [if_pos trivial]
theorem lwH_o {h : PH} {s e i : Nat} {a b c d : Int32} (he : e ≠ 18) : hA (lwH h s a b c d) e i = hA h e i := by
  unfold lwH
  simp only [z_hA_sA]
  rw [if_neg (fun q => he q.1), if_neg (fun q => he q.1), if_neg (fun q => he q.1), if_neg (fun q => he q.1), if_neg (fun q => he q.1)]
theorem law_end (I1 : PI h1 u1 G z L n D) (R1 : LR h1 u1 G z c n D t) (F1 : FL h1 u1) (N : NR x y) (sm : c.nl < 10) (Q5 : Q (sI (sB h1 13 c.nl x) 897 12 (nI (c.nl + 1))) h5) (W5 : W' (mSB u1 30 c.nl y) u5) (M5 : FM (mSB u1 30 c.nl y) u5) (I5 : PI h5 u5 G z L n D) (V5 : Liv h5 u5 D n t5) (F5 : FL h5 u5) (ht : t ≤ t5) (md : hI h5 518 23 = mI u5 72) (ha : ia < 1203) (hb : ib < 1203) (h4 : x4 = -1 ∨ ∃ id, id < 1203 ∧ x4 = nI id) (va : mI u5 15 = 0 → a = mA u5 7 ia ∧ cc = mA u5 7 ib ∧ d = if x4 = -1 then -1 else mA u5 7 x4.toNatClampNeg) : LO G z c L n D t (hN h1) (hI h1 518 23) (fX4_tellLaw_75 h5 23 (nI c.nl) a cc d) (fX12_tellLaw_101 u5 (nI ia) (nI ib) x4) := by
  have S1 := I1.sx
  have S5 := I5.sx
  have n2 := I5.ts.n2
  have le := R1.le
  have c59 : cK 5 = 59 := rfl
  have sz5 : hI h5 897 12 = nI (c.nl + 1) := (Q5.I _ _ (by omega)).trans (by simp only [z_hI_sI, z_hL_sI, z_hR_sI, z_hA_sI, z_hB_sI, z_hC_sI, z_hT_sI, z_hN_sI, z_hZ_sI, z_hI_sL, z_hL_sL, z_hR_sL, z_hA_sL, z_hB_sL, z_hC_sL, z_hT_sL, z_hN_sL, z_hZ_sL, z_hI_sR, z_hL_sR, z_hR_sR, z_hA_sR, z_hB_sR, z_hC_sR, z_hT_sR, z_hN_sR, z_hZ_sR, z_hI_sA, z_hL_sA, z_hR_sA, z_hA_sA, z_hB_sA, z_hC_sA, z_hT_sA, z_hN_sA, z_hZ_sA, z_hI_sB, z_hL_sB, z_hR_sB, z_hA_sB, z_hB_sB, z_hC_sB, z_hT_sB, z_hN_sB, z_hZ_sB, z_hI_sC, z_hL_sC, z_hR_sC, z_hA_sC, z_hB_sC, z_hC_sC, z_hT_sC, z_hN_sC, z_hZ_sC, z_hI_sY, z_hL_sY, z_hR_sY, z_hA_sY, z_hB_sY, z_hC_sY, z_hT_sY, z_hN_sY, z_hZ_sY, z_hI_nO, z_hL_nO, z_hR_nO, z_hA_nO, z_hB_nO, z_hC_nO, z_hT_nO, z_hN_nO, z_hZ_nO, z_hI_nA, z_hL_nA, z_hR_nA, z_hA_nA, z_hB_nA, z_hC_nA, z_hT_nA, z_hN_nA, z_hZ_nA, if_true, if_false, and_false, false_and, and_true, true_and, and_self, decide_true, decide_false, reduceCtorEq, not_false_eq_true, not_true_eq_false, Nat.reduceEqDiff, Nat.reduceAdd, Nat.reduceMul, Nat.add_zero, Nat.zero_add])
  have g5 : ∀ f, f < 520 → hI h5 f 23 = hI h1 f 23 := fun f hf => (Q5.g f hf).trans (by simp only [z_hI_sI, z_hL_sI, z_hR_sI, z_hA_sI, z_hB_sI, z_hC_sI, z_hT_sI, z_hN_sI, z_hZ_sI, z_hI_sL, z_hL_sL, z_hR_sL, z_hA_sL, z_hB_sL, z_hC_sL, z_hT_sL, z_hN_sL, z_hZ_sL, z_hI_sR, z_hL_sR, z_hR_sR, z_hA_sR, z_hB_sR, z_hC_sR, z_hT_sR, z_hN_sR, z_hZ_sR, z_hI_sA, z_hL_sA, z_hR_sA, z_hA_sA, z_hB_sA, z_hC_sA, z_hT_sA, z_hN_sA, z_hZ_sA, z_hI_sB, z_hL_sB, z_hR_sB, z_hA_sB, z_hB_sB, z_hC_sB, z_hT_sB, z_hN_sB, z_hZ_sB, z_hI_sC, z_hL_sC, z_hR_sC, z_hA_sC, z_hB_sC, z_hC_sC, z_hT_sC, z_hN_sC, z_hZ_sC, z_hI_sY, z_hL_sY, z_hR_sY, z_hA_sY, z_hB_sY, z_hC_sY, z_hT_sY, z_hN_sY, z_hZ_sY, z_hI_nO, z_hL_nO, z_hR_nO, z_hA_nO, z_hB_nO, z_hC_nO, z_hT_nO, z_hN_nO, z_hZ_nO, z_hI_nA, z_hL_nA, z_hR_nA, z_hA_nA, z_hB_nA, z_hC_nA, z_hT_nA, z_hN_nA, z_hZ_nA, if_true, if_false, and_false, false_and, and_true, true_and, and_self, decide_true, decide_false, reduceCtorEq, not_false_eq_true, not_true_eq_false, Nat.reduceEqDiff, Nat.reduceAdd, Nat.reduceMul, Nat.add_zero, Nat.zero_add])
  obtain ⟨h6, u6, r6, e7, e8, Q6, W6, o6⟩ := want_v I5 V5 F5 (k := 5) (by omega) (by omega) (by omega)
  rw [c59] at e7
  have e8' : fX12_must u5 5 = some u6 := e8
  have I6 := I5.q Q6 W6
  have S6 := I6.sx
  have hr : r6 = 0 ∨ r6 = 1 := by
    rcases o6 with ⟨q, _⟩ | ⟨q, _⟩
    · exact .inr q
    · exact .inl q
  have eF : fX4_tellLaw_75 h5 23 (nI c.nl) a cc d = some (lwH (sI h6 519 23 r6) c.nl a (hI h5 518 23) cc d) := law75_y S5 e7 Q6 hr (m := c.nl + 1) (by omega) (by omega) sz5
  have XF : ∀ zz : Sz, zz.nr ≤ G.nr → zz.nl ≤ c.nl → CD h6 (lwH (sI h6 519 23 r6) c.nl a (hI h5 518 23) cc d) G G zz := fun zz hz hl => CD.trans hz (CD.s23 S6 hz 519 r6) (CD.lw (h := sI h6 519 23 r6) S6 hz hl a _ cc d)
  have hn6 : hN (lwH (sI h6 519 23 r6) c.nl a (hI h5 518 23) cc d) = hN h1 := Q6.N.trans Q5.N
  have i518 : hI (lwH (sI h6 519 23 r6) c.nl a (hI h5 518 23) cc d) 518 23 = hI h1 518 23 := by
    rw [(lwH_I _ _ _ _ _ _).1]
    simp only [z_hI_sI, z_hL_sI, z_hR_sI, z_hA_sI, z_hB_sI, z_hC_sI, z_hT_sI, z_hN_sI, z_hZ_sI, z_hI_sL, z_hL_sL, z_hR_sL, z_hA_sL, z_hB_sL, z_hC_sL, z_hT_sL, z_hN_sL, z_hZ_sL, z_hI_sR, z_hL_sR, z_hR_sR, z_hA_sR, z_hB_sR, z_hC_sR, z_hT_sR, z_hN_sR, z_hZ_sR, z_hI_sA, z_hL_sA, z_hR_sA, z_hA_sA, z_hB_sA, z_hC_sA, z_hT_sA, z_hN_sA, z_hZ_sA, z_hI_sB, z_hL_sB, z_hR_sB, z_hA_sB, z_hB_sB, z_hC_sB, z_hT_sB, z_hN_sB, z_hZ_sB, z_hI_sC, z_hL_sC, z_hR_sC, z_hA_sC, z_hB_sC, z_hC_sC, z_hT_sC, z_hN_sC, z_hZ_sC, z_hI_sY, z_hL_sY, z_hR_sY, z_hA_sY, z_hB_sY, z_hC_sY, z_hT_sY, z_hN_sY, z_hZ_sY, z_hI_nO, z_hL_nO, z_hR_nO, z_hA_nO, z_hB_nO, z_hC_nO, z_hT_nO, z_hN_nO, z_hZ_nO, z_hI_nA, z_hL_nA, z_hR_nA, z_hA_nA, z_hB_nA, z_hC_nA, z_hT_nA, z_hN_nA, z_hZ_nA, if_true, if_false, and_false, false_and, and_true, true_and, and_self, decide_true, decide_false, reduceCtorEq, not_false_eq_true, not_true_eq_false, Nat.reduceEqDiff, Nat.reduceAdd, Nat.reduceMul, Nat.add_zero, Nat.zero_add]
    exact (Q6.g 518 (by omega)).trans (g5 518 (by omega))
  refine ⟨_, eF, hn6, i518, ?_⟩
  rcases o6 with ⟨r61, _, c6, V6, F6, M6⟩ | ⟨r60, X6⟩
  · subst r61
    have m21 : mI u6 21 = nI c.nl := (W6.I 21 (by omega)).trans ((W5.I 21 (by omega)).trans R1.zm.2.2.2.1)
    have m72 : mI u6 72 = hI h5 518 23 := (W6.I 72 (by omega)).trans md.symm
    obtain ⟨dv, edv, eM⟩ : ∃ dv : Int32, dv = (if x4 = -1 then -1 else mA u6 7 x4.toNatClampNeg) ∧ fX12_tellLaw_101 u5 (nI ia) (nI ib) x4 = fX12_tellLaw_199 FU (mSI (mSA (mSA (mSA (mSA (mSA u6 31 c.nl (mA u6 7 ia)) 32 c.nl (mI u6 72)) 33 c.nl (mA u6 7 ib)) 34 c.nl dv) 35 c.nl 0) 21 (nI (c.nl + 1))) (nI c.nl) := by
      refine ⟨_, rfl, ?_⟩
      have i1 : ∀ k, mlen k = 10 → ix (nI c.nl) (mlen k) = true := fun k hk => ix_n (by rw [hk]; exact sm) (by rw [hk]; omega)
      have i7 : ∀ i, i < 1203 → ix (nI i) (mlen 7) = true := fun i hi => ix_n (show i < mlen 7 from hi) (by decide)
      have t180 : ∀ v : Int32, fX12_tellLaw_180 (mSA (mSA (mSA u6 31 c.nl (mA u6 7 ia)) 32 c.nl (mI u6 72)) 33 c.nl (mA u6 7 ib)) (nI c.nl) v (nI c.nl) = fX12_tellLaw_199 FU (mSI (mSA (mSA (mSA (mSA (mSA u6 31 c.nl (mA u6 7 ia)) 32 c.nl (mI u6 72)) 33 c.nl (mA u6 7 ib)) 34 c.nl v) 35 c.nl 0) 21 (nI (c.nl + 1))) (nI c.nl) := fun v => by
        have w21 : mI (mSA (mSA (mSA (mSA (mSA u6 31 c.nl (mA u6 7 ia)) 32 c.nl (mI u6 72)) 33 c.nl (mA u6 7 ib)) 34 c.nl v) 35 c.nl 0) 21 = nI c.nl := m21
        unfold fX12_tellLaw_180
        rw [oC_t (i1 34 (by decide)), oL_v, nI_clamp (show c.nl < 2147483648 by omega), oC_t (i1 35 (by decide)), oL_v, w21, nI_1, oL_v]
      unfold fX12_tellLaw_101
      rw [e8', oB_v, V6.f0, if_pos (by decide), oL_v, m21, oC_t (i7 ia ha), oC_t (i1 31 (by decide)), oL_v, nI_clamp (show c.nl < 2147483648 by omega), nI_clamp (show ia < 2147483648 by omega), oC_t (i1 32 (by decide)), oL_v, oC_t (i7 ib hb), oC_t (i1 33 (by decide)), oL_v, nI_clamp (show ib < 2147483648 by omega)]
      have w72 : mI (mSA u6 31 c.nl (mA u6 7 ia)) 72 = mI u6 72 := rfl
      have w7 : ∀ i, mA (mSA (mSA u6 31 c.nl (mA u6 7 ia)) 32 c.nl (mI u6 72)) 7 i = mA u6 7 i := fun i => by simp only [z_mI_mSI, z_mL_mSI, z_mA_mSI, z_mB_mSI, z_mI_mSL, z_mL_mSL, z_mA_mSL, z_mB_mSL, z_mI_mSA, z_mL_mSA, z_mA_mSA, z_mB_mSA, z_mI_mSB, z_mL_mSB, z_mA_mSB, z_mB_mSB, if_true, if_false, and_false, false_and, and_true, true_and, and_self, decide_true, decide_false, reduceCtorEq, not_false_eq_true, not_true_eq_false, Nat.reduceEqDiff, Nat.reduceAdd, Nat.reduceMul, Nat.add_zero, Nat.zero_add]
      have w7' : ∀ i, mA (mSA (mSA (mSA u6 31 c.nl (mA u6 7 ia)) 32 c.nl (mI u6 72)) 33 c.nl (mA u6 7 ib)) 7 i = mA u6 7 i := fun i => by simp only [z_mI_mSI, z_mL_mSI, z_mA_mSI, z_mB_mSI, z_mI_mSL, z_mL_mSL, z_mA_mSL, z_mB_mSL, z_mI_mSA, z_mL_mSA, z_mA_mSA, z_mB_mSA, z_mI_mSB, z_mL_mSB, z_mA_mSB, z_mB_mSB, if_true, if_false, and_false, false_and, and_true, true_and, and_self, decide_true, decide_false, reduceCtorEq, not_false_eq_true, not_true_eq_false, Nat.reduceEqDiff, Nat.reduceAdd, Nat.reduceMul, Nat.add_zero, Nat.zero_add]
      rw [w72, w7, w7']
      rcases h4 with q | ⟨id, hid, q⟩
      · rw [if_pos q, if_pos q, t180]
      · have nq : ¬ x4 = -1 := by rw [q]; exact nI_m1 (by omega)
        rw [if_neg nq, if_neg nq, q, oC_t (i7 id hid), t180]
    have D2 : (D t).1 ≤ (D (t5 + 1)).1 := I5.ts.le (by omega) V6.lt
    have rG := R1.ct.rG
    have YF : ∀ zz : Sz, zz.nl ≤ c.nl → MD u6 (mSI (mSA (mSA (mSA (mSA (mSA u6 31 c.nl (mA u6 7 ia)) 32 c.nl (mI u6 72)) 33 c.nl (mA u6 7 ib)) 34 c.nl dv) 35 c.nl 0) 21 (nI (c.nl + 1))) zz := fun zz hl => ((((((MD.refl u6 zz).sA (by omega) (by unfold kM; omega)).sA (by omega) (by unfold kM; omega)).sA (by omega) (by unfold kM; omega)).sA (by omega) (by unfold kM; omega)).sA (by omega) (by unfold kM; omega)).sI (by omega)
    have mi6 : ∀ k, k ≠ 21 → mI (mSI (mSA (mSA (mSA (mSA (mSA u6 31 c.nl (mA u6 7 ia)) 32 c.nl (mI u6 72)) 33 c.nl (mA u6 7 ib)) 34 c.nl dv) 35 c.nl 0) 21 (nI (c.nl + 1))) k = mI u6 k := fun k hk => by simp only [z_mI_mSI, z_mL_mSI, z_mA_mSI, z_mB_mSI, z_mI_mSL, z_mL_mSL, z_mA_mSL, z_mB_mSL, z_mI_mSA, z_mL_mSA, z_mA_mSA, z_mB_mSA, z_mI_mSB, z_mL_mSB, z_mA_mSB, z_mB_mSB]; rw [if_neg hk]
    have mi : ∀ k, k ≠ 21 → ¬ (k = 11 ∨ (13 ≤ k ∧ k ≤ 16)) → mI (mSI (mSA (mSA (mSA (mSA (mSA u6 31 c.nl (mA u6 7 ia)) 32 c.nl (mI u6 72)) 33 c.nl (mA u6 7 ib)) 34 c.nl dv) 35 c.nl 0) 21 (nI (c.nl + 1))) k = mI u1 k := fun k h1 h2 => (mi6 k h1).trans ((W6.I k h2).trans (W5.I k h2))
    have fm : FM u1 (mSI (mSA (mSA (mSA (mSA (mSA u6 31 c.nl (mA u6 7 ia)) 32 c.nl (mI u6 72)) 33 c.nl (mA u6 7 ib)) 34 c.nl dv) 35 c.nl 0) 21 (nI (c.nl + 1))) := fun q hq => by
      obtain ⟨p1, p, p2, p3, p4⟩ := M6 q (M5 q hq)
      exact ⟨by rw [mi6 15 (by omega)]; exact p1, p, p2, p3, by rw [mi6 16 (by omega)]; exact p4⟩
    have X : CD h1 (lwH (sI h6 519 23 1) c.nl a (hI h5 518 23) cc d) G G c := CD.trans rG (CD.trans rG (CD.add S1 rG (.inr (.inr (.inr (.inl ⟨rfl, rfl, Nat.le_refl _⟩))))) ((Q5.trans Q6).cd S1 rG)) (XF c rG (Nat.le_refl _))
    have Y : MD u1 (mSI (mSA (mSA (mSA (mSA (mSA u6 31 c.nl (mA u6 7 ia)) 32 c.nl (mI u6 72)) 33 c.nl (mA u6 7 ib)) 34 c.nl dv) 35 c.nl 0) 21 (nI (c.nl + 1))) c := (((MD.refl u1 c).sB (by omega) (by unfold kM; omega)).trans ((W5.trans W6).md c)).trans (YF c (Nat.le_refl _))
    have e15 : mI (mSI (mSA (mSA (mSA (mSA (mSA u6 31 c.nl (mA u6 7 ia)) 32 c.nl (mI u6 72)) 33 c.nl (mA u6 7 ib)) 34 c.nl dv) 35 c.nl 0) 21 (nI (c.nl + 1))) 15 = 0 → mI u5 15 = 0 := fun q => FM.z F5 M6 ((mi6 15 (by omega)).symm.trans q)
    obtain ⟨a1, a2, a3, a4, a5, a6, a7⟩ := R1.zc
    obtain ⟨m1, m2, m3, m4, m5, m6, m7⟩ := R1.zm
    obtain ⟨k1, k2, k3, k4, k5, k6⟩ := R1.ok
    have hi' : ∀ f b, b ≠ 23 → b ≠ 12 → hI (lwH (sI h6 519 23 1) c.nl a (hI h5 518 23) cc d) f b = hI h1 f b := fun f b q1 q2 => by
      rw [(lwH_I _ _ _ _ _ _).1]
      simp only [z_hI_sI, z_hL_sI, z_hR_sI, z_hA_sI, z_hB_sI, z_hC_sI, z_hT_sI, z_hN_sI, z_hZ_sI, z_hI_sL, z_hL_sL, z_hR_sL, z_hA_sL, z_hB_sL, z_hC_sL, z_hT_sL, z_hN_sL, z_hZ_sL, z_hI_sR, z_hL_sR, z_hR_sR, z_hA_sR, z_hB_sR, z_hC_sR, z_hT_sR, z_hN_sR, z_hZ_sR, z_hI_sA, z_hL_sA, z_hR_sA, z_hA_sA, z_hB_sA, z_hC_sA, z_hT_sA, z_hN_sA, z_hZ_sA, z_hI_sB, z_hL_sB, z_hR_sB, z_hA_sB, z_hB_sB, z_hC_sB, z_hT_sB, z_hN_sB, z_hZ_sB, z_hI_sC, z_hL_sC, z_hR_sC, z_hA_sC, z_hB_sC, z_hC_sC, z_hT_sC, z_hN_sC, z_hZ_sC, z_hI_sY, z_hL_sY, z_hR_sY, z_hA_sY, z_hB_sY, z_hC_sY, z_hT_sY, z_hN_sY, z_hZ_sY, z_hI_nO, z_hL_nO, z_hR_nO, z_hA_nO, z_hB_nO, z_hC_nO, z_hT_nO, z_hN_nO, z_hZ_nO, z_hI_nA, z_hL_nA, z_hR_nA, z_hA_nA, z_hB_nA, z_hC_nA, z_hT_nA, z_hN_nA, z_hZ_nA]
      rw [if_neg (fun q => q1 q.2), (Q5.trans Q6).I f b q1]
      simp only [z_hI_sI, z_hL_sI, z_hR_sI, z_hA_sI, z_hB_sI, z_hC_sI, z_hT_sI, z_hN_sI, z_hZ_sI, z_hI_sL, z_hL_sL, z_hR_sL, z_hA_sL, z_hB_sL, z_hC_sL, z_hT_sL, z_hN_sL, z_hZ_sL, z_hI_sR, z_hL_sR, z_hR_sR, z_hA_sR, z_hB_sR, z_hC_sR, z_hT_sR, z_hN_sR, z_hZ_sR, z_hI_sA, z_hL_sA, z_hR_sA, z_hA_sA, z_hB_sA, z_hC_sA, z_hT_sA, z_hN_sA, z_hZ_sA, z_hI_sB, z_hL_sB, z_hR_sB, z_hA_sB, z_hB_sB, z_hC_sB, z_hT_sB, z_hN_sB, z_hZ_sB, z_hI_sC, z_hL_sC, z_hR_sC, z_hA_sC, z_hB_sC, z_hC_sC, z_hT_sC, z_hN_sC, z_hZ_sC, z_hI_sY, z_hL_sY, z_hR_sY, z_hA_sY, z_hB_sY, z_hC_sY, z_hT_sY, z_hN_sY, z_hZ_sY, z_hI_nO, z_hL_nO, z_hR_nO, z_hA_nO, z_hB_nO, z_hC_nO, z_hT_nO, z_hN_nO, z_hZ_nO, z_hI_nA, z_hL_nA, z_hR_nA, z_hA_nA, z_hB_nA, z_hC_nA, z_hT_nA, z_hN_nA, z_hZ_nA]
      rw [if_neg (fun q => q2 q.2)]
    have h12 : hI (lwH (sI h6 519 23 1) c.nl a (hI h5 518 23) cc d) 897 12 = nI (c.nl + 1) := by
      rw [(lwH_I _ _ _ _ _ _).1]
      simp only [z_hI_sI, z_hL_sI, z_hR_sI, z_hA_sI, z_hB_sI, z_hC_sI, z_hT_sI, z_hN_sI, z_hZ_sI, z_hI_sL, z_hL_sL, z_hR_sL, z_hA_sL, z_hB_sL, z_hC_sL, z_hT_sL, z_hN_sL, z_hZ_sL, z_hI_sR, z_hL_sR, z_hR_sR, z_hA_sR, z_hB_sR, z_hC_sR, z_hT_sR, z_hN_sR, z_hZ_sR, z_hI_sA, z_hL_sA, z_hR_sA, z_hA_sA, z_hB_sA, z_hC_sA, z_hT_sA, z_hN_sA, z_hZ_sA, z_hI_sB, z_hL_sB, z_hR_sB, z_hA_sB, z_hB_sB, z_hC_sB, z_hT_sB, z_hN_sB, z_hZ_sB, z_hI_sC, z_hL_sC, z_hR_sC, z_hA_sC, z_hB_sC, z_hC_sC, z_hT_sC, z_hN_sC, z_hZ_sC, z_hI_sY, z_hL_sY, z_hR_sY, z_hA_sY, z_hB_sY, z_hC_sY, z_hT_sY, z_hN_sY, z_hZ_sY, z_hI_nO, z_hL_nO, z_hR_nO, z_hA_nO, z_hB_nO, z_hC_nO, z_hT_nO, z_hN_nO, z_hZ_nO, z_hI_nA, z_hL_nA, z_hR_nA, z_hA_nA, z_hB_nA, z_hC_nA, z_hT_nA, z_hN_nA, z_hZ_nA, if_true, if_false, and_false, false_and, and_true, true_and, and_self, decide_true, decide_false, reduceCtorEq, not_false_eq_true, not_true_eq_false, Nat.reduceEqDiff, Nat.reduceAdd, Nat.reduceMul, Nat.add_zero, Nat.zero_add]
      exact (Q6.I _ _ (by omega)).trans sz5
    have l23 : ∀ f, f ≠ 519 → hI (lwH (sI h6 519 23 1) c.nl a (hI h5 518 23) cc d) f 23 = hI h6 f 23 := fun f hf => by
      rw [(lwH_I _ _ _ _ _ _).1]
      simp only [z_hI_sI, z_hL_sI, z_hR_sI, z_hA_sI, z_hB_sI, z_hC_sI, z_hT_sI, z_hN_sI, z_hZ_sI, z_hI_sL, z_hL_sL, z_hR_sL, z_hA_sL, z_hB_sL, z_hC_sL, z_hT_sL, z_hN_sL, z_hZ_sL, z_hI_sR, z_hL_sR, z_hR_sR, z_hA_sR, z_hB_sR, z_hC_sR, z_hT_sR, z_hN_sR, z_hZ_sR, z_hI_sA, z_hL_sA, z_hR_sA, z_hA_sA, z_hB_sA, z_hC_sA, z_hT_sA, z_hN_sA, z_hZ_sA, z_hI_sB, z_hL_sB, z_hR_sB, z_hA_sB, z_hB_sB, z_hC_sB, z_hT_sB, z_hN_sB, z_hZ_sB, z_hI_sC, z_hL_sC, z_hR_sC, z_hA_sC, z_hB_sC, z_hC_sC, z_hT_sC, z_hN_sC, z_hZ_sC, z_hI_sY, z_hL_sY, z_hR_sY, z_hA_sY, z_hB_sY, z_hC_sY, z_hT_sY, z_hN_sY, z_hZ_sY, z_hI_nO, z_hL_nO, z_hR_nO, z_hA_nO, z_hB_nO, z_hC_nO, z_hT_nO, z_hN_nO, z_hZ_nO, z_hI_nA, z_hL_nA, z_hR_nA, z_hA_nA, z_hB_nA, z_hC_nA, z_hT_nA, z_hN_nA, z_hZ_nA]
      rw [if_neg (fun q => hf q.1)]
    refine .inl ⟨_, t5 + 1, eM, I6.d (XF z I6.kr.nrG le.2.2.2.1) (YF z le.2.2.2.1) I6.rm.p3, ?_, by omega, ?_, ?_, ?_⟩
    · rw [(lwH_I _ _ _ _ _ _).1]
      simp only [z_hI_sI, z_hL_sI, z_hR_sI, z_hA_sI, z_hB_sI, z_hC_sI, z_hT_sI, z_hN_sI, z_hZ_sI, z_hI_sL, z_hL_sL, z_hR_sL, z_hA_sL, z_hB_sL, z_hC_sL, z_hT_sL, z_hN_sL, z_hZ_sL, z_hI_sR, z_hL_sR, z_hR_sR, z_hA_sR, z_hB_sR, z_hC_sR, z_hT_sR, z_hN_sR, z_hZ_sR, z_hI_sA, z_hL_sA, z_hR_sA, z_hA_sA, z_hB_sA, z_hC_sA, z_hT_sA, z_hN_sA, z_hZ_sA, z_hI_sB, z_hL_sB, z_hR_sB, z_hA_sB, z_hB_sB, z_hC_sB, z_hT_sB, z_hN_sB, z_hZ_sB, z_hI_sC, z_hL_sC, z_hR_sC, z_hA_sC, z_hB_sC, z_hC_sC, z_hT_sC, z_hN_sC, z_hZ_sC, z_hI_sY, z_hL_sY, z_hR_sY, z_hA_sY, z_hB_sY, z_hC_sY, z_hT_sY, z_hN_sY, z_hZ_sY, z_hI_nO, z_hL_nO, z_hR_nO, z_hA_nO, z_hB_nO, z_hC_nO, z_hT_nO, z_hN_nO, z_hZ_nO, z_hI_nA, z_hL_nA, z_hR_nA, z_hA_nA, z_hB_nA, z_hC_nA, z_hT_nA, z_hN_nA, z_hZ_nA, if_true, if_false, and_false, false_and, and_true, true_and, and_self, decide_true, decide_false, reduceCtorEq, not_false_eq_true, not_true_eq_false, Nat.reduceEqDiff, Nat.reduceAdd, Nat.reduceMul, Nat.add_zero, Nat.zero_add]
    · exact ⟨V6.lt, (l23 _ (by omega)).trans V6.at_, (l23 _ (by omega)).trans V6.kd, (l23 _ (by omega)).trans V6.pl, V6.vl, (l23 _ (by omega)).trans V6.st, (mi6 13 (by omega)).trans V6.f0, (mi6 11 (by omega)).trans V6.t0⟩
    · exact F6.fr (l23 _ (by omega)) (l23 _ (by omega)) (mi6 15 (by omega)) (mi6 16 (by omega))
    · refine LR.mk (Sz.le_trans le c.leL) ⟨k1, k2, k3, (show c.nl + 1 ≤ 10 by omega), k5, k6⟩ ⟨(hi' _ _ (by omega) (by omega)).trans a1, (hi' _ _ (by omega) (by omega)).trans a2, (hi' _ _ (by omega) (by omega)).trans a3, h12, (hi' _ _ (by omega) (by omega)).trans a5, (hi' _ _ (by omega) (by omega)).trans a6, (hi' _ _ (by omega) (by omega)).trans a7⟩ ⟨(mi 18 (by omega) (by omega)).trans m1, (mi 19 (by omega) (by omega)).trans m2, (mi 20 (by omega) (by omega)).trans m3, by simp only [z_mI_mSI, z_mL_mSI, z_mA_mSI, z_mB_mSI, z_mI_mSL, z_mL_mSL, z_mA_mSL, z_mB_mSL, z_mI_mSA, z_mL_mSA, z_mA_mSA, z_mB_mSA, z_mI_mSB, z_mL_mSB, z_mA_mSB, z_mB_mSB, if_true, if_false, and_false, false_and, and_true, true_and, and_self, decide_true, decide_false, reduceCtorEq, not_false_eq_true, not_true_eq_false, Nat.reduceEqDiff, Nat.reduceAdd, Nat.reduceMul, Nat.add_zero, Nat.zero_add]; rfl, (mi 22 (by omega) (by omega)).trans m5, (mi 23 (by omega) (by omega)).trans m6, (mi 24 (by omega) (by omega)).trans m7⟩ ((l23 517 (by omega)).trans ((Q6.g 517 (by omega)).trans ((g5 517 (by omega)).trans R1.o1))) ((mi 63 (by omega) (by omega)).trans R1.o2) ?_ ((R1.ct.d F1 X Y fm D2).wL ?_ ?_) (by have := R1.p1; show c.pc ≤ _; omega) (by have := R1.p2; show c.rc ≤ _; omega) (by rw [hn6]; exact R1.p3) R1.p4
      · intro i hi
        obtain ⟨k, q1, q2, q3, q4, q5, q6⟩ := R1.ot i hi
        refine ⟨k, q1, q2, q3, ?_, ?_, ?_⟩
        · rw [lwH_o (by omega)]
          show hA h6 30 i = _
          rw [Q6.A, Q5.A]
          exact q4
        · simp only [z_mI_mSI, z_mL_mSI, z_mA_mSI, z_mB_mSI, z_mI_mSL, z_mL_mSL, z_mA_mSL, z_mB_mSL, z_mI_mSA, z_mL_mSA, z_mA_mSA, z_mB_mSA, z_mI_mSB, z_mL_mSB, z_mA_mSB, z_mB_mSB, if_true, if_false, and_false, false_and, and_true, true_and, and_self, decide_true, decide_false, reduceCtorEq, not_false_eq_true, not_true_eq_false, Nat.reduceEqDiff, Nat.reduceAdd, Nat.reduceMul, Nat.add_zero, Nat.zero_add]
          rw [W6.A, W5.A]
          exact q5
        · simp only [z_mI_mSI, z_mL_mSI, z_mA_mSI, z_mB_mSI, z_mI_mSL, z_mL_mSL, z_mA_mSL, z_mB_mSL, z_mI_mSA, z_mL_mSA, z_mA_mSA, z_mB_mSA, z_mI_mSB, z_mL_mSB, z_mA_mSB, z_mB_mSB, if_true, if_false, and_false, false_and, and_true, true_and, and_self, decide_true, decide_false, reduceCtorEq, not_false_eq_true, not_true_eq_false, Nat.reduceEqDiff, Nat.reduceAdd, Nat.reduceMul, Nat.add_zero, Nat.zero_add]
          rw [W6.A, W5.A]
          exact q6
      · show NR (hB h6 13 c.nl) (mB u6 30 c.nl)
        rw [Q6.B, Q5.B, W6.B, W5.B]
        simp only [z_hI_sI, z_hL_sI, z_hR_sI, z_hA_sI, z_hB_sI, z_hC_sI, z_hT_sI, z_hN_sI, z_hZ_sI, z_hI_sL, z_hL_sL, z_hR_sL, z_hA_sL, z_hB_sL, z_hC_sL, z_hT_sL, z_hN_sL, z_hZ_sL, z_hI_sR, z_hL_sR, z_hR_sR, z_hA_sR, z_hB_sR, z_hC_sR, z_hT_sR, z_hN_sR, z_hZ_sR, z_hI_sA, z_hL_sA, z_hR_sA, z_hA_sA, z_hB_sA, z_hC_sA, z_hT_sA, z_hN_sA, z_hZ_sA, z_hI_sB, z_hL_sB, z_hR_sB, z_hA_sB, z_hB_sB, z_hC_sB, z_hT_sB, z_hN_sB, z_hZ_sB, z_hI_sC, z_hL_sC, z_hR_sC, z_hA_sC, z_hB_sC, z_hC_sC, z_hT_sC, z_hN_sC, z_hZ_sC, z_hI_sY, z_hL_sY, z_hR_sY, z_hA_sY, z_hB_sY, z_hC_sY, z_hT_sY, z_hN_sY, z_hZ_sY, z_hI_nO, z_hL_nO, z_hR_nO, z_hA_nO, z_hB_nO, z_hC_nO, z_hT_nO, z_hN_nO, z_hZ_nO, z_hI_nA, z_hL_nA, z_hR_nA, z_hA_nA, z_hB_nA, z_hC_nA, z_hT_nA, z_hN_nA, z_hZ_nA, z_mI_mSI, z_mL_mSI, z_mA_mSI, z_mB_mSI, z_mI_mSL, z_mL_mSL, z_mA_mSL, z_mB_mSL, z_mI_mSA, z_mL_mSA, z_mA_mSA, z_mB_mSA, z_mI_mSB, z_mL_mSB, z_mA_mSB, z_mB_mSB, if_true, if_false, and_false, false_and, and_true, true_and, and_self, decide_true, decide_false, reduceCtorEq, not_false_eq_true, not_true_eq_false, Nat.reduceEqDiff, Nat.reduceAdd, Nat.reduceMul, Nat.add_zero, Nat.zero_add]
        exact N
      · intro e
        obtain ⟨v1, v2, v3⟩ := va (e15 e)
        obtain ⟨b1, b2, b3, b4, b5⟩ := lwH_A (h := sI h6 519 23 1) (s := c.nl) (a := a) (b := hI h5 518 23) (c := cc) (d := d)
        have ed : d = dv := by rw [v3, edv, W6.A]
        rw [b1, b2, b3, b4, b5]
        have e1 : a = mA u6 7 ia := by rw [v1, W6.A]
        have e3 : cc = mA u6 7 ib := by rw [v2, W6.A]
        refine ⟨e1.trans ?_, m72.symm.trans ?_, e3.trans ?_, ed.trans ?_, ?_⟩ <;> simp only [z_mI_mSI, z_mL_mSI, z_mA_mSI, z_mB_mSI, z_mI_mSL, z_mL_mSL, z_mA_mSL, z_mB_mSL, z_mI_mSA, z_mL_mSA, z_mA_mSA, z_mB_mSA, z_mI_mSB, z_mL_mSB, z_mA_mSB, z_mB_mSB, if_true, if_false, and_false, false_and, and_true, true_and, and_self, decide_true, decide_false, reduceCtorEq, not_false_eq_true, not_true_eq_false, Nat.reduceEqDiff, Nat.reduceAdd, Nat.reduceMul, Nat.add_zero, Nat.zero_add]
  · subst r60
    refine .inr ⟨u6, ?_, I6.cq (XF z I6.kr.nrG le.2.2.2.1), ?_⟩
    · unfold fX12_tellLaw_101
      rw [e8', oB_v, if_neg X6.f.2.1]
    · refine ⟨?_, ?_, ?_, ?_, X6.tt⟩ <;> rw [(lwH_I _ _ _ _ _ _).1] <;> simp only [z_hI_sI, z_hL_sI, z_hR_sI, z_hA_sI, z_hB_sI, z_hC_sI, z_hT_sI, z_hN_sI, z_hZ_sI, z_hI_sL, z_hL_sL, z_hR_sL, z_hA_sL, z_hB_sL, z_hC_sL, z_hT_sL, z_hN_sL, z_hZ_sL, z_hI_sR, z_hL_sR, z_hR_sR, z_hA_sR, z_hB_sR, z_hC_sR, z_hT_sR, z_hN_sR, z_hZ_sR, z_hI_sA, z_hL_sA, z_hR_sA, z_hA_sA, z_hB_sA, z_hC_sA, z_hT_sA, z_hN_sA, z_hZ_sA, z_hI_sB, z_hL_sB, z_hR_sB, z_hA_sB, z_hB_sB, z_hC_sB, z_hT_sB, z_hN_sB, z_hZ_sB, z_hI_sC, z_hL_sC, z_hR_sC, z_hA_sC, z_hB_sC, z_hC_sC, z_hT_sC, z_hN_sC, z_hZ_sC, z_hI_sY, z_hL_sY, z_hR_sY, z_hA_sY, z_hB_sY, z_hC_sY, z_hT_sY, z_hN_sY, z_hZ_sY, z_hI_nO, z_hL_nO, z_hR_nO, z_hA_nO, z_hB_nO, z_hC_nO, z_hT_nO, z_hN_nO, z_hZ_nO, z_hI_nA, z_hL_nA, z_hR_nA, z_hA_nA, z_hB_nA, z_hC_nA, z_hT_nA, z_hN_nA, z_hZ_nA, if_true, if_false, and_false, false_and, and_true, true_and, and_self, decide_true, decide_false, reduceCtorEq, not_false_eq_true, not_true_eq_false, Nat.reduceEqDiff, Nat.reduceAdd, Nat.reduceMul, Nat.add_zero, Nat.zero_add]
      · exact X6.st
      · exact X6.fa
      · exact X6.pl
      · exact X6.kd
end LE
