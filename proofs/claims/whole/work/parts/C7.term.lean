/-- a change in a rule's terms: where both stand, and their variables -/
def TD (h : PH) (u : MS) (h' : PH) (u' : MS) (G : Gh) (w : Nat) : Prop := (∀ zz : Sz, zz.nr ≤ G.nr → CD h h' G G zz) ∧ (∀ zz : Sz, zz.nr ≤ w → MD u u' zz) ∧ (∀ f a, a ≠ 23 → hI h' f a = hI h f a) ∧ (∀ f, f < 520 → f ≠ 516 → hI h' f 23 = hI h f 23) ∧ (hN h' = hN h) ∧ (∀ k, ¬ (k = 11 ∨ (13 ≤ k ∧ k ≤ 16)) → mI u' k = mI u k) ∧ (∀ k i, k ≠ 42 → k ≠ 43 → mA u' k i = mA u k i) ∧ (∀ a i, a ≠ 29 → hA h' a i = hA h a i) ∧ (hB h' = hB h) ∧ (mB u' = mB u) ∧ (hT h' = hT h)
theorem TD.cd {h : PH} {u : MS} {h' : PH} {u' : MS} {G : Gh} {w : Nat} (X_ : TD h u h' u' G w) : ∀ zz : Sz, zz.nr ≤ G.nr → CD h h' G G zz := X_.1
theorem TD.md {h : PH} {u : MS} {h' : PH} {u' : MS} {G : Gh} {w : Nat} (X_ : TD h u h' u' G w) : ∀ zz : Sz, zz.nr ≤ w → MD u u' zz := X_.2.1
theorem TD.I {h : PH} {u : MS} {h' : PH} {u' : MS} {G : Gh} {w : Nat} (X_ : TD h u h' u' G w) : ∀ f a, a ≠ 23 → hI h' f a = hI h f a := X_.2.2.1
theorem TD.g {h : PH} {u : MS} {h' : PH} {u' : MS} {G : Gh} {w : Nat} (X_ : TD h u h' u' G w) : ∀ f, f < 520 → f ≠ 516 → hI h' f 23 = hI h f 23 := X_.2.2.2.1
theorem TD.N {h : PH} {u : MS} {h' : PH} {u' : MS} {G : Gh} {w : Nat} (X_ : TD h u h' u' G w) : hN h' = hN h := X_.2.2.2.2.1
theorem TD.mi {h : PH} {u : MS} {h' : PH} {u' : MS} {G : Gh} {w : Nat} (X_ : TD h u h' u' G w) : ∀ k, ¬ (k = 11 ∨ (13 ≤ k ∧ k ≤ 16)) → mI u' k = mI u k := X_.2.2.2.2.2.1
theorem TD.ma {h : PH} {u : MS} {h' : PH} {u' : MS} {G : Gh} {w : Nat} (X_ : TD h u h' u' G w) : ∀ k i, k ≠ 42 → k ≠ 43 → mA u' k i = mA u k i := X_.2.2.2.2.2.2.1
theorem TD.A {h : PH} {u : MS} {h' : PH} {u' : MS} {G : Gh} {w : Nat} (X_ : TD h u h' u' G w) : ∀ a i, a ≠ 29 → hA h' a i = hA h a i := X_.2.2.2.2.2.2.2.1
theorem TD.B {h : PH} {u : MS} {h' : PH} {u' : MS} {G : Gh} {w : Nat} (X_ : TD h u h' u' G w) : hB h' = hB h := X_.2.2.2.2.2.2.2.2.1
theorem TD.mb {h : PH} {u : MS} {h' : PH} {u' : MS} {G : Gh} {w : Nat} (X_ : TD h u h' u' G w) : mB u' = mB u := X_.2.2.2.2.2.2.2.2.2.1
theorem TD.T {h : PH} {u : MS} {h' : PH} {u' : MS} {G : Gh} {w : Nat} (X_ : TD h u h' u' G w) : hT h' = hT h := X_.2.2.2.2.2.2.2.2.2.2
theorem TD.mk {h : PH} {u : MS} {h' : PH} {u' : MS} {G : Gh} {w : Nat} (cd_ : ∀ zz : Sz, zz.nr ≤ G.nr → CD h h' G G zz) (md_ : ∀ zz : Sz, zz.nr ≤ w → MD u u' zz) (I_ : ∀ f a, a ≠ 23 → hI h' f a = hI h f a) (g_ : ∀ f, f < 520 → f ≠ 516 → hI h' f 23 = hI h f 23) (N_ : hN h' = hN h) (mi_ : ∀ k, ¬ (k = 11 ∨ (13 ≤ k ∧ k ≤ 16)) → mI u' k = mI u k) (ma_ : ∀ k i, k ≠ 42 → k ≠ 43 → mA u' k i = mA u k i) (A_ : ∀ a i, a ≠ 29 → hA h' a i = hA h a i) (B_ : hB h' = hB h) (mb_ : mB u' = mB u) (T_ : hT h' = hT h) : TD h u h' u' G w := ⟨cd_, md_, I_, g_, N_, mi_, ma_, A_, B_, mb_, T_⟩
theorem TD.of {h h' : PH} {u u' : MS} {G : Gh} {w : Nat} (S : SX h G) (X : Q h h') (M : W' u u') : TD h u h' u' G w := ⟨fun zz hz => X.cd S hz, fun zz _ => M.md zz, X.I, fun f hf _ => X.g f hf, X.N, M.I, fun k i _ _ => by rw [M.A], fun a i _ => by rw [X.A], X.B, M.B, X.T⟩
theorem TD.trans {h h1 h2 : PH} {u u1 u2 : MS} {G : Gh} {w : Nat} (X : TD h u h1 u1 G w) (Y : TD h1 u1 h2 u2 G w) : TD h u h2 u2 G w := ⟨fun zz hz => CD.trans hz (X.cd zz hz) (Y.cd zz hz), fun zz hz => (X.md zz hz).trans (Y.md zz hz), fun f a q => (Y.I f a q).trans (X.I f a q), fun f q1 q2 => (Y.g f q1 q2).trans (X.g f q1 q2), Y.N.trans X.N, fun k q => (Y.mi k q).trans (X.mi k q), fun k i q1 q2 => (Y.ma k i q1 q2).trans (X.ma k i q1 q2), fun a i q => (Y.A a i q).trans (X.A a i q), Y.B.trans X.B, Y.mb.trans X.mb, Y.T.trans X.T⟩
/-- the variables of the rule that is read: v of them, the reference's rule w -/
def VS (h : PH) (u : MS) (w : Nat) (v : Nat) : Prop := (v ≤ 3) ∧ (w < 30) ∧ (hI h 516 23 = nI v) ∧ (mI u 65 = nI w) ∧ (mA u 42 w = nI v) ∧ (∀ i, i < v → hA h 29 i = mA u 43 (3 * w + i))
theorem VS.v3 {h : PH} {u : MS} {w : Nat} {v : Nat} (X_ : VS h u w v) : v ≤ 3 := X_.1
theorem VS.w3 {h : PH} {u : MS} {w : Nat} {v : Nat} (X_ : VS h u w v) : w < 30 := X_.2.1
theorem VS.vc {h : PH} {u : MS} {w : Nat} {v : Nat} (X_ : VS h u w v) : hI h 516 23 = nI v := X_.2.2.1
theorem VS.m65 {h : PH} {u : MS} {w : Nat} {v : Nat} (X_ : VS h u w v) : mI u 65 = nI w := X_.2.2.2.1
theorem VS.m42 {h : PH} {u : MS} {w : Nat} {v : Nat} (X_ : VS h u w v) : mA u 42 w = nI v := X_.2.2.2.2.1
theorem VS.vl {h : PH} {u : MS} {w : Nat} {v : Nat} (X_ : VS h u w v) : ∀ i, i < v → hA h 29 i = mA u 43 (3 * w + i) := X_.2.2.2.2.2
theorem VS.mk {h : PH} {u : MS} {w : Nat} {v : Nat} (v3_ : v ≤ 3) (w3_ : w < 30) (vc_ : hI h 516 23 = nI v) (m65_ : mI u 65 = nI w) (m42_ : mA u 42 w = nI v) (vl_ : ∀ i, i < v → hA h 29 i = mA u 43 (3 * w + i)) : VS h u w v := ⟨v3_, w3_, vc_, m65_, m42_, vl_⟩
theorem VS.q {h h' : PH} {u u' : MS} {w v : Nat} (K : VS h u w v) (X : Q h h') (M : W' u u') : VS h' u' w v := ⟨K.v3, K.w3, (X.g 516 (by omega)).trans K.vc, (M.I 65 (by omega)).trans K.m65, by rw [M.A]; exact K.m42, fun i hi => by rw [X.A, M.A]; exact K.vl i hi⟩
section TM
variable {h : PH} {u : MS} {G : Gh} {z : Sz} {L n t w v p : Nat} {D : Nat → Nat × Nat × Nat × List Nat}
theorem TD.new (S : SX h G) {w v : Nat} (x : Int32) (y : Int32) : TD h u (sI (sA h 29 v x) 516 23 (nI (v + 1))) (mSA (mSA u 43 (3 * w + v) x) 42 w y) G w := by
  refine ⟨fun zz hz => CD.trans hz (CD.xA S (.inr (.inl (by rw [S.o29]))) (ne_ow S.o29 S.okd (by omega)) (ne_ow S.o29 S.ost (by omega)) (by unfold kC; omega) (fun q => by have := ne_ow S.o29 S.opg (by omega); exact this q.1)) (CD.s23 (h := sA h 29 v x) S hz 516 _), fun zz hz => ((MD.refl u zz).sA (by omega) (by unfold kM; omega)).sA (by omega) (by unfold kM; omega), fun f a q => ?_, fun f _ q => ?_, rfl, fun _ _ => rfl, fun k i q1 q2 => ?_, fun a i q => ?_, rfl, rfl, rfl⟩
  · simp only [z_hI_sI, z_hL_sI, z_hR_sI, z_hA_sI, z_hB_sI, z_hC_sI, z_hT_sI, z_hN_sI, z_hZ_sI, z_hI_sL, z_hL_sL, z_hR_sL, z_hA_sL, z_hB_sL, z_hC_sL, z_hT_sL, z_hN_sL, z_hZ_sL, z_hI_sR, z_hL_sR, z_hR_sR, z_hA_sR, z_hB_sR, z_hC_sR, z_hT_sR, z_hN_sR, z_hZ_sR, z_hI_sA, z_hL_sA, z_hR_sA, z_hA_sA, z_hB_sA, z_hC_sA, z_hT_sA, z_hN_sA, z_hZ_sA, z_hI_sB, z_hL_sB, z_hR_sB, z_hA_sB, z_hB_sB, z_hC_sB, z_hT_sB, z_hN_sB, z_hZ_sB, z_hI_sC, z_hL_sC, z_hR_sC, z_hA_sC, z_hB_sC, z_hC_sC, z_hT_sC, z_hN_sC, z_hZ_sC, z_hI_sY, z_hL_sY, z_hR_sY, z_hA_sY, z_hB_sY, z_hC_sY, z_hT_sY, z_hN_sY, z_hZ_sY, z_hI_nO, z_hL_nO, z_hR_nO, z_hA_nO, z_hB_nO, z_hC_nO, z_hT_nO, z_hN_nO, z_hZ_nO, z_hI_nA, z_hL_nA, z_hR_nA, z_hA_nA, z_hB_nA, z_hC_nA, z_hT_nA, z_hN_nA, z_hZ_nA]; rw [if_neg (fun e => q e.2)]
  · simp only [z_hI_sI, z_hL_sI, z_hR_sI, z_hA_sI, z_hB_sI, z_hC_sI, z_hT_sI, z_hN_sI, z_hZ_sI, z_hI_sL, z_hL_sL, z_hR_sL, z_hA_sL, z_hB_sL, z_hC_sL, z_hT_sL, z_hN_sL, z_hZ_sL, z_hI_sR, z_hL_sR, z_hR_sR, z_hA_sR, z_hB_sR, z_hC_sR, z_hT_sR, z_hN_sR, z_hZ_sR, z_hI_sA, z_hL_sA, z_hR_sA, z_hA_sA, z_hB_sA, z_hC_sA, z_hT_sA, z_hN_sA, z_hZ_sA, z_hI_sB, z_hL_sB, z_hR_sB, z_hA_sB, z_hB_sB, z_hC_sB, z_hT_sB, z_hN_sB, z_hZ_sB, z_hI_sC, z_hL_sC, z_hR_sC, z_hA_sC, z_hB_sC, z_hC_sC, z_hT_sC, z_hN_sC, z_hZ_sC, z_hI_sY, z_hL_sY, z_hR_sY, z_hA_sY, z_hB_sY, z_hC_sY, z_hT_sY, z_hN_sY, z_hZ_sY, z_hI_nO, z_hL_nO, z_hR_nO, z_hA_nO, z_hB_nO, z_hC_nO, z_hT_nO, z_hN_nO, z_hZ_nO, z_hI_nA, z_hL_nA, z_hR_nA, z_hA_nA, z_hB_nA, z_hC_nA, z_hT_nA, z_hN_nA, z_hZ_nA]; rw [if_neg (fun e => q e.1)]
  · simp only [z_mI_mSI, z_mL_mSI, z_mA_mSI, z_mB_mSI, z_mI_mSL, z_mL_mSL, z_mA_mSL, z_mB_mSL, z_mI_mSA, z_mL_mSA, z_mA_mSA, z_mB_mSA, z_mI_mSB, z_mL_mSB, z_mA_mSB, z_mB_mSB]; rw [if_neg (fun e => q1 e.1), if_neg (fun e => q2 e.1)]
  · simp only [z_hI_sI, z_hL_sI, z_hR_sI, z_hA_sI, z_hB_sI, z_hC_sI, z_hT_sI, z_hN_sI, z_hZ_sI, z_hI_sL, z_hL_sL, z_hR_sL, z_hA_sL, z_hB_sL, z_hC_sL, z_hT_sL, z_hN_sL, z_hZ_sL, z_hI_sR, z_hL_sR, z_hR_sR, z_hA_sR, z_hB_sR, z_hC_sR, z_hT_sR, z_hN_sR, z_hZ_sR, z_hI_sA, z_hL_sA, z_hR_sA, z_hA_sA, z_hB_sA, z_hC_sA, z_hT_sA, z_hN_sA, z_hZ_sA, z_hI_sB, z_hL_sB, z_hR_sB, z_hA_sB, z_hB_sB, z_hC_sB, z_hT_sB, z_hN_sB, z_hZ_sB, z_hI_sC, z_hL_sC, z_hR_sC, z_hA_sC, z_hB_sC, z_hC_sC, z_hT_sC, z_hN_sC, z_hZ_sC, z_hI_sY, z_hL_sY, z_hR_sY, z_hA_sY, z_hB_sY, z_hC_sY, z_hT_sY, z_hN_sY, z_hZ_sY, z_hI_nO, z_hL_nO, z_hR_nO, z_hA_nO, z_hB_nO, z_hC_nO, z_hT_nO, z_hN_nO, z_hZ_nO, z_hI_nA, z_hL_nA, z_hR_nA, z_hA_nA, z_hB_nA, z_hC_nA, z_hT_nA, z_hN_nA, z_hZ_nA]; rw [if_neg (fun e => q e.1)]
theorem PI.td {h' : PH} {u' : MS} (I : PI h u G z L n D) (T : TD h u h' u' G w) (hw : z.nr ≤ w) : PI h' u' G z L n D := I.d (T.cd z I.kr.nrG) (T.md z hw) (by rw [T.N]; exact I.rm.p3)
/-- a variable -/
theorem termV_v (I : PI h u G z L n D) (V : Liv h u D n t) (F : FL h u) (K : VS h u w v) (hw : z.nr ≤ w) (e : (D t).2.1 = 2) : ∃ h' u' r r', fX4_term h 23 = some (h', r) ∧ fX12_term u = some (u', r') ∧ TD h u h' u' G w ∧ ((∃ v' j, v ≤ v' ∧ j < v' ∧ Liv h' u' D n (t + 1) ∧ FL h' u' ∧ FM u u' ∧ VS h' u' w v' ∧ r = nI (5 + j) ∧ r' = nI j) ∨ Ded h' u') := by
  have S := I.sx
  have lt := V.lt
  have n2 := I.ts.n2
  have v3 := K.v3
  have w3 := K.w3
  obtain ⟨t1, t2, t3, t4, t5, t6, t7, t8, t9, t10⟩ := I.ts.tk t lt
  have vb := t10 e
  have m7 := t6 (.inl e)
  have x261 : hI h 521 23 = 261 := by rw [V.kd, e]; rfl
  have ex : Int64.toInt32 (hL h 523 23) = nI (D t).2.2.1 := by
    rw [V.vl]
    unfold vD
    rw [if_neg (by omega), nL_32]
  have c261 : cK 2 = 261 := rfl
  have is2 : fX12_is u 2 = some 1 := by
    have := is_v I V (k := 2) (by omega)
    rw [if_pos e] at this
    exact this
  have vc := var_c S v3 K.vc (nI (D t).2.2.1)
  have vm := var_m w3 K.m65 K.m42 v3 V.t0 (show t < 1203 by omega)
  rw [m7] at vm
  have ef : fd (fun j => decide (mA u 43 (3 * w + j) = nI (D t).2.2.1)) v 0 = fd (fun j => decide (hA h 29 j = nI (D t).2.2.1)) v 0 := fd_c v 0 fun j _ hj => by rw [K.vl j (by omega)]
  rw [ef] at vm
  have hC : fX4_term h 23 = oB2 (fX4_variableNumber h 23 (nI (D t).2.2.1)) (fun h24 r23 => if r23 = (-1) then (oC (decide (hT h24 23 = 5)) (oB (fX4_stopAt h24 23 2) (fun h28 => fX4_term_35 h28 23 r23))) else (fX4_term_35 h24 23 r23)) := by
    unfold fX4_term fX4_term_0
    rw [oC_d S.t23, oL_v, if_pos x261, ex]
  have hM : fX12_term u = oB2 (fX12_variable u) (fun h14 r13 => some (h14, r13)) := by
    unfold fX12_term fX12_term_0
    rw [is2, oB_v, if_neg (by decide)]
  have e35 : ∀ {hh h1 : PH} {r : Int32} (j : Nat), j < 3 → SX hh G → fX4_expect hh 23 261 = some (h1, r) → fX4_term_35 hh 23 (nI j) = some (h1, nI (5 + j)) := by
    intro hh h1 r j hj Sh eh
    unfold fX4_term_35
    have : (if 0 < nI j then nI j else 0) = nI j := by
      by_cases q : j = 0
      · rw [q]; rfl
      · rw [if_pos (show (0 : Int32) < nI j from nI_lt (a := 0) (by omega) (by omega))]
    rw [oC_d Sh.t23, eh, oB2_v, this, show (5 : Int32) = nI 5 from rfl, nI_add]
  rcases fd_r (fun j => decide (hA h 29 j = nI (D t).2.2.1)) v 0 with q | ⟨j, _, j2, q, _⟩
  · rw [q, if_pos rfl] at vc vm
    by_cases c3 : v < 3
    · rw [if_pos c3] at vc vm
      have T1 : TD h u (sI (sA h 29 v (nI (D t).2.2.1)) 516 23 (nI (v + 1))) (mSA (mSA u 43 (3 * w + v) (nI (D t).2.2.1)) 42 w (nI (v + 1))) G w := TD.new S _ _
      have I1 := I.td T1 hw
      have S1 := I1.sx
      have V1 : Liv (sI (sA h 29 v (nI (D t).2.2.1)) 516 23 (nI (v + 1))) (mSA (mSA u 43 (3 * w + v) (nI (D t).2.2.1)) 42 w (nI (v + 1))) D n t := by
        refine ⟨lt, ?_, ?_, ?_, V.vl, ?_, V.f0, V.t0⟩ <;> simp only [z_hI_sI, z_hL_sI, z_hR_sI, z_hA_sI, z_hB_sI, z_hC_sI, z_hT_sI, z_hN_sI, z_hZ_sI, z_hI_sL, z_hL_sL, z_hR_sL, z_hA_sL, z_hB_sL, z_hC_sL, z_hT_sL, z_hN_sL, z_hZ_sL, z_hI_sR, z_hL_sR, z_hR_sR, z_hA_sR, z_hB_sR, z_hC_sR, z_hT_sR, z_hN_sR, z_hZ_sR, z_hI_sA, z_hL_sA, z_hR_sA, z_hA_sA, z_hB_sA, z_hC_sA, z_hT_sA, z_hN_sA, z_hZ_sA, z_hI_sB, z_hL_sB, z_hR_sB, z_hA_sB, z_hB_sB, z_hC_sB, z_hT_sB, z_hN_sB, z_hZ_sB, z_hI_sC, z_hL_sC, z_hR_sC, z_hA_sC, z_hB_sC, z_hC_sC, z_hT_sC, z_hN_sC, z_hZ_sC, z_hI_sY, z_hL_sY, z_hR_sY, z_hA_sY, z_hB_sY, z_hC_sY, z_hT_sY, z_hN_sY, z_hZ_sY, z_hI_nO, z_hL_nO, z_hR_nO, z_hA_nO, z_hB_nO, z_hC_nO, z_hT_nO, z_hN_nO, z_hZ_nO, z_hI_nA, z_hL_nA, z_hR_nA, z_hA_nA, z_hB_nA, z_hC_nA, z_hT_nA, z_hN_nA, z_hZ_nA, if_true, if_false, and_false, false_and, and_true, true_and, and_self, decide_true, decide_false, reduceCtorEq, not_false_eq_true, not_true_eq_false, Nat.reduceEqDiff, Nat.reduceAdd, Nat.reduceMul, Nat.add_zero, Nat.zero_add]
        · exact V.at_
        · exact V.kd
        · exact V.pl
        · exact V.st
      have F1 : FL (sI (sA h 29 v (nI (D t).2.2.1)) 516 23 (nI (v + 1))) (mSA (mSA u 43 (3 * w + v) (nI (D t).2.2.1)) 42 w (nI (v + 1))) := F.fr (by simp only [z_hI_sI, z_hL_sI, z_hR_sI, z_hA_sI, z_hB_sI, z_hC_sI, z_hT_sI, z_hN_sI, z_hZ_sI, z_hI_sL, z_hL_sL, z_hR_sL, z_hA_sL, z_hB_sL, z_hC_sL, z_hT_sL, z_hN_sL, z_hZ_sL, z_hI_sR, z_hL_sR, z_hR_sR, z_hA_sR, z_hB_sR, z_hC_sR, z_hT_sR, z_hN_sR, z_hZ_sR, z_hI_sA, z_hL_sA, z_hR_sA, z_hA_sA, z_hB_sA, z_hC_sA, z_hT_sA, z_hN_sA, z_hZ_sA, z_hI_sB, z_hL_sB, z_hR_sB, z_hA_sB, z_hB_sB, z_hC_sB, z_hT_sB, z_hN_sB, z_hZ_sB, z_hI_sC, z_hL_sC, z_hR_sC, z_hA_sC, z_hB_sC, z_hC_sC, z_hT_sC, z_hN_sC, z_hZ_sC, z_hI_sY, z_hL_sY, z_hR_sY, z_hA_sY, z_hB_sY, z_hC_sY, z_hT_sY, z_hN_sY, z_hZ_sY, z_hI_nO, z_hL_nO, z_hR_nO, z_hA_nO, z_hB_nO, z_hC_nO, z_hT_nO, z_hN_nO, z_hZ_nO, z_hI_nA, z_hL_nA, z_hR_nA, z_hA_nA, z_hB_nA, z_hC_nA, z_hT_nA, z_hN_nA, z_hZ_nA, if_true, if_false, and_false, false_and, and_true, true_and, and_self, decide_true, decide_false, reduceCtorEq, not_false_eq_true, not_true_eq_false, Nat.reduceEqDiff, Nat.reduceAdd, Nat.reduceMul, Nat.add_zero, Nat.zero_add]) (by simp only [z_hI_sI, z_hL_sI, z_hR_sI, z_hA_sI, z_hB_sI, z_hC_sI, z_hT_sI, z_hN_sI, z_hZ_sI, z_hI_sL, z_hL_sL, z_hR_sL, z_hA_sL, z_hB_sL, z_hC_sL, z_hT_sL, z_hN_sL, z_hZ_sL, z_hI_sR, z_hL_sR, z_hR_sR, z_hA_sR, z_hB_sR, z_hC_sR, z_hT_sR, z_hN_sR, z_hZ_sR, z_hI_sA, z_hL_sA, z_hR_sA, z_hA_sA, z_hB_sA, z_hC_sA, z_hT_sA, z_hN_sA, z_hZ_sA, z_hI_sB, z_hL_sB, z_hR_sB, z_hA_sB, z_hB_sB, z_hC_sB, z_hT_sB, z_hN_sB, z_hZ_sB, z_hI_sC, z_hL_sC, z_hR_sC, z_hA_sC, z_hB_sC, z_hC_sC, z_hT_sC, z_hN_sC, z_hZ_sC, z_hI_sY, z_hL_sY, z_hR_sY, z_hA_sY, z_hB_sY, z_hC_sY, z_hT_sY, z_hN_sY, z_hZ_sY, z_hI_nO, z_hL_nO, z_hR_nO, z_hA_nO, z_hB_nO, z_hC_nO, z_hT_nO, z_hN_nO, z_hZ_nO, z_hI_nA, z_hL_nA, z_hR_nA, z_hA_nA, z_hB_nA, z_hC_nA, z_hT_nA, z_hN_nA, z_hZ_nA, if_true, if_false, and_false, false_and, and_true, true_and, and_self, decide_true, decide_false, reduceCtorEq, not_false_eq_true, not_true_eq_false, Nat.reduceEqDiff, Nat.reduceAdd, Nat.reduceMul, Nat.add_zero, Nat.zero_add]) rfl rfl
      have K1 : VS (sI (sA h 29 v (nI (D t).2.2.1)) 516 23 (nI (v + 1))) (mSA (mSA u 43 (3 * w + v) (nI (D t).2.2.1)) 42 w (nI (v + 1))) w (v + 1) := by
        refine ⟨by omega, w3, by simp only [z_hI_sI, z_hL_sI, z_hR_sI, z_hA_sI, z_hB_sI, z_hC_sI, z_hT_sI, z_hN_sI, z_hZ_sI, z_hI_sL, z_hL_sL, z_hR_sL, z_hA_sL, z_hB_sL, z_hC_sL, z_hT_sL, z_hN_sL, z_hZ_sL, z_hI_sR, z_hL_sR, z_hR_sR, z_hA_sR, z_hB_sR, z_hC_sR, z_hT_sR, z_hN_sR, z_hZ_sR, z_hI_sA, z_hL_sA, z_hR_sA, z_hA_sA, z_hB_sA, z_hC_sA, z_hT_sA, z_hN_sA, z_hZ_sA, z_hI_sB, z_hL_sB, z_hR_sB, z_hA_sB, z_hB_sB, z_hC_sB, z_hT_sB, z_hN_sB, z_hZ_sB, z_hI_sC, z_hL_sC, z_hR_sC, z_hA_sC, z_hB_sC, z_hC_sC, z_hT_sC, z_hN_sC, z_hZ_sC, z_hI_sY, z_hL_sY, z_hR_sY, z_hA_sY, z_hB_sY, z_hC_sY, z_hT_sY, z_hN_sY, z_hZ_sY, z_hI_nO, z_hL_nO, z_hR_nO, z_hA_nO, z_hB_nO, z_hC_nO, z_hT_nO, z_hN_nO, z_hZ_nO, z_hI_nA, z_hL_nA, z_hR_nA, z_hA_nA, z_hB_nA, z_hC_nA, z_hT_nA, z_hN_nA, z_hZ_nA, if_true, if_false, and_false, false_and, and_true, true_and, and_self, decide_true, decide_false, reduceCtorEq, not_false_eq_true, not_true_eq_false, Nat.reduceEqDiff, Nat.reduceAdd, Nat.reduceMul, Nat.add_zero, Nat.zero_add], K.m65, by simp only [z_mI_mSI, z_mL_mSI, z_mA_mSI, z_mB_mSI, z_mI_mSL, z_mL_mSL, z_mA_mSL, z_mB_mSL, z_mI_mSA, z_mL_mSA, z_mA_mSA, z_mB_mSA, z_mI_mSB, z_mL_mSB, z_mA_mSB, z_mB_mSB, if_true, if_false, and_false, false_and, and_true, true_and, and_self, decide_true, decide_false, reduceCtorEq, not_false_eq_true, not_true_eq_false, Nat.reduceEqDiff, Nat.reduceAdd, Nat.reduceMul, Nat.add_zero, Nat.zero_add], fun i hi => ?_⟩
        simp only [z_hI_sI, z_hL_sI, z_hR_sI, z_hA_sI, z_hB_sI, z_hC_sI, z_hT_sI, z_hN_sI, z_hZ_sI, z_hI_sL, z_hL_sL, z_hR_sL, z_hA_sL, z_hB_sL, z_hC_sL, z_hT_sL, z_hN_sL, z_hZ_sL, z_hI_sR, z_hL_sR, z_hR_sR, z_hA_sR, z_hB_sR, z_hC_sR, z_hT_sR, z_hN_sR, z_hZ_sR, z_hI_sA, z_hL_sA, z_hR_sA, z_hA_sA, z_hB_sA, z_hC_sA, z_hT_sA, z_hN_sA, z_hZ_sA, z_hI_sB, z_hL_sB, z_hR_sB, z_hA_sB, z_hB_sB, z_hC_sB, z_hT_sB, z_hN_sB, z_hZ_sB, z_hI_sC, z_hL_sC, z_hR_sC, z_hA_sC, z_hB_sC, z_hC_sC, z_hT_sC, z_hN_sC, z_hZ_sC, z_hI_sY, z_hL_sY, z_hR_sY, z_hA_sY, z_hB_sY, z_hC_sY, z_hT_sY, z_hN_sY, z_hZ_sY, z_hI_nO, z_hL_nO, z_hR_nO, z_hA_nO, z_hB_nO, z_hC_nO, z_hT_nO, z_hN_nO, z_hZ_nO, z_hI_nA, z_hL_nA, z_hR_nA, z_hA_nA, z_hB_nA, z_hC_nA, z_hT_nA, z_hN_nA, z_hZ_nA, z_mI_mSI, z_mL_mSI, z_mA_mSI, z_mB_mSI, z_mI_mSL, z_mL_mSL, z_mA_mSL, z_mB_mSL, z_mI_mSA, z_mL_mSA, z_mA_mSA, z_mB_mSA, z_mI_mSB, z_mL_mSB, z_mA_mSB, z_mB_mSB, if_true, if_false, and_false, false_and, and_true, true_and, and_self, decide_true, decide_false, reduceCtorEq, not_false_eq_true, not_true_eq_false, Nat.reduceEqDiff, Nat.reduceAdd, Nat.reduceMul, Nat.add_zero, Nat.zero_add]
        by_cases qi : i = v
        · rw [if_pos qi, if_pos (by omega)]
        · rw [if_neg qi, if_neg (by omega)]
          exact K.vl i (by omega)
      obtain ⟨h2, u2, r2, e1, e2, Q2, W2, o2⟩ := pass_v I1 V1 F1 (kw := 2) (by omega) (by omega) (by omega) e
      rw [c261] at e1
      have K2 := K1.q Q2 W2
      refine ⟨h2, u2, nI (5 + v), nI v, ?_, ?_, T1.trans (TD.of S1 Q2 W2), ?_⟩
      · rw [hC, vc, oB2_v, if_neg (nI_m1 (by omega)), e35 v c3 S1 e1]
      · have sb : nI (v + 1) - 1 = nI v := by rw [show (1 : Int32) = nI 1 from rfl, nI_sub (by omega)]; rfl
        rw [hM, vm, e2, oB_v, K2.m65, oC_t (ix_n (show w < mlen 42 from w3) (by decide)), nI_clamp (show w < 2147483648 by omega), K2.m42, sb, oB2_v]
      · rcases o2 with ⟨_, c4, V2, F2, M2⟩ | ⟨_, X2⟩
        · exact .inl ⟨v + 1, v, by omega, by omega, V2, F2, fun q hq => M2 q hq, K2, rfl, rfl⟩
        · exact .inr X2
    · rw [if_neg c3] at vc vm
      have X := Ded.of V (by omega) (f := 2) (.inr rfl)
      have S1 : SX (stH h 2) G := (Q.st h 2).sx S
      have ed := expect_d S1 X (k := 2) (by omega) (by omega)
      rw [c261] at ed
      refine ⟨stH h 2, _, 5 + (if 0 < (-1 : Int32) then -1 else 0), -1, ?_, ?_, TD.of S (Q.st h 2) (W'.fa u 2 (nI (D t).1)), .inr X⟩
      · rw [hC, vc, oB2_v, if_pos rfl, oC_d S.t23, stopAt_v I V, oB_v]
        unfold fX4_term_35
        rw [oC_d S1.t23, ed, oB2_v]
      · rw [hM, vm, fail_v I V, oB_v, oB2_v]
  · rw [q, if_neg (nI_m1 (by omega))] at vc vm
    obtain ⟨h2, u2, r2, e1, e2, Q2, W2, o2⟩ := pass_v I V F (kw := 2) (by omega) (by omega) (by omega) e
    rw [c261] at e1
    refine ⟨h2, u2, nI (5 + j), nI j, ?_, ?_, TD.of S Q2 W2, ?_⟩
    · rw [hC, vc, oB2_v, if_neg (nI_m1 (by omega)), e35 j (by omega) S e1]
    · rw [hM, vm, e2, oB_v, oB2_v]
    · rcases o2 with ⟨_, c4, V2, F2, M2⟩ | ⟨_, X2⟩
      · exact .inl ⟨v, j, Nat.le_refl _, by omega, V2, F2, M2, K.q Q2 W2, rfl, rfl⟩
      · exact .inr X2
end TM
