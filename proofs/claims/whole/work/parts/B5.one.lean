section ONE
variable {h : PH} {u : MS} {G : Gh} {z c : Sz} {L n t o a k s m : Nat} {D : Nat → Nat × Nat × Nat × List Nat}
/-- the token that stands here, passed -/
theorem pass_v (I : PI h u G z L n D) (V : Liv h u D n t) (F : FL h u) {kw : Nat} (hk : kw < 38) (k0 : kw ≠ 0) (k4 : kw ≠ 4) (e : (D t).2.1 = kw) : ∃ h' u' r, fX4_expect h 23 (cK kw) = some (h', r) ∧ fX12_next u = some u' ∧ Q h h' ∧ W' u u' ∧ ((r = 1 ∧ t < 1200 ∧ Liv h' u' D n (t + 1) ∧ FL h' u' ∧ FM u u') ∨ (r = 0 ∧ Ded h' u')) := by
  obtain ⟨h', u', r, e1, e2, q, w, oo⟩ := want_v I V F hk k0 k4
  have e3 : fX12_next u = some u' := by
    unfold fX12_must fX12_must_0 at e2
    rw [is_v I V hk, if_pos e, oB_v, if_neg (by decide), next_m I V, oB_v] at e2
    rw [next_m I V]
    exact e2
  refine ⟨h', u', r, e1, e3, q, w, ?_⟩
  rcases oo with ⟨r1, _, c2, V', F', M'⟩ | ⟨r0, X⟩
  · exact .inl ⟨r1, c2, V', F', M'⟩
  · exact .inr ⟨r0, X⟩
theorem Liv.add {h1 : PH} {u1 : MS} (V : Liv h1 u1 D n t) (x : Int64) (v : Int32) (y : Int64) (ho : o ≠ 23) : Liv (sI (sB h1 a s x) 897 o v) (mSB u1 k s y) D n t :=
  V.fr (fun f hf => by simp only [z_hI_sI, z_hL_sI, z_hR_sI, z_hA_sI, z_hB_sI, z_hC_sI, z_hT_sI, z_hN_sI, z_hZ_sI, z_hI_sL, z_hL_sL, z_hR_sL, z_hA_sL, z_hB_sL, z_hC_sL, z_hT_sL, z_hN_sL, z_hZ_sL, z_hI_sR, z_hL_sR, z_hR_sR, z_hA_sR, z_hB_sR, z_hC_sR, z_hT_sR, z_hN_sR, z_hZ_sR, z_hI_sA, z_hL_sA, z_hR_sA, z_hA_sA, z_hB_sA, z_hC_sA, z_hT_sA, z_hN_sA, z_hZ_sA, z_hI_sB, z_hL_sB, z_hR_sB, z_hA_sB, z_hB_sB, z_hC_sB, z_hT_sB, z_hN_sB, z_hZ_sB, z_hI_sC, z_hL_sC, z_hR_sC, z_hA_sC, z_hB_sC, z_hC_sC, z_hT_sC, z_hN_sC, z_hZ_sC, z_hI_sY, z_hL_sY, z_hR_sY, z_hA_sY, z_hB_sY, z_hC_sY, z_hT_sY, z_hN_sY, z_hZ_sY, z_hI_nO, z_hL_nO, z_hR_nO, z_hA_nO, z_hB_nO, z_hC_nO, z_hT_nO, z_hN_nO, z_hZ_nO, z_hI_nA, z_hL_nA, z_hR_nA, z_hA_nA, z_hB_nA, z_hC_nA, z_hT_nA, z_hN_nA, z_hZ_nA]; rw [if_neg (fun q => ho q.2.symm)]) rfl rfl rfl
theorem FL.add {h1 : PH} {u1 : MS} (F : FL h1 u1) (x : Int64) (v : Int32) (y : Int64) (ho : o ≠ 23) : FL (sI (sB h1 a s x) 897 o v) (mSB u1 k s y) :=
  F.fr (by simp only [z_hI_sI, z_hL_sI, z_hR_sI, z_hA_sI, z_hB_sI, z_hC_sI, z_hT_sI, z_hN_sI, z_hZ_sI, z_hI_sL, z_hL_sL, z_hR_sL, z_hA_sL, z_hB_sL, z_hC_sL, z_hT_sL, z_hN_sL, z_hZ_sL, z_hI_sR, z_hL_sR, z_hR_sR, z_hA_sR, z_hB_sR, z_hC_sR, z_hT_sR, z_hN_sR, z_hZ_sR, z_hI_sA, z_hL_sA, z_hR_sA, z_hA_sA, z_hB_sA, z_hC_sA, z_hT_sA, z_hN_sA, z_hZ_sA, z_hI_sB, z_hL_sB, z_hR_sB, z_hA_sB, z_hB_sB, z_hC_sB, z_hT_sB, z_hN_sB, z_hZ_sB, z_hI_sC, z_hL_sC, z_hR_sC, z_hA_sC, z_hB_sC, z_hC_sC, z_hT_sC, z_hN_sC, z_hZ_sC, z_hI_sY, z_hL_sY, z_hR_sY, z_hA_sY, z_hB_sY, z_hC_sY, z_hT_sY, z_hN_sY, z_hZ_sY, z_hI_nO, z_hL_nO, z_hR_nO, z_hA_nO, z_hB_nO, z_hC_nO, z_hT_nO, z_hN_nO, z_hZ_nO, z_hI_nA, z_hL_nA, z_hR_nA, z_hA_nA, z_hB_nA, z_hC_nA, z_hT_nA, z_hN_nA, z_hZ_nA, if_true, if_false, and_false, false_and, and_true, true_and, and_self, decide_true, decide_false, reduceCtorEq, not_false_eq_true, not_true_eq_false, Nat.reduceEqDiff, Nat.reduceAdd, Nat.reduceMul, Nat.add_zero, Nat.zero_add]) (by simp only [z_hI_sI, z_hL_sI, z_hR_sI, z_hA_sI, z_hB_sI, z_hC_sI, z_hT_sI, z_hN_sI, z_hZ_sI, z_hI_sL, z_hL_sL, z_hR_sL, z_hA_sL, z_hB_sL, z_hC_sL, z_hT_sL, z_hN_sL, z_hZ_sL, z_hI_sR, z_hL_sR, z_hR_sR, z_hA_sR, z_hB_sR, z_hC_sR, z_hT_sR, z_hN_sR, z_hZ_sR, z_hI_sA, z_hL_sA, z_hR_sA, z_hA_sA, z_hB_sA, z_hC_sA, z_hT_sA, z_hN_sA, z_hZ_sA, z_hI_sB, z_hL_sB, z_hR_sB, z_hA_sB, z_hB_sB, z_hC_sB, z_hT_sB, z_hN_sB, z_hZ_sB, z_hI_sC, z_hL_sC, z_hR_sC, z_hA_sC, z_hB_sC, z_hC_sC, z_hT_sC, z_hN_sC, z_hZ_sC, z_hI_sY, z_hL_sY, z_hR_sY, z_hA_sY, z_hB_sY, z_hC_sY, z_hT_sY, z_hN_sY, z_hZ_sY, z_hI_nO, z_hL_nO, z_hR_nO, z_hA_nO, z_hB_nO, z_hC_nO, z_hT_nO, z_hN_nO, z_hZ_nO, z_hI_nA, z_hL_nA, z_hR_nA, z_hA_nA, z_hB_nA, z_hC_nA, z_hT_nA, z_hN_nA, z_hZ_nA, if_true, if_false, and_false, false_and, and_true, true_and, and_self, decide_true, decide_false, reduceCtorEq, not_false_eq_true, not_true_eq_false, Nat.reduceEqDiff, Nat.reduceAdd, Nat.reduceMul, Nat.add_zero, Nat.zero_add]) rfl rfl
/-- a word in quotes, a name told, a semicolon -/
theorem one_v (I : PI h u G z L n D) (V : Liv h u D n t) (F : FL h u) (R : RO h u o a k s m) {kw : Nat} (hk : kw < 38) (k0 : kw ≠ 0) (k4 : kw ≠ 4) (e : (D t).2.1 = kw) (oa : (o = 6 ∧ a = 7 ∧ z.np ≤ s) ∨ (o = 8 ∧ a = 9 ∧ z.nw ≤ s) ∨ (o = 10 ∧ a = 11 ∧ z.ns ≤ s) ∨ (o = 12 ∧ a = 13 ∧ z.nl ≤ s) ∨ (o = 14 ∧ a = 15 ∧ z.nr ≤ s)) (hkk : ¬ (k ≤ 10 ∨ k = 17 ∨ 72 ≤ k)) (hm : ¬ kM z k s) :
    ∃ h3 u3, fX4_tellOne h 23 (cK kw) (some o) = some h3 ∧ oB (fX12_next u) (fun w => oB2 (fX12_tells w k (nI s) (nI m)) (fun w2 _ => fX12_must w2 5)) = some u3 ∧ PI h3 u3 G z L n D ∧ hN h3 = hN h ∧ (∀ f, f < 520 → hI h3 f 23 = hI h f 23) ∧ ((∃ h1 u1 x y, NR x y ∧ s < m ∧ t + 2 < 1200 ∧ Q h h1 ∧ W' u u1 ∧ FM u u1 ∧ FL h1 u1 ∧ Q (sI (sB h1 a s x) 897 o (nI (s + 1))) h3 ∧ W' (mSB u1 k s y) u3 ∧ FL h3 u3 ∧ FM (mSB u1 k s y) u3 ∧ Liv h3 u3 D n (t + 3)) ∨ Ded h3 u3) := by
  have S := I.sx
  have nr := I.kr.nrG
  obtain ⟨h0, u0, r0, e1, e2, Q0, W0, o0⟩ := pass_v I V F hk k0 k4 e
  have I0 := I.q Q0 W0
  have S0 := I0.sx
  have c59 : cK 5 = 59 := rfl
  rcases o0 with ⟨r1, c2, V0, F0, M0⟩ | ⟨r1, X0⟩
  · obtain ⟨h1, u1, Q1, W1, o1⟩ := tell_v I0 V0 F0 (R.q Q0 W0)
    have I1 := I0.q Q1 W1
    have S1 := I1.sx
    rcases o1 with ⟨x, y, N, ck, sm, c3, V1, F1, M1, e3, e4⟩ | ⟨X1, e3, e4⟩
    · have I2 : PI (sI (sB h1 a s x) 897 o (nI (s + 1))) (mSB u1 k s y) G z L n D := I1.d (CD.add S1 nr oa) ((MD.refl u1 z).sB hkk hm) I1.rm.p3
      have S2 := I2.sx
      have V2 : Liv (sI (sB h1 a s x) 897 o (nI (s + 1))) (mSB u1 k s y) D n (t + 1 + 1) := V1.add x _ y R.o23
      have F2 : FL (sI (sB h1 a s x) 897 o (nI (s + 1))) (mSB u1 k s y) := F1.add x _ y R.o23
      obtain ⟨h3, u3, r3, e5, e6, Q3, W3, o3⟩ := want_v I2 V2 F2 (k := 5) (by omega) (by omega) (by omega)
      rw [c59] at e5
      have e6' : fX12_must (mSB u1 k s y) 5 = some u3 := e6
      have o23 := R.o23
      refine ⟨h3, u3, ?_, ?_, I2.q Q3 W3, Q3.N.trans (Q1.N.trans Q0.N), fun f hf => (Q3.g f hf).trans (by simp only [z_hI_sI, z_hL_sI, z_hR_sI, z_hA_sI, z_hB_sI, z_hC_sI, z_hT_sI, z_hN_sI, z_hZ_sI, z_hI_sL, z_hL_sL, z_hR_sL, z_hA_sL, z_hB_sL, z_hC_sL, z_hT_sL, z_hN_sL, z_hZ_sL, z_hI_sR, z_hL_sR, z_hR_sR, z_hA_sR, z_hB_sR, z_hC_sR, z_hT_sR, z_hN_sR, z_hZ_sR, z_hI_sA, z_hL_sA, z_hR_sA, z_hA_sA, z_hB_sA, z_hC_sA, z_hT_sA, z_hN_sA, z_hZ_sA, z_hI_sB, z_hL_sB, z_hR_sB, z_hA_sB, z_hB_sB, z_hC_sB, z_hT_sB, z_hN_sB, z_hZ_sB, z_hI_sC, z_hL_sC, z_hR_sC, z_hA_sC, z_hB_sC, z_hC_sC, z_hT_sC, z_hN_sC, z_hZ_sC, z_hI_sY, z_hL_sY, z_hR_sY, z_hA_sY, z_hB_sY, z_hC_sY, z_hT_sY, z_hN_sY, z_hZ_sY, z_hI_nO, z_hL_nO, z_hR_nO, z_hA_nO, z_hB_nO, z_hC_nO, z_hT_nO, z_hN_nO, z_hZ_nO, z_hI_nA, z_hL_nA, z_hR_nA, z_hA_nA, z_hB_nA, z_hC_nA, z_hT_nA, z_hN_nA, z_hZ_nA]; rw [if_neg (fun q => o23 q.2.symm)]; exact (Q1.g f hf).trans (Q0.g f hf)), ?_⟩
      · unfold fX4_tellOne fX4_tellOne_0
        rw [oC_d S.t23, e1, oB2_v, oC_d S0.t23, e3, oB2_v, oC_d S2.t23, e5, oB2_v]
      · rw [e2, oB_v, e4, oB2_v, e6']
      · rcases o3 with ⟨_, _, c5, V3, F3, M3⟩ | ⟨_, X3⟩
        · exact .inl ⟨h1, u1, x, y, N, sm, by omega, Q0.trans Q1, W0.trans W1, M0.trans M1, F1, Q3, W3, F3, M3, V3⟩
        · exact .inr X3
    · have e5 := expect_d S1 X1 (k := 5) (by omega) (by omega)
      rw [c59] at e5
      refine ⟨h1, u1, ?_, ?_, I1, Q1.N.trans Q0.N, fun f hf => (Q1.g f hf).trans (Q0.g f hf), .inr X1⟩
      · unfold fX4_tellOne fX4_tellOne_0
        rw [oC_d S.t23, e1, oB2_v, oC_d S0.t23, e3, oB2_v, oC_d S1.t23, e5, oB2_v]
      · rw [e2, oB_v, e4, oB2_v, must_d X1]
  · have e5 := expect_d S0 X0 (k := 5) (by omega) (by omega)
    rw [c59] at e5
    refine ⟨h0, u0, ?_, ?_, I0, Q0.N, Q0.g, .inr X0⟩
    · unfold fX4_tellOne fX4_tellOne_0
      rw [oC_d S.t23, e1, oB2_v, oC_d S0.t23, tell_dc S0 X0, oB2_v, oC_d S0.t23, e5, oB2_v]
    · rw [e2, oB_v, tell_dm X0 R.kk, oB2_v, must_d X0]
end ONE
