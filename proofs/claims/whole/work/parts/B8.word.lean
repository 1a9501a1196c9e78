section WD
variable {h : PH} {u : MS} {G : Gh} {z c : Sz} {L n t : Nat} {D : Nat → Nat × Nat × Nat × List Nat}
/-- a number of at most hi -/
theorem whole_v (I : PI h u G z L n D) (V : Liv h u D n t) (F : FL h u) {hi : Nat} (h2 : hi ≤ 999999) : ∃ h' u' r, fX4_integer h 23 0 (nI hi) = some (h', r) ∧ fX12_whole u (nI hi) = some (u', nI t) ∧ Q h h' ∧ W' u u' ∧ ((∃ v, v ≤ 999999 ∧ mA u 7 t = nI v ∧ t < 1200 ∧ Liv h' u' D n (t + 1) ∧ FL h' u' ∧ FM u u' ∧ ((v ≤ hi ∧ r = nI v) ∨ (hi < v ∧ r = 0 ∧ FP u' (D t).1))) ∨ (Ded h' u' ∧ r = 0)) := by
  have n2 := I.ts.n2
  have lt := V.lt
  obtain ⟨h', u', Q1, W1, o⟩ := int_v I V F (lo := 0) h2 (by omega)
  have i7 : ix (nI t) (mlen 7) = true := ix_n (show t < mlen 7 by show t < 1203; omega) (by decide)
  rcases o with ⟨v, c1, c2, v9, m7, ev, V', F', M', o1, o2⟩ | ⟨X, e1, e2⟩
  · have le : nI v ≤ nI hi ↔ v ≤ hi := nI_leI (by omega) (by omega)
    by_cases cr : v ≤ hi
    · have e1 : fX4_integer h 23 0 (nI hi) = some (h', nI v) := by
        rcases o1 with ⟨_, _, q⟩ | ⟨q, _⟩
        · exact q
        · omega
      have e2 : fX12_must u 3 = some u' := by
        rcases o2 with ⟨_, _, q⟩ | ⟨q, _⟩
        · exact q
        · omega
      refine ⟨h', u', nI v, e1, ?_, Q1, W1, .inl ⟨v, v9, m7, c2, V', F', M', .inl ⟨cr, rfl⟩⟩⟩
      unfold fX12_whole fX12_whole_0
      rw [oL_v, e2, oB_v, if_pos V'.f0, V.t0, oC_t i7, nI_clamp (show t < 2147483648 by omega), W1.A, m7, if_pos (le.mpr cr)]
    · have e1 : FP u' (D t).1 ∧ fX4_integer h 23 0 (nI hi) = some (h', nI 0) := by
        rcases o1 with ⟨_, q, _⟩ | ⟨_, q⟩
        · omega
        · exact q
      have e2 : oB (fX12_must u 3) (fun w => fX12_wrong w 5 (nI t)) = some u' := by
        rcases o2 with ⟨_, q, _⟩ | ⟨_, q⟩
        · omega
        · exact q
      obtain ⟨w, w1, w2⟩ := oB_inv e2
      have m0 : fX12_must u (nI 3) = some w := w1
      obtain ⟨_, uw, _, _, e4, _, Ww, ow⟩ := want_v I V F (k := 3) (by omega) (by omega) (by omega)
      have ew : uw = w := by rw [m0] at e4; exact (Option.some.inj e4).symm
      subst ew
      have f0 : mI uw 13 = 0 := by
        rcases ow with ⟨_, _, _, Vw, _⟩ | ⟨_, Xw⟩
        · exact Vw.f0
        · -- a stopped reference notes nothing
          exfalso
          have : fX12_wrong uw 5 (nI t) = some uw := by
            unfold fX12_wrong fX12_wrong_0
            rw [oC_t (ix_n (show t < mlen 6 by show t < 1203; omega) (by decide)), oL_v, if_pos Xw.f.2.2]
          rw [this] at w2
          have : uw = u' := Option.some.inj w2
          rw [this] at Xw
          exact Xw.f.1 V'.f0
      refine ⟨h', u', 0, e1.2, ?_, Q1, W1, .inl ⟨v, v9, m7, c2, V', F', M', .inr ⟨by omega, rfl, e1.1⟩⟩⟩
      unfold fX12_whole fX12_whole_0
      rw [oL_v, w1, oB_v, if_pos f0, V.t0, oC_t i7, nI_clamp (show t < 2147483648 by omega), Ww.A, m7, if_neg (fun q => cr (le.mp q)), w2, oB_v]
  · refine ⟨h', u', 0, e1, ?_, Q1, W1, .inr ⟨X, rfl⟩⟩
    unfold fX12_whole fX12_whole_0
    rw [oL_v, e2, oB_v, if_neg X.f.1, V.t0]
theorem whole_d (X : Ded h u) (x : Int32) : fX12_whole u x = some (u, mI u 11) := by
  unfold fX12_whole fX12_whole_0
  rw [oL_v, show (3 : Int32) = 3 from rfl, must_d X, oB_v, if_neg X.f.1]
theorem setPlaces_v (S : SX h G) {s m : Nat} {x : Int32} (sz : hI h 897 8 = nI m) (hs : s < m) (hm : m ≤ 12) : fX1_setPlaces h 5 (nI s) x = some (sA h 16 s x) := by
  simp only [fX1_setPlaces, fX1_setPlaces_0, if_neg (nI_pos (n := s) (show s < 2147483648 by omega)), S.t0, S.t1, S.t3, S.t5, S.t6, S.t8, S.t10, S.t12, S.t14, S.t23, S.t24, S.t7, S.t9, S.t11, S.t13, S.t15, S.t16, S.t17, S.t18, S.t19, S.t20, S.t21, S.t25, S.t29, S.t30, S.t31, S.n7, S.n9, S.n11, S.n13, S.n15, S.n16, S.n17, S.n18, S.n19, S.n20, S.n21, S.n25, S.n29, S.n30, S.n31, S.r1408_0, S.r1409_0, S.r1410_0, S.r1411_0, S.r1412_0, S.r128_5, S.r129_5, S.r130_5, S.r131_5, S.r132_5, S.r133_5, S.r134_5, S.r135_5, S.r136_5, S.r137_5, S.r138_5, S.r512_23, S.r513_23, S.r514_23, S.r515_23, S.r896_6, S.r896_8, S.r896_10, S.r896_12, S.r896_14, S.r1280_24, S.r0_1, S.ttk, S.otk, S.r0_3, S.twk, S.owk, S.r141_5, S.tpg, S.opg, S.r1281_24, S.tkd, S.okd, S.r1282_24, S.tst, S.ost, S.r1283_24, S.tvl, S.ovl, S.o0, S.o1, S.o3, S.o31, S.o5, S.o6, S.o7, S.o8, S.o9, S.o10, S.o11, S.o12, S.o13, S.o14, S.o15, S.o16, S.o17, S.o18, S.o19, S.o20, S.o21, S.o23, S.o24, S.o25, S.o29, S.o30, oN_v, oC_v, oB_v, oB2_v, oB3_v, oB4_v, oK3_v, oK4_v, oL_v, if_true, if_false, and_false, false_and, and_true, true_and, and_self, decide_true, decide_false, reduceCtorEq, not_false_eq_true, not_true_eq_false, Nat.reduceEqDiff, Nat.reduceAdd, Nat.reduceMul, Nat.add_zero, Nat.zero_add, sz, if_neg (nI_ge hs (show m < 2147483648 by omega)), oC_t (ix_n (show s < 12 by omega) (by omega)), nI_clamp (show s < 2147483648 by omega)]
theorem setPlaces_n (x : Int32) : fX1_setPlaces h 5 (-1) x = some h := by
  unfold fX1_setPlaces fX1_setPlaces_0
  rw [if_pos (by decide)]
end WD
