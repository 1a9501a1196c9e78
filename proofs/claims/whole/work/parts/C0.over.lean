def Sz.wO (c : Sz) : Sz := Sz.mk c.np c.nw c.ns c.nl c.nr (c.no + 1) c.pc c.rc
theorem Sz.leO (c : Sz) : c.le c.wO := ⟨Nat.le_refl _, Nat.le_refl _, Nat.le_refl _, Nat.le_refl _, Nat.le_refl _, Nat.le_succ _, Nat.le_refl _, Nat.le_refl _⟩
theorem CT.wO {h : PH} {u : MS} {G : Gh} {c : Sz} {D : Nat → Nat × Nat × Nat × List Nat} {t : Nat} (C : CT h u G c D t) : CT h u G c.wO D t := CT.mk C.pn C.wn C.sn C.ln C.rn C.rG C.kd C.pl C.lw (fun e r hr => (C.ru e r hr).mono c.leO)
section OV
variable {h : PH} {u : MS} {G : Gh} {z c : Sz} {L n t : Nat} {D : Nat → Nat × Nat × Nat × List Nat}
theorem next_d (X : Ded h u) : ∃ u', fX12_next u = some u' ∧ W' u u' ∧ Ded h u' := by
  obtain ⟨t, ht, e⟩ := X.tt
  unfold fX12_next fX12_next_0
  rw [e, fail_d X, oB_v, oL_v, nI_1]
  by_cases c : t = 1200
  · rw [if_pos (show nI t = 1200 by rw [c]; rfl)]
    exact ⟨u, rfl, W'.refl u, X⟩
  · rw [if_neg (show ¬ nI t = 1200 from fun q => c ((nI_eq (a := t) (b := 1200) (by omega) (by omega)).mp q))]
    exact ⟨_, rfl, W'.ad u (t + 1), X.st, by simp only [z_mI_mSI, z_mL_mSI, z_mA_mSI, z_mB_mSI, z_mI_mSL, z_mL_mSL, z_mA_mSL, z_mB_mSL, z_mI_mSA, z_mL_mSA, z_mA_mSA, z_mB_mSA, z_mI_mSB, z_mL_mSB, z_mA_mSB, z_mB_mSB, if_true, if_false, and_false, false_and, and_true, true_and, and_self, decide_true, decide_false, reduceCtorEq, not_false_eq_true, not_true_eq_false, Nat.reduceEqDiff, Nat.reduceAdd, Nat.reduceMul, Nat.add_zero, Nat.zero_add]; exact X.fa, by simp only [z_mI_mSI, z_mL_mSI, z_mA_mSI, z_mB_mSI, z_mI_mSL, z_mL_mSL, z_mA_mSL, z_mB_mSL, z_mI_mSA, z_mL_mSA, z_mA_mSA, z_mB_mSA, z_mI_mSB, z_mL_mSB, z_mA_mSB, z_mB_mSB, if_true, if_false, and_false, false_and, and_true, true_and, and_self, decide_true, decide_false, reduceCtorEq, not_false_eq_true, not_true_eq_false, Nat.reduceEqDiff, Nat.reduceAdd, Nat.reduceMul, Nat.add_zero, Nat.zero_add]; exact X.pl, X.kd, t + 1, by omega, by simp only [z_mI_mSI, z_mL_mSI, z_mA_mSI, z_mB_mSI, z_mI_mSL, z_mL_mSL, z_mA_mSL, z_mB_mSL, z_mI_mSA, z_mL_mSA, z_mA_mSA, z_mB_mSA, z_mI_mSB, z_mL_mSB, z_mA_mSB, z_mB_mSB, if_true, if_false, and_false, false_and, and_true, true_and, and_self, decide_true, decide_false, reduceCtorEq, not_false_eq_true, not_true_eq_false, Nat.reduceEqDiff, Nat.reduceAdd, Nat.reduceMul, Nat.add_zero, Nat.zero_add]⟩
/-- a change of the reference's row of named tokens -/
theorem Ded.nm (X : Ded h u) (i : Nat) (v : Int32) : Ded h (mSA u 64 i v) := ⟨X.st, X.fa, X.pl, X.kd, X.tt⟩
theorem Liv.nm (V : Liv h u D n t) (i : Nat) (v : Int32) : Liv h (mSA u 64 i v) D n t := ⟨V.lt, V.at_, V.kd, V.pl, V.vl, V.st, V.f0, V.t0⟩
theorem PI.nm (I : PI h u G z L n D) (i : Nat) (v : Int32) : PI h (mSA u 64 i v) G z L n D := I.d (CD.refl I.sx z) ((MD.refl u z).sA (by omega) (by unfold kM; omega)) I.rm.p3
theorem FL.nm (F : FL h u) (i : Nat) (v : Int32) : FL h (mSA u 64 i v) := F
/-- the reference's end of an over, stopped -/
theorem over_dm (X : Ded h u) {m : Nat} (m63 : mI u 63 = nI m) (hm : m ≤ 40) : ∃ u', fX12_tell_261 u = some u' ∧ MD u u' z ∧ Ded h u' := by
  obtain ⟨u1, e1, W1, X1⟩ := next_d X
  have a63 : mI u1 63 = nI m := (W1.I 63 (by omega)).trans m63
  obtain ⟨_, _, e11⟩ := X1.tt
  refine ⟨mSA (mSA u1 64 m (mI u1 11)) 64 (m + 1) (mI u1 11), ?_, ((W1.md z).sA (by omega) (by unfold kM; omega)).sA (by omega) (by unfold kM; omega), (X1.nm _ _).nm _ _⟩
  have b63 : mI (mSA u1 64 m (mI u1 11)) 63 = nI m := a63
  have b11 : mI (mSA u1 64 m (mI u1 11)) 11 = mI u1 11 := rfl
  unfold fX12_tell_261
  rw [e1, oB_v, a63, oC_t (ix_n (show m < mlen 64 by show m < 44; omega) (by decide)), oL_v, nI_clamp (show m < 2147483648 by omega), must_d (X1.nm _ _), oB_v, b63, nI_1, oC_t (ix_n (show m + 1 < mlen 64 by show m + 1 < 44; omega) (by decide)), oL_v, nI_clamp (show m + 1 < 2147483648 by omega), b11, must_d ((X1.nm _ _).nm _ _), oB_v, must_d ((X1.nm _ _).nm _ _), oB_v, if_neg ((X1.nm _ _).nm _ _).f.2.1]
theorem over_dc (S : SX h G) (X : Ded h u) : fX4_tellOver_22 h 23 = some h := by
  have e1 := expect_d S X (k := 28) (by omega) (by omega)
  have e2 := expect_d S X (k := 1) (by omega) (by omega)
  have e3 := expect_d S X (k := 5) (by omega) (by omega)
  have e1' : fX4_expect h 23 308 = some (h, 0) := e1
  have e2' : fX4_expect h 23 260 = some (h, 0) := e2
  have e3' : fX4_expect h 23 59 = some (h, 0) := e3
  simp only [fX4_tellOver_22, S.t0, S.t1, S.t3, S.t5, S.t6, S.t8, S.t10, S.t12, S.t14, S.t23, S.t24, S.t7, S.t9, S.t11, S.t13, S.t15, S.t16, S.t17, S.t18, S.t19, S.t20, S.t21, S.t25, S.t29, S.t30, S.t31, S.n7, S.n9, S.n11, S.n13, S.n15, S.n16, S.n17, S.n18, S.n19, S.n20, S.n21, S.n25, S.n29, S.n30, S.n31, S.r1408_0, S.r1409_0, S.r1410_0, S.r1411_0, S.r1412_0, S.r128_5, S.r129_5, S.r130_5, S.r131_5, S.r132_5, S.r133_5, S.r134_5, S.r135_5, S.r136_5, S.r137_5, S.r138_5, S.r512_23, S.r513_23, S.r514_23, S.r515_23, S.r896_6, S.r896_8, S.r896_10, S.r896_12, S.r896_14, S.r1280_24, S.r0_1, S.ttk, S.otk, S.r0_3, S.twk, S.owk, S.r141_5, S.tpg, S.opg, S.r1281_24, S.tkd, S.okd, S.r1282_24, S.tst, S.ost, S.r1283_24, S.tvl, S.ovl, S.o0, S.o1, S.o3, S.o31, S.o5, S.o6, S.o7, S.o8, S.o9, S.o10, S.o11, S.o12, S.o13, S.o14, S.o15, S.o16, S.o17, S.o18, S.o19, S.o20, S.o21, S.o23, S.o24, S.o25, S.o29, S.o30, oN_v, oC_v, oB_v, oB2_v, oB3_v, oB4_v, oK3_v, oK4_v, oL_v, if_true, if_false, and_false, false_and, and_true, true_and, and_self, decide_true, decide_false, reduceCtorEq, not_false_eq_true, not_true_eq_false, Nat.reduceEqDiff, Nat.reduceAdd, Nat.reduceMul, Nat.add_zero, Nat.zero_add, e1', e2', e3']
theorem over_v (I : PI h u G z L n D) (V : Liv h u D n t) (F : FL h u) (R : LR h u G z c n D t) (e : (D t).2.1 = 28) : SO h u G z L n D t c.nr (fX4_tellOver h 23) (if mI u 23 = 20 then oB (fX12_fail u 2) (fun h74 => fX12_tell_261 h74) else fX12_tell_261 u) := by
  have S := I.sx
  have n2 := I.ts.n2
  obtain ⟨k1, k2, k3, k4, k5, k6⟩ := R.ok
  have lo := R.le.2.2.2.2.2.1
  have m23 : mI u 23 = nI c.no := R.zm.2.2.2.2.2.1
  have i139 : hI h 139 5 = nI z.no := R.zc.2.2.2.2.2.1
  have eo : nI z.no + nI (c.no - z.no) = nI c.no := by rw [nI_add]; congr 1; omega
  have e20 : mI u 23 = 20 ↔ c.no = 20 := by rw [m23]; exact nI_eq (b := 20) (by omega) (by omega)
  by_cases c20 : c.no = 20
  · have X := Ded.of V (by have := V.lt; omega) (f := 2) (.inr rfl)
    have Q1 := Q.st h 2
    have W1 := W'.fa u 2 (nI (D t).1)
    have I1 := I.q Q1 W1
    obtain ⟨u', d1, d2, d3⟩ := over_dm (z := z) X (m := 2 * (c.no - z.no)) (by simp only [z_mI_mSI, z_mL_mSI, z_mA_mSI, z_mB_mSI, z_mI_mSL, z_mL_mSL, z_mA_mSL, z_mB_mSL, z_mI_mSA, z_mL_mSA, z_mA_mSA, z_mB_mSA, z_mI_mSB, z_mL_mSB, z_mA_mSB, z_mB_mSB, if_true, if_false, and_false, false_and, and_true, true_and, and_self, decide_true, decide_false, reduceCtorEq, not_false_eq_true, not_true_eq_false, Nat.reduceEqDiff, Nat.reduceAdd, Nat.reduceMul, Nat.add_zero, Nat.zero_add]; exact R.o2) (by omega)
    refine ⟨stH h 2, u', ?_, ?_, I1.d (CD.refl I1.sx z) d2 I1.rm.p3, Q1.N, Q1.g 518 (by omega), Q1.g 519 (by omega), .inr d3⟩
    · unfold fX4_tellOver fX4_tellOver_0
      rw [oC_d S.t23, S.r512_23, oN_v, oC_d S.t5, i139, R.o1, eo, if_neg (show ¬ nI c.no < 20 from nI_nlt (b := 20) (by omega) (by omega)), stopAt_v I V, oB_v, over_dc (Q1.sx S) X]
    · rw [if_pos (e20.mpr c20), fail_v I V, oB_v, d1]
  · have hC : fX4_tellOver h 23 = fX4_tellOver_22 h 23 := by
      unfold fX4_tellOver fX4_tellOver_0
      rw [oC_d S.t23, S.r512_23, oN_v, oC_d S.t5, i139, R.o1, eo, if_pos (show nI c.no < 20 from nI_lt (b := 20) (by omega) (by omega))]
    rw [hC, if_neg (fun q => c20 (e20.mp q))]
    have mb : 2 * (c.no - z.no) + 1 < 44 := by omega
    obtain ⟨h0, u0, r0, e1, e2, Q0, W0, o0⟩ := pass_v I V F (kw := 28) (by omega) (by omega) (by omega) e
    have e1' : fX4_expect h 23 308 = some (h0, r0) := e1
    have I0 := I.q Q0 W0
    have S0 := I0.sx
    have a63 : mI u0 63 = nI (2 * (c.no - z.no)) := (W0.I 63 (by omega)).trans R.o2
    rcases o0 with ⟨_, c2, V0, F0, M0⟩ | ⟨_, X0⟩
    · have V0' := V0.nm (2 * (c.no - z.no)) (nI (t + 1))
      have I0' := I0.nm (2 * (c.no - z.no)) (nI (t + 1))
      obtain ⟨h1, u1, r1, e3, e4, Q1, W1, o1⟩ := want_v I0' V0' (F0.nm _ _) (k := 1) (by omega) (by omega) (by omega)
      have e3' : fX4_expect h0 23 260 = some (h1, r1) := e3
      have e4' : fX12_must (mSA u0 64 (2 * (c.no - z.no)) (nI (t + 1))) 1 = some u1 := e4
      have I1 := I0'.q Q1 W1
      have S1 := I1.sx
      have b63 : mI u1 63 = nI (2 * (c.no - z.no)) := (W1.I 63 (by omega)).trans a63
      have pre : ∀ w3, oB (fX12_must (mSA u1 64 (2 * (c.no - z.no) + 1) (mI u1 11)) 1) (fun h17 => oB (fX12_must h17 5) (fun h19 => if mI h19 13 ≤ 0 then oC (ix (mI h19 23) (mlen 36)) (oL (mSA h19 36 (Int32.toNatClampNeg (mI h19 23)) (-1)) (fun h22 => oC (ix (mI h22 23) (mlen 37)) (oL (mSA h22 37 (Int32.toNatClampNeg (mI h22 23)) (-1)) (fun h24 => oL (mSI h24 23 (mI h24 23 + 1)) (fun h25 => oL (mSI h25 63 (mI h25 63 + 2)) (fun h26 => some h26)))))) else some h19)) = some w3 → fX12_tell_261 u = some w3 := by
        intro w3 ew
        unfold fX12_tell_261
        rw [e2, oB_v, a63, oC_t (ix_n (show 2 * (c.no - z.no) < mlen 64 by show 2 * (c.no - z.no) < 44; omega) (by decide)), oL_v, nI_clamp (show 2 * (c.no - z.no) < 2147483648 by omega), V0.t0, e4', oB_v, b63, nI_1, oC_t (ix_n (show 2 * (c.no - z.no) + 1 < mlen 64 from mb) (by decide)), oL_v, nI_clamp (show 2 * (c.no - z.no) + 1 < 2147483648 by omega)]
        exact ew
      rcases o1 with ⟨_, kn1, c3, V1, F1, M1⟩ | ⟨_, X1⟩
      · have V1' := V1.nm (2 * (c.no - z.no) + 1) (mI u1 11)
        have I1' := I1.nm (2 * (c.no - z.no) + 1) (mI u1 11)
        obtain ⟨h2, u2, r2, e5, e6, Q2, W2, o2⟩ := want_v I1' V1' (F1.nm _ _) (k := 1) (by omega) (by omega) (by omega)
        have e5' : fX4_expect h1 23 260 = some (h2, r2) := e5
        have e6' : fX12_must (mSA u1 64 (2 * (c.no - z.no) + 1) (mI u1 11)) 1 = some u2 := e6
        have I2 := I1'.q Q2 W2
        have S2 := I2.sx
        rcases o2 with ⟨_, kn2, c4, V2, F2, M2⟩ | ⟨_, X2⟩
        · obtain ⟨h3, u3, r3, e7, e8, Q3, W3, o3⟩ := want_v I2 V2 F2 (k := 5) (by omega) (by omega) (by omega)
          have e7' : fX4_expect h2 23 59 = some (h3, r3) := e7
          have e8' : fX12_must u2 5 = some u3 := e8
          have I3 := I2.q Q3 W3
          have S3 := I3.sx
          have QQ : Q h h3 := ((Q0.trans Q1).trans Q2).trans Q3
          rcases o3 with ⟨r31, _, c5, V3, F3, M3⟩ | ⟨r30, X3⟩
          · subst r31
            have i517 : hI h3 517 23 = nI (c.no - z.no) := (QQ.g 517 (by omega)).trans R.o1
            have y6 : hI h0 520 23 = nI (t + 1) := V0.at_
            have m23' : mI u3 23 = nI c.no := (W3.I 23 (by omega)).trans ((W2.I 23 (by omega)).trans ((W1.I 23 (by omega)).trans ((W0.I 23 (by omega)).trans m23)))
            have m63' : mI u3 63 = nI (2 * (c.no - z.no)) := (W3.I 63 (by omega)).trans ((W2.I 63 (by omega)).trans b63)
            have c23 : mI (mSA u3 36 c.no (-1)) 23 = nI c.no := m23'
            have d23 : mI (mSA (mSA u3 36 c.no (-1)) 37 c.no (-1)) 23 = nI c.no := m23'
            have d63 : mI (mSI (mSA (mSA u3 36 c.no (-1)) 37 c.no (-1)) 23 (nI (c.no + 1))) 63 = nI (2 * (c.no - z.no)) := by simp only [z_mI_mSI, z_mL_mSI, z_mA_mSI, z_mB_mSI, z_mI_mSL, z_mL_mSL, z_mA_mSL, z_mB_mSL, z_mI_mSA, z_mL_mSA, z_mA_mSA, z_mB_mSA, z_mI_mSB, z_mL_mSB, z_mA_mSB, z_mB_mSB, if_true, if_false, and_false, false_and, and_true, true_and, and_self, decide_true, decide_false, reduceCtorEq, not_false_eq_true, not_true_eq_false, Nat.reduceEqDiff, Nat.reduceAdd, Nat.reduceMul, Nat.add_zero, Nat.zero_add]; exact m63'
            have e2c : nI (2 * (c.no - z.no)) + 2 = nI (2 * (c.no + 1 - z.no)) := by
              rw [show (2 : Int32) = nI 2 from rfl, nI_add]; congr 1; omega
            have D2 : (D t).1 ≤ (D (t + 1 + 1 + 1 + 1)).1 := I.ts.le (by omega) V3.lt
            have S30 := S3.o30
            have X5 : ∀ zz : Sz, zz.nr ≤ G.nr → CD h3 (sI (sA h3 30 (c.no - z.no) (nI (t + 1))) 517 23 (nI (c.no - z.no + 1))) G G zz := fun zz hz => CD.trans hz (CD.xA S3 (.inr (.inl (by rw [S3.o30]))) (ne_ow S3.o30 S3.okd (by omega)) (ne_ow S3.o30 S3.ost (by omega)) (by unfold kC; omega) (fun q => by have := ne_ow S3.o30 S3.opg (by omega); exact this q.1)) (CD.s23 (h := sA h3 30 (c.no - z.no) (nI (t + 1))) S3 hz 517 _)
            have Y5 : ∀ zz : Sz, zz.no ≤ c.no → MD u3 (mSI (mSI (mSA (mSA u3 36 c.no (-1)) 37 c.no (-1)) 23 (nI (c.no + 1))) 63 (nI (2 * (c.no + 1 - z.no)))) zz := fun zz hz => ((((MD.refl u3 zz).sA (by omega) (by unfold kM; omega)).sA (by omega) (by unfold kM; omega)).sI (by omega)).sI (by omega)
            refine ⟨sI (sA h3 30 (c.no - z.no) (nI (t + 1))) 517 23 (nI (c.no - z.no + 1)), mSI (mSI (mSA (mSA u3 36 c.no (-1)) 37 c.no (-1)) 23 (nI (c.no + 1))) 63 (nI (2 * (c.no + 1 - z.no))), ?_, ?_, I3.d (X5 z I3.kr.nrG) (Y5 z lo) I3.rm.p3, QQ.N, ?_, ?_, .inl ⟨t + 1 + 1 + 1 + 1, c.wO, by omega, rfl, ?_, ?_, ?_⟩⟩
            · simp only [fX4_tellOver_22, S.t23, S0.t23, S1.t23, S2.t23, S3.t23, S3.r515_23, S3.t30, S3.n30, oN_v, oC_v, oB_v, oB2_v, oB3_v, oB4_v, oK3_v, oK4_v, oL_v, if_true, if_false, and_false, false_and, and_true, true_and, and_self, decide_true, decide_false, reduceCtorEq, not_false_eq_true, not_true_eq_false, Nat.reduceEqDiff, Nat.reduceAdd, Nat.reduceMul, Nat.add_zero, Nat.zero_add, e1', e3', e5', e7', y6, i517, show ¬ ((1 : Int32) = 0) by decide, if_neg (show ¬ (20 : Int32) ≤ nI (c.no - z.no) from nI_ge (b := 20) (by omega) (by omega)), oC_t (ix_n (show c.no - z.no < 20 by omega) (by omega)), nI_clamp (show c.no - z.no < 2147483648 by omega), z_hI_sA, nI_1]
            · refine pre _ ?_
              rw [e6', oB_v, e8', oB_v, V3.f0, if_pos (by decide), m23', oC_t (ix_n (show c.no < mlen 36 by show c.no < 20; omega) (by decide)), oL_v, nI_clamp (show c.no < 2147483648 by omega), c23, oC_t (ix_n (show c.no < mlen 37 by show c.no < 20; omega) (by decide)), oL_v, nI_clamp (show c.no < 2147483648 by omega), d23, nI_1, oL_v, d63, e2c, oL_v]
            · simp only [z_hI_sI, z_hL_sI, z_hR_sI, z_hA_sI, z_hB_sI, z_hC_sI, z_hT_sI, z_hN_sI, z_hZ_sI, z_hI_sL, z_hL_sL, z_hR_sL, z_hA_sL, z_hB_sL, z_hC_sL, z_hT_sL, z_hN_sL, z_hZ_sL, z_hI_sR, z_hL_sR, z_hR_sR, z_hA_sR, z_hB_sR, z_hC_sR, z_hT_sR, z_hN_sR, z_hZ_sR, z_hI_sA, z_hL_sA, z_hR_sA, z_hA_sA, z_hB_sA, z_hC_sA, z_hT_sA, z_hN_sA, z_hZ_sA, z_hI_sB, z_hL_sB, z_hR_sB, z_hA_sB, z_hB_sB, z_hC_sB, z_hT_sB, z_hN_sB, z_hZ_sB, z_hI_sC, z_hL_sC, z_hR_sC, z_hA_sC, z_hB_sC, z_hC_sC, z_hT_sC, z_hN_sC, z_hZ_sC, z_hI_sY, z_hL_sY, z_hR_sY, z_hA_sY, z_hB_sY, z_hC_sY, z_hT_sY, z_hN_sY, z_hZ_sY, z_hI_nO, z_hL_nO, z_hR_nO, z_hA_nO, z_hB_nO, z_hC_nO, z_hT_nO, z_hN_nO, z_hZ_nO, z_hI_nA, z_hL_nA, z_hR_nA, z_hA_nA, z_hB_nA, z_hC_nA, z_hT_nA, z_hN_nA, z_hZ_nA, if_true, if_false, and_false, false_and, and_true, true_and, and_self, decide_true, decide_false, reduceCtorEq, not_false_eq_true, not_true_eq_false, Nat.reduceEqDiff, Nat.reduceAdd, Nat.reduceMul, Nat.add_zero, Nat.zero_add]; exact QQ.g 518 (by omega)
            · simp only [z_hI_sI, z_hL_sI, z_hR_sI, z_hA_sI, z_hB_sI, z_hC_sI, z_hT_sI, z_hN_sI, z_hZ_sI, z_hI_sL, z_hL_sL, z_hR_sL, z_hA_sL, z_hB_sL, z_hC_sL, z_hT_sL, z_hN_sL, z_hZ_sL, z_hI_sR, z_hL_sR, z_hR_sR, z_hA_sR, z_hB_sR, z_hC_sR, z_hT_sR, z_hN_sR, z_hZ_sR, z_hI_sA, z_hL_sA, z_hR_sA, z_hA_sA, z_hB_sA, z_hC_sA, z_hT_sA, z_hN_sA, z_hZ_sA, z_hI_sB, z_hL_sB, z_hR_sB, z_hA_sB, z_hB_sB, z_hC_sB, z_hT_sB, z_hN_sB, z_hZ_sB, z_hI_sC, z_hL_sC, z_hR_sC, z_hA_sC, z_hB_sC, z_hC_sC, z_hT_sC, z_hN_sC, z_hZ_sC, z_hI_sY, z_hL_sY, z_hR_sY, z_hA_sY, z_hB_sY, z_hC_sY, z_hT_sY, z_hN_sY, z_hZ_sY, z_hI_nO, z_hL_nO, z_hR_nO, z_hA_nO, z_hB_nO, z_hC_nO, z_hT_nO, z_hN_nO, z_hZ_nO, z_hI_nA, z_hL_nA, z_hR_nA, z_hA_nA, z_hB_nA, z_hC_nA, z_hT_nA, z_hN_nA, z_hZ_nA, if_true, if_false, and_false, false_and, and_true, true_and, and_self, decide_true, decide_false, reduceCtorEq, not_false_eq_true, not_true_eq_false, Nat.reduceEqDiff, Nat.reduceAdd, Nat.reduceMul, Nat.add_zero, Nat.zero_add]; exact QQ.g 519 (by omega)
            · refine ⟨V3.lt, ?_, ?_, ?_, V3.vl, ?_, ?_, ?_⟩ <;> simp only [z_hI_sI, z_hL_sI, z_hR_sI, z_hA_sI, z_hB_sI, z_hC_sI, z_hT_sI, z_hN_sI, z_hZ_sI, z_hI_sL, z_hL_sL, z_hR_sL, z_hA_sL, z_hB_sL, z_hC_sL, z_hT_sL, z_hN_sL, z_hZ_sL, z_hI_sR, z_hL_sR, z_hR_sR, z_hA_sR, z_hB_sR, z_hC_sR, z_hT_sR, z_hN_sR, z_hZ_sR, z_hI_sA, z_hL_sA, z_hR_sA, z_hA_sA, z_hB_sA, z_hC_sA, z_hT_sA, z_hN_sA, z_hZ_sA, z_hI_sB, z_hL_sB, z_hR_sB, z_hA_sB, z_hB_sB, z_hC_sB, z_hT_sB, z_hN_sB, z_hZ_sB, z_hI_sC, z_hL_sC, z_hR_sC, z_hA_sC, z_hB_sC, z_hC_sC, z_hT_sC, z_hN_sC, z_hZ_sC, z_hI_sY, z_hL_sY, z_hR_sY, z_hA_sY, z_hB_sY, z_hC_sY, z_hT_sY, z_hN_sY, z_hZ_sY, z_hI_nO, z_hL_nO, z_hR_nO, z_hA_nO, z_hB_nO, z_hC_nO, z_hT_nO, z_hN_nO, z_hZ_nO, z_hI_nA, z_hL_nA, z_hR_nA, z_hA_nA, z_hB_nA, z_hC_nA, z_hT_nA, z_hN_nA, z_hZ_nA, z_mI_mSI, z_mL_mSI, z_mA_mSI, z_mB_mSI, z_mI_mSL, z_mL_mSL, z_mA_mSL, z_mB_mSL, z_mI_mSA, z_mL_mSA, z_mA_mSA, z_mB_mSA, z_mI_mSB, z_mL_mSB, z_mA_mSB, z_mB_mSB, if_true, if_false, and_false, false_and, and_true, true_and, and_self, decide_true, decide_false, reduceCtorEq, not_false_eq_true, not_true_eq_false, Nat.reduceEqDiff, Nat.reduceAdd, Nat.reduceMul, Nat.add_zero, Nat.zero_add]
              · exact V3.at_
              · exact V3.kd
              · exact V3.pl
              · exact V3.st
              · exact V3.f0
              · exact V3.t0
            · exact F3.fr (by simp only [z_hI_sI, z_hL_sI, z_hR_sI, z_hA_sI, z_hB_sI, z_hC_sI, z_hT_sI, z_hN_sI, z_hZ_sI, z_hI_sL, z_hL_sL, z_hR_sL, z_hA_sL, z_hB_sL, z_hC_sL, z_hT_sL, z_hN_sL, z_hZ_sL, z_hI_sR, z_hL_sR, z_hR_sR, z_hA_sR, z_hB_sR, z_hC_sR, z_hT_sR, z_hN_sR, z_hZ_sR, z_hI_sA, z_hL_sA, z_hR_sA, z_hA_sA, z_hB_sA, z_hC_sA, z_hT_sA, z_hN_sA, z_hZ_sA, z_hI_sB, z_hL_sB, z_hR_sB, z_hA_sB, z_hB_sB, z_hC_sB, z_hT_sB, z_hN_sB, z_hZ_sB, z_hI_sC, z_hL_sC, z_hR_sC, z_hA_sC, z_hB_sC, z_hC_sC, z_hT_sC, z_hN_sC, z_hZ_sC, z_hI_sY, z_hL_sY, z_hR_sY, z_hA_sY, z_hB_sY, z_hC_sY, z_hT_sY, z_hN_sY, z_hZ_sY, z_hI_nO, z_hL_nO, z_hR_nO, z_hA_nO, z_hB_nO, z_hC_nO, z_hT_nO, z_hN_nO, z_hZ_nO, z_hI_nA, z_hL_nA, z_hR_nA, z_hA_nA, z_hB_nA, z_hC_nA, z_hT_nA, z_hN_nA, z_hZ_nA, if_true, if_false, and_false, false_and, and_true, true_and, and_self, decide_true, decide_false, reduceCtorEq, not_false_eq_true, not_true_eq_false, Nat.reduceEqDiff, Nat.reduceAdd, Nat.reduceMul, Nat.add_zero, Nat.zero_add]) (by simp only [z_hI_sI, z_hL_sI, z_hR_sI, z_hA_sI, z_hB_sI, z_hC_sI, z_hT_sI, z_hN_sI, z_hZ_sI, z_hI_sL, z_hL_sL, z_hR_sL, z_hA_sL, z_hB_sL, z_hC_sL, z_hT_sL, z_hN_sL, z_hZ_sL, z_hI_sR, z_hL_sR, z_hR_sR, z_hA_sR, z_hB_sR, z_hC_sR, z_hT_sR, z_hN_sR, z_hZ_sR, z_hI_sA, z_hL_sA, z_hR_sA, z_hA_sA, z_hB_sA, z_hC_sA, z_hT_sA, z_hN_sA, z_hZ_sA, z_hI_sB, z_hL_sB, z_hR_sB, z_hA_sB, z_hB_sB, z_hC_sB, z_hT_sB, z_hN_sB, z_hZ_sB, z_hI_sC, z_hL_sC, z_hR_sC, z_hA_sC, z_hB_sC, z_hC_sC, z_hT_sC, z_hN_sC, z_hZ_sC, z_hI_sY, z_hL_sY, z_hR_sY, z_hA_sY, z_hB_sY, z_hC_sY, z_hT_sY, z_hN_sY, z_hZ_sY, z_hI_nO, z_hL_nO, z_hR_nO, z_hA_nO, z_hB_nO, z_hC_nO, z_hT_nO, z_hN_nO, z_hZ_nO, z_hI_nA, z_hL_nA, z_hR_nA, z_hA_nA, z_hB_nA, z_hC_nA, z_hT_nA, z_hN_nA, z_hZ_nA, if_true, if_false, and_false, false_and, and_true, true_and, and_self, decide_true, decide_false, reduceCtorEq, not_false_eq_true, not_true_eq_false, Nat.reduceEqDiff, Nat.reduceAdd, Nat.reduceMul, Nat.add_zero, Nat.zero_add]) (by simp only [z_mI_mSI, z_mL_mSI, z_mA_mSI, z_mB_mSI, z_mI_mSL, z_mL_mSL, z_mA_mSL, z_mB_mSL, z_mI_mSA, z_mL_mSA, z_mA_mSA, z_mB_mSA, z_mI_mSB, z_mL_mSB, z_mA_mSB, z_mB_mSB, if_true, if_false, and_false, false_and, and_true, true_and, and_self, decide_true, decide_false, reduceCtorEq, not_false_eq_true, not_true_eq_false, Nat.reduceEqDiff, Nat.reduceAdd, Nat.reduceMul, Nat.add_zero, Nat.zero_add]) (by simp only [z_mI_mSI, z_mL_mSI, z_mA_mSI, z_mB_mSI, z_mI_mSL, z_mL_mSL, z_mA_mSL, z_mB_mSL, z_mI_mSA, z_mL_mSA, z_mA_mSA, z_mB_mSA, z_mI_mSB, z_mL_mSB, z_mA_mSB, z_mB_mSB, if_true, if_false, and_false, false_and, and_true, true_and, and_self, decide_true, decide_false, reduceCtorEq, not_false_eq_true, not_true_eq_false, Nat.reduceEqDiff, Nat.reduceAdd, Nat.reduceMul, Nat.add_zero, Nat.zero_add])
            · have XX : CD h (sI (sA h3 30 (c.no - z.no) (nI (t + 1))) 517 23 (nI (c.no - z.no + 1))) G G c := CD.trans R.ct.rG (QQ.cd S R.ct.rG) (X5 c R.ct.rG)
              have YY : MD u (mSI (mSI (mSA (mSA u3 36 c.no (-1)) 37 c.no (-1)) 23 (nI (c.no + 1))) 63 (nI (2 * (c.no + 1 - z.no)))) c := ((((W0.md c).sA (k := 64) (by omega) (by unfold kM; omega)).trans (W1.md c)).sA (k := 64) (by omega) (by unfold kM; omega)).trans (((W2.trans W3).md c).trans (Y5 c (Nat.le_refl _)))
              have fm : FM u (mSI (mSI (mSA (mSA u3 36 c.no (-1)) 37 c.no (-1)) 23 (nI (c.no + 1))) 63 (nI (2 * (c.no + 1 - z.no)))) := fun q hq => by
                obtain ⟨p1, p, p2, p3, p4⟩ := M3 q (M2 q (M1 q (M0 q hq)))
                exact ⟨by simp only [z_mI_mSI, z_mL_mSI, z_mA_mSI, z_mB_mSI, z_mI_mSL, z_mL_mSL, z_mA_mSL, z_mB_mSL, z_mI_mSA, z_mL_mSA, z_mA_mSA, z_mB_mSA, z_mI_mSB, z_mL_mSB, z_mA_mSB, z_mB_mSB, if_true, if_false, and_false, false_and, and_true, true_and, and_self, decide_true, decide_false, reduceCtorEq, not_false_eq_true, not_true_eq_false, Nat.reduceEqDiff, Nat.reduceAdd, Nat.reduceMul, Nat.add_zero, Nat.zero_add]; exact p1, p, p2, p3, by simp only [z_mI_mSI, z_mL_mSI, z_mA_mSI, z_mB_mSI, z_mI_mSL, z_mL_mSL, z_mA_mSL, z_mB_mSL, z_mI_mSA, z_mL_mSA, z_mA_mSA, z_mB_mSA, z_mI_mSB, z_mL_mSB, z_mA_mSB, z_mB_mSB, if_true, if_false, and_false, false_and, and_true, true_and, and_self, decide_true, decide_false, reduceCtorEq, not_false_eq_true, not_true_eq_false, Nat.reduceEqDiff, Nat.reduceAdd, Nat.reduceMul, Nat.add_zero, Nat.zero_add]; exact p4⟩
              obtain ⟨a1, a2, a3, a4, a5, a6, a7⟩ := R.zc
              obtain ⟨m1, m2, m3, m4, m5, m6, m7⟩ := R.zm
              have mi : ∀ k, k ≠ 23 → k ≠ 63 → ¬ (k = 11 ∨ (13 ≤ k ∧ k ≤ 16)) → mI (mSI (mSI (mSA (mSA u3 36 c.no (-1)) 37 c.no (-1)) 23 (nI (c.no + 1))) 63 (nI (2 * (c.no + 1 - z.no)))) k = mI u k := fun k h1 h2 h3 => by
                simp only [z_mI_mSI, z_mL_mSI, z_mA_mSI, z_mB_mSI, z_mI_mSL, z_mL_mSL, z_mA_mSL, z_mB_mSL, z_mI_mSA, z_mL_mSA, z_mA_mSA, z_mB_mSA, z_mI_mSB, z_mL_mSB, z_mA_mSB, z_mB_mSB]
                rw [if_neg h2, if_neg h1]
                exact (W3.I k h3).trans ((W2.I k h3).trans ((W1.I k h3).trans (W0.I k h3)))
              have hi' : ∀ f a, a ≠ 23 → hI (sI (sA h3 30 (c.no - z.no) (nI (t + 1))) 517 23 (nI (c.no - z.no + 1))) f a = hI h f a := fun f a h1 => by
                simp only [z_hI_sI, z_hL_sI, z_hR_sI, z_hA_sI, z_hB_sI, z_hC_sI, z_hT_sI, z_hN_sI, z_hZ_sI, z_hI_sL, z_hL_sL, z_hR_sL, z_hA_sL, z_hB_sL, z_hC_sL, z_hT_sL, z_hN_sL, z_hZ_sL, z_hI_sR, z_hL_sR, z_hR_sR, z_hA_sR, z_hB_sR, z_hC_sR, z_hT_sR, z_hN_sR, z_hZ_sR, z_hI_sA, z_hL_sA, z_hR_sA, z_hA_sA, z_hB_sA, z_hC_sA, z_hT_sA, z_hN_sA, z_hZ_sA, z_hI_sB, z_hL_sB, z_hR_sB, z_hA_sB, z_hB_sB, z_hC_sB, z_hT_sB, z_hN_sB, z_hZ_sB, z_hI_sC, z_hL_sC, z_hR_sC, z_hA_sC, z_hB_sC, z_hC_sC, z_hT_sC, z_hN_sC, z_hZ_sC, z_hI_sY, z_hL_sY, z_hR_sY, z_hA_sY, z_hB_sY, z_hC_sY, z_hT_sY, z_hN_sY, z_hZ_sY, z_hI_nO, z_hL_nO, z_hR_nO, z_hA_nO, z_hB_nO, z_hC_nO, z_hT_nO, z_hN_nO, z_hZ_nO, z_hI_nA, z_hL_nA, z_hR_nA, z_hA_nA, z_hB_nA, z_hC_nA, z_hT_nA, z_hN_nA, z_hZ_nA]
                rw [if_neg (fun q => h1 q.2)]
                exact QQ.I f a h1
              refine LR.mk (Sz.le_trans R.le c.leO) ⟨k1, k2, k3, k4, k5, (show c.no + 1 ≤ 20 by omega)⟩ ⟨(hi' _ _ (by omega)).trans a1, (hi' _ _ (by omega)).trans a2, (hi' _ _ (by omega)).trans a3, (hi' _ _ (by omega)).trans a4, (hi' _ _ (by omega)).trans a5, (hi' _ _ (by omega)).trans a6, (hi' _ _ (by omega)).trans a7⟩ ⟨(mi 18 (by omega) (by omega) (by omega)).trans m1, (mi 19 (by omega) (by omega) (by omega)).trans m2, (mi 20 (by omega) (by omega) (by omega)).trans m3, (mi 21 (by omega) (by omega) (by omega)).trans m4, (mi 22 (by omega) (by omega) (by omega)).trans m5, by simp only [z_mI_mSI, z_mL_mSI, z_mA_mSI, z_mB_mSI, z_mI_mSL, z_mL_mSL, z_mA_mSL, z_mB_mSL, z_mI_mSA, z_mL_mSA, z_mA_mSA, z_mB_mSA, z_mI_mSB, z_mL_mSB, z_mA_mSB, z_mB_mSB, if_true, if_false, and_false, false_and, and_true, true_and, and_self, decide_true, decide_false, reduceCtorEq, not_false_eq_true, not_true_eq_false, Nat.reduceEqDiff, Nat.reduceAdd, Nat.reduceMul, Nat.add_zero, Nat.zero_add]; rfl, (mi 24 (by omega) (by omega) (by omega)).trans m7⟩ ?_ ?_ ?_ ((R.ct.d F XX YY fm D2).wO) (by have := R.p1; show c.pc ≤ _; omega) (by have := R.p2; show c.rc ≤ _; omega) (by have := R.p3; rw [← QQ.N] at this; exact this) R.p4
              · simp only [z_hI_sI, z_hL_sI, z_hR_sI, z_hA_sI, z_hB_sI, z_hC_sI, z_hT_sI, z_hN_sI, z_hZ_sI, z_hI_sL, z_hL_sL, z_hR_sL, z_hA_sL, z_hB_sL, z_hC_sL, z_hT_sL, z_hN_sL, z_hZ_sL, z_hI_sR, z_hL_sR, z_hR_sR, z_hA_sR, z_hB_sR, z_hC_sR, z_hT_sR, z_hN_sR, z_hZ_sR, z_hI_sA, z_hL_sA, z_hR_sA, z_hA_sA, z_hB_sA, z_hC_sA, z_hT_sA, z_hN_sA, z_hZ_sA, z_hI_sB, z_hL_sB, z_hR_sB, z_hA_sB, z_hB_sB, z_hC_sB, z_hT_sB, z_hN_sB, z_hZ_sB, z_hI_sC, z_hL_sC, z_hR_sC, z_hA_sC, z_hB_sC, z_hC_sC, z_hT_sC, z_hN_sC, z_hZ_sC, z_hI_sY, z_hL_sY, z_hR_sY, z_hA_sY, z_hB_sY, z_hC_sY, z_hT_sY, z_hN_sY, z_hZ_sY, z_hI_nO, z_hL_nO, z_hR_nO, z_hA_nO, z_hB_nO, z_hC_nO, z_hT_nO, z_hN_nO, z_hZ_nO, z_hI_nA, z_hL_nA, z_hR_nA, z_hA_nA, z_hB_nA, z_hC_nA, z_hT_nA, z_hN_nA, z_hZ_nA, if_true, if_false, and_false, false_and, and_true, true_and, and_self, decide_true, decide_false, reduceCtorEq, not_false_eq_true, not_true_eq_false, Nat.reduceEqDiff, Nat.reduceAdd, Nat.reduceMul, Nat.add_zero, Nat.zero_add]
                congr 1
                show c.no - z.no + 1 = c.no + 1 - z.no
                omega
              · simp only [z_mI_mSI, z_mL_mSI, z_mA_mSI, z_mB_mSI, z_mI_mSL, z_mL_mSL, z_mA_mSL, z_mB_mSL, z_mI_mSA, z_mL_mSA, z_mA_mSA, z_mB_mSA, z_mI_mSB, z_mL_mSB, z_mA_mSB, z_mB_mSB, if_true, if_false, and_false, false_and, and_true, true_and, and_self, decide_true, decide_false, reduceCtorEq, not_false_eq_true, not_true_eq_false, Nat.reduceEqDiff, Nat.reduceAdd, Nat.reduceMul, Nat.add_zero, Nat.zero_add]
                rfl
              · intro i hi
                have hi2 : i < c.no + 1 - z.no := hi
                by_cases q : i = c.no - z.no
                · refine ⟨t + 1, V2.lt |> fun _ => V1.lt, kn1, kn2, ?_, ?_, ?_⟩
                  · rw [q]; simp only [z_hI_sI, z_hL_sI, z_hR_sI, z_hA_sI, z_hB_sI, z_hC_sI, z_hT_sI, z_hN_sI, z_hZ_sI, z_hI_sL, z_hL_sL, z_hR_sL, z_hA_sL, z_hB_sL, z_hC_sL, z_hT_sL, z_hN_sL, z_hZ_sL, z_hI_sR, z_hL_sR, z_hR_sR, z_hA_sR, z_hB_sR, z_hC_sR, z_hT_sR, z_hN_sR, z_hZ_sR, z_hI_sA, z_hL_sA, z_hR_sA, z_hA_sA, z_hB_sA, z_hC_sA, z_hT_sA, z_hN_sA, z_hZ_sA, z_hI_sB, z_hL_sB, z_hR_sB, z_hA_sB, z_hB_sB, z_hC_sB, z_hT_sB, z_hN_sB, z_hZ_sB, z_hI_sC, z_hL_sC, z_hR_sC, z_hA_sC, z_hB_sC, z_hC_sC, z_hT_sC, z_hN_sC, z_hZ_sC, z_hI_sY, z_hL_sY, z_hR_sY, z_hA_sY, z_hB_sY, z_hC_sY, z_hT_sY, z_hN_sY, z_hZ_sY, z_hI_nO, z_hL_nO, z_hR_nO, z_hA_nO, z_hB_nO, z_hC_nO, z_hT_nO, z_hN_nO, z_hZ_nO, z_hI_nA, z_hL_nA, z_hR_nA, z_hA_nA, z_hB_nA, z_hC_nA, z_hT_nA, z_hN_nA, z_hZ_nA, if_true, if_false, and_false, false_and, and_true, true_and, and_self, decide_true, decide_false, reduceCtorEq, not_false_eq_true, not_true_eq_false, Nat.reduceEqDiff, Nat.reduceAdd, Nat.reduceMul, Nat.add_zero, Nat.zero_add]
                  · rw [q]; simp only [z_mI_mSI, z_mL_mSI, z_mA_mSI, z_mB_mSI, z_mI_mSL, z_mL_mSL, z_mA_mSL, z_mB_mSL, z_mI_mSA, z_mL_mSA, z_mA_mSA, z_mB_mSA, z_mI_mSB, z_mL_mSB, z_mA_mSB, z_mB_mSB, if_true, if_false, and_false, false_and, and_true, true_and, and_self, decide_true, decide_false, reduceCtorEq, not_false_eq_true, not_true_eq_false, Nat.reduceEqDiff, Nat.reduceAdd, Nat.reduceMul, Nat.add_zero, Nat.zero_add]
                    rw [W3.A, W2.A]
                    simp only [z_mI_mSI, z_mL_mSI, z_mA_mSI, z_mB_mSI, z_mI_mSL, z_mL_mSL, z_mA_mSL, z_mB_mSL, z_mI_mSA, z_mL_mSA, z_mA_mSA, z_mB_mSA, z_mI_mSB, z_mL_mSB, z_mA_mSB, z_mB_mSB, if_true, if_false, and_false, false_and, and_true, true_and, and_self, decide_true, decide_false, reduceCtorEq, not_false_eq_true, not_true_eq_false, Nat.reduceEqDiff, Nat.reduceAdd, Nat.reduceMul, Nat.add_zero, Nat.zero_add]
                    rw [if_neg (by omega), W1.A]
                    simp only [z_mI_mSI, z_mL_mSI, z_mA_mSI, z_mB_mSI, z_mI_mSL, z_mL_mSL, z_mA_mSL, z_mB_mSL, z_mI_mSA, z_mL_mSA, z_mA_mSA, z_mB_mSA, z_mI_mSB, z_mL_mSB, z_mA_mSB, z_mB_mSB, if_true, if_false, and_false, false_and, and_true, true_and, and_self, decide_true, decide_false, reduceCtorEq, not_false_eq_true, not_true_eq_false, Nat.reduceEqDiff, Nat.reduceAdd, Nat.reduceMul, Nat.add_zero, Nat.zero_add]
                  · rw [q]; simp only [z_mI_mSI, z_mL_mSI, z_mA_mSI, z_mB_mSI, z_mI_mSL, z_mL_mSL, z_mA_mSL, z_mB_mSL, z_mI_mSA, z_mL_mSA, z_mA_mSA, z_mB_mSA, z_mI_mSB, z_mL_mSB, z_mA_mSB, z_mB_mSB, if_true, if_false, and_false, false_and, and_true, true_and, and_self, decide_true, decide_false, reduceCtorEq, not_false_eq_true, not_true_eq_false, Nat.reduceEqDiff, Nat.reduceAdd, Nat.reduceMul, Nat.add_zero, Nat.zero_add]
                    rw [W3.A, W2.A]
                    simp only [z_mI_mSI, z_mL_mSI, z_mA_mSI, z_mB_mSI, z_mI_mSL, z_mL_mSL, z_mA_mSL, z_mB_mSL, z_mI_mSA, z_mL_mSA, z_mA_mSA, z_mB_mSA, z_mI_mSB, z_mL_mSB, z_mA_mSB, z_mB_mSB, if_true, if_false, and_false, false_and, and_true, true_and, and_self, decide_true, decide_false, reduceCtorEq, not_false_eq_true, not_true_eq_false, Nat.reduceEqDiff, Nat.reduceAdd, Nat.reduceMul, Nat.add_zero, Nat.zero_add]
                    exact V1.t0
                · obtain ⟨k, q1, q2, q3, q4, q5, q6⟩ := R.ot i (by omega)
                  refine ⟨k, q1, q2, q3, ?_, ?_, ?_⟩
                  · simp only [z_hI_sI, z_hL_sI, z_hR_sI, z_hA_sI, z_hB_sI, z_hC_sI, z_hT_sI, z_hN_sI, z_hZ_sI, z_hI_sL, z_hL_sL, z_hR_sL, z_hA_sL, z_hB_sL, z_hC_sL, z_hT_sL, z_hN_sL, z_hZ_sL, z_hI_sR, z_hL_sR, z_hR_sR, z_hA_sR, z_hB_sR, z_hC_sR, z_hT_sR, z_hN_sR, z_hZ_sR, z_hI_sA, z_hL_sA, z_hR_sA, z_hA_sA, z_hB_sA, z_hC_sA, z_hT_sA, z_hN_sA, z_hZ_sA, z_hI_sB, z_hL_sB, z_hR_sB, z_hA_sB, z_hB_sB, z_hC_sB, z_hT_sB, z_hN_sB, z_hZ_sB, z_hI_sC, z_hL_sC, z_hR_sC, z_hA_sC, z_hB_sC, z_hC_sC, z_hT_sC, z_hN_sC, z_hZ_sC, z_hI_sY, z_hL_sY, z_hR_sY, z_hA_sY, z_hB_sY, z_hC_sY, z_hT_sY, z_hN_sY, z_hZ_sY, z_hI_nO, z_hL_nO, z_hR_nO, z_hA_nO, z_hB_nO, z_hC_nO, z_hT_nO, z_hN_nO, z_hZ_nO, z_hI_nA, z_hL_nA, z_hR_nA, z_hA_nA, z_hB_nA, z_hC_nA, z_hT_nA, z_hN_nA, z_hZ_nA, if_true, if_false, and_false, false_and, and_true, true_and, and_self, decide_true, decide_false, reduceCtorEq, not_false_eq_true, not_true_eq_false, Nat.reduceEqDiff, Nat.reduceAdd, Nat.reduceMul, Nat.add_zero, Nat.zero_add]
                    rw [if_neg q, QQ.A]; exact q4
                  · simp only [z_mI_mSI, z_mL_mSI, z_mA_mSI, z_mB_mSI, z_mI_mSL, z_mL_mSL, z_mA_mSL, z_mB_mSL, z_mI_mSA, z_mL_mSA, z_mA_mSA, z_mB_mSA, z_mI_mSB, z_mL_mSB, z_mA_mSB, z_mB_mSB, if_true, if_false, and_false, false_and, and_true, true_and, and_self, decide_true, decide_false, reduceCtorEq, not_false_eq_true, not_true_eq_false, Nat.reduceEqDiff, Nat.reduceAdd, Nat.reduceMul, Nat.add_zero, Nat.zero_add]
                    rw [W3.A, W2.A]
                    simp only [z_mI_mSI, z_mL_mSI, z_mA_mSI, z_mB_mSI, z_mI_mSL, z_mL_mSL, z_mA_mSL, z_mB_mSL, z_mI_mSA, z_mL_mSA, z_mA_mSA, z_mB_mSA, z_mI_mSB, z_mL_mSB, z_mA_mSB, z_mB_mSB, if_true, if_false, and_false, false_and, and_true, true_and, and_self, decide_true, decide_false, reduceCtorEq, not_false_eq_true, not_true_eq_false, Nat.reduceEqDiff, Nat.reduceAdd, Nat.reduceMul, Nat.add_zero, Nat.zero_add]
                    rw [if_neg (by omega), W1.A]
                    simp only [z_mI_mSI, z_mL_mSI, z_mA_mSI, z_mB_mSI, z_mI_mSL, z_mL_mSL, z_mA_mSL, z_mB_mSL, z_mI_mSA, z_mL_mSA, z_mA_mSA, z_mB_mSA, z_mI_mSB, z_mL_mSB, z_mA_mSB, z_mB_mSB, if_true, if_false, and_false, false_and, and_true, true_and, and_self, decide_true, decide_false, reduceCtorEq, not_false_eq_true, not_true_eq_false, Nat.reduceEqDiff, Nat.reduceAdd, Nat.reduceMul, Nat.add_zero, Nat.zero_add]
                    rw [if_neg (by omega), W0.A]; exact q5
                  · simp only [z_mI_mSI, z_mL_mSI, z_mA_mSI, z_mB_mSI, z_mI_mSL, z_mL_mSL, z_mA_mSL, z_mB_mSL, z_mI_mSA, z_mL_mSA, z_mA_mSA, z_mB_mSA, z_mI_mSB, z_mL_mSB, z_mA_mSB, z_mB_mSB, if_true, if_false, and_false, false_and, and_true, true_and, and_self, decide_true, decide_false, reduceCtorEq, not_false_eq_true, not_true_eq_false, Nat.reduceEqDiff, Nat.reduceAdd, Nat.reduceMul, Nat.add_zero, Nat.zero_add]
                    rw [W3.A, W2.A]
                    simp only [z_mI_mSI, z_mL_mSI, z_mA_mSI, z_mB_mSI, z_mI_mSL, z_mL_mSL, z_mA_mSL, z_mB_mSL, z_mI_mSA, z_mL_mSA, z_mA_mSA, z_mB_mSA, z_mI_mSB, z_mL_mSB, z_mA_mSB, z_mB_mSB, if_true, if_false, and_false, false_and, and_true, true_and, and_self, decide_true, decide_false, reduceCtorEq, not_false_eq_true, not_true_eq_false, Nat.reduceEqDiff, Nat.reduceAdd, Nat.reduceMul, Nat.add_zero, Nat.zero_add]
                    rw [if_neg (by omega), W1.A]
                    simp only [z_mI_mSI, z_mL_mSI, z_mA_mSI, z_mB_mSI, z_mI_mSL, z_mL_mSL, z_mA_mSL, z_mB_mSL, z_mI_mSA, z_mL_mSA, z_mA_mSA, z_mB_mSA, z_mI_mSB, z_mL_mSB, z_mA_mSB, z_mB_mSB, if_true, if_false, and_false, false_and, and_true, true_and, and_self, decide_true, decide_false, reduceCtorEq, not_false_eq_true, not_true_eq_false, Nat.reduceEqDiff, Nat.reduceAdd, Nat.reduceMul, Nat.add_zero, Nat.zero_add]
                    rw [if_neg (by omega), W0.A]; exact q6
          · subst r30
            refine ⟨h3, u3, ?_, pre _ ?_, I3, QQ.N, QQ.g 518 (by omega), QQ.g 519 (by omega), .inr X3⟩
            · simp only [fX4_tellOver_22, S.t23, S0.t23, S1.t23, S2.t23, oN_v, oC_v, oB_v, oB2_v, oB3_v, oB4_v, oK3_v, oK4_v, oL_v, if_true, if_false, and_false, false_and, and_true, true_and, and_self, decide_true, decide_false, reduceCtorEq, not_false_eq_true, not_true_eq_false, Nat.reduceEqDiff, Nat.reduceAdd, Nat.reduceMul, Nat.add_zero, Nat.zero_add, e1', e3', e5', e7']
            · rw [e6', oB_v, e8', oB_v, if_neg X3.f.2.1]
        · have e7 := expect_d S2 X2 (k := 5) (by omega) (by omega)
          have e7' : fX4_expect h2 23 59 = some (h2, 0) := e7
          have QQ : Q h h2 := (Q0.trans Q1).trans Q2
          refine ⟨h2, u2, ?_, pre _ ?_, I2, QQ.N, QQ.g 518 (by omega), QQ.g 519 (by omega), .inr X2⟩
          · simp only [fX4_tellOver_22, S.t23, S0.t23, S1.t23, S2.t23, oN_v, oC_v, oB_v, oB2_v, oB3_v, oB4_v, oK3_v, oK4_v, oL_v, if_true, if_false, and_false, false_and, and_true, true_and, and_self, decide_true, decide_false, reduceCtorEq, not_false_eq_true, not_true_eq_false, Nat.reduceEqDiff, Nat.reduceAdd, Nat.reduceMul, Nat.add_zero, Nat.zero_add, e1', e3', e5', e7']
          · rw [e6', oB_v, must_d X2, oB_v, if_neg X2.f.2.1]
      · have e5 := expect_d S1 X1 (k := 1) (by omega) (by omega)
        have e5' : fX4_expect h1 23 260 = some (h1, 0) := e5
        have e7 := expect_d S1 X1 (k := 5) (by omega) (by omega)
        have e7' : fX4_expect h1 23 59 = some (h1, 0) := e7
        have QQ : Q h h1 := Q0.trans Q1
        refine ⟨h1, mSA u1 64 (2 * (c.no - z.no) + 1) (mI u1 11), ?_, pre _ ?_, I1.nm _ _, QQ.N, QQ.g 518 (by omega), QQ.g 519 (by omega), .inr (X1.nm _ _)⟩
        · simp only [fX4_tellOver_22, S.t23, S0.t23, S1.t23, oN_v, oC_v, oB_v, oB2_v, oB3_v, oB4_v, oK3_v, oK4_v, oL_v, if_true, if_false, and_false, false_and, and_true, true_and, and_self, decide_true, decide_false, reduceCtorEq, not_false_eq_true, not_true_eq_false, Nat.reduceEqDiff, Nat.reduceAdd, Nat.reduceMul, Nat.add_zero, Nat.zero_add, e1', e3', e5', e7']
        · rw [must_d (X1.nm _ _), oB_v, must_d (X1.nm _ _), oB_v, if_neg (X1.nm _ _).f.2.1]
    · have X1 := X0.nm (2 * (c.no - z.no)) (mI u0 11)
      have X2 := X1.nm (2 * (c.no - z.no) + 1) (mI u0 11)
      have e3 := expect_d S0 X0 (k := 1) (by omega) (by omega)
      have e3' : fX4_expect h0 23 260 = some (h0, 0) := e3
      have e7 := expect_d S0 X0 (k := 5) (by omega) (by omega)
      have e7' : fX4_expect h0 23 59 = some (h0, 0) := e7
      refine ⟨h0, mSA (mSA u0 64 (2 * (c.no - z.no)) (mI u0 11)) 64 (2 * (c.no - z.no) + 1) (mI u0 11), ?_, ?_, (I0.nm _ _).nm _ _, Q0.N, Q0.g 518 (by omega), Q0.g 519 (by omega), .inr X2⟩
      · simp only [fX4_tellOver_22, S.t23, S0.t23, oN_v, oC_v, oB_v, oB2_v, oB3_v, oB4_v, oK3_v, oK4_v, oL_v, if_true, if_false, and_false, false_and, and_true, true_and, and_self, decide_true, decide_false, reduceCtorEq, not_false_eq_true, not_true_eq_false, Nat.reduceEqDiff, Nat.reduceAdd, Nat.reduceMul, Nat.add_zero, Nat.zero_add, e1', e3', e7']
      · have b63 : mI (mSA u0 64 (2 * (c.no - z.no)) (mI u0 11)) 63 = nI (2 * (c.no - z.no)) := a63
        have b11 : mI (mSA u0 64 (2 * (c.no - z.no)) (mI u0 11)) 11 = mI u0 11 := rfl
        unfold fX12_tell_261
        rw [e2, oB_v, a63, oC_t (ix_n (show 2 * (c.no - z.no) < mlen 64 by show 2 * (c.no - z.no) < 44; omega) (by decide)), oL_v, nI_clamp (show 2 * (c.no - z.no) < 2147483648 by omega), must_d X1, oB_v, b63, nI_1, oC_t (ix_n (show 2 * (c.no - z.no) + 1 < mlen 64 from mb) (by decide)), oL_v, nI_clamp (show 2 * (c.no - z.no) + 1 < 2147483648 by omega), b11, must_d X2, oB_v, must_d X2, oB_v, if_neg X2.f.2.1]
end OV
