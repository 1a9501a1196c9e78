def Sz.wW (c : Sz) : Sz := Sz.mk c.np (c.nw + 1) c.ns c.nl c.nr c.no c.pc c.rc
theorem Sz.leW (c : Sz) : c.le c.wW := ⟨Nat.le_refl _, Nat.le_succ _, Nat.le_refl _, Nat.le_refl _, Nat.le_refl _, Nat.le_refl _, Nat.le_refl _, Nat.le_refl _⟩
theorem CT.wW {h : PH} {u : MS} {G : Gh} {c : Sz} {D : Nat → Nat × Nat × Nat × List Nat} {t : Nat} (C : CT h u G c D t) (N : NR (hB h 9 c.nw) (mB u 27 c.nw)) (P : (∃ k, k ≤ 2 ∧ hA h 16 c.nw = nI k ∧ mA u 28 c.nw = nI k) ∨ ∃ q, FP u q ∧ q < (D t).1) : CT h u G c.wW D t :=
  CT.mk C.pn (fun i hi => by
    by_cases q : i = c.nw
    · rw [q]; exact N
    · exact C.wn i (by have : i < c.nw + 1 := hi; omega)) C.sn C.ln C.rn C.rG C.kd (fun i hi => by
    by_cases q : i = c.nw
    · rw [q]; exact P
    · exact C.pl i (by have : i < c.nw + 1 := hi; omega)) C.lw (fun e r hr => (C.ru e r hr).mono c.leW)
section WO
variable {h : PH} {u : MS} {G : Gh} {z c : Sz} {L n t : Nat} {D : Nat → Nat × Nat × Nat × List Nat}
theorem CD.pl (S : SX h G) {z : Sz} {s : Nat} (hs : z.nw ≤ s) (x : Int32) : CD h (sA h 16 s x) G G z := CD.xA S (.inl (by rw [S.o16])) (ne_ow S.o16 S.okd (by omega)) (ne_ow S.o16 S.ost (by omega)) (by unfold kC; omega) (fun q => by have := ne_ow S.o16 S.opg (by omega); exact this q.1)
theorem PI.cq {h' : PH} (I : PI h u G z L n D) (X : CD h h' G G z) : PI h' u G z L n D := I.d X (MD.refl u z) (by rw [X.N _ (lt_T I.sx.fr I.sx.tpg (by omega))]; exact I.rm.p3)
theorem word_v (I : PI h u G z L n D) (V : Liv h u D n t) (F : FL h u) (R : LR h u G z c n D t) (e : (D t).2.1 = 21) : SO h u G z L n D t c.nr (fX4_tellWord h 23) (oB (fX12_next u) (fun h40 => oB2 (fX12_tells h40 27 (mI h40 19) 12) (fun h43 _ => oB2 (fX12_whole h43 2) (fun h46 r45 => oB (fX12_must h46 5) (fun h48 => if mI h48 13 ≤ 0 then oC (ix r45 (mlen 7)) (oC (ix (mI h48 19) (mlen 28)) (oL (mSA h48 28 (Int32.toNatClampNeg (mI h48 19)) (mA h48 7 (Int32.toNatClampNeg r45))) (fun h52 => oL (mSI h52 19 (mI h52 19 + 1)) (fun h53 => some h53)))) else some h48))))) := by
  have S := I.sx
  have le := R.le
  have nr := I.kr.nrG
  have n2 := I.ts.n2
  have c59 : cK 5 = 59 := rfl
  obtain ⟨h0, u0, r0, e1, e2, Q0, W0, o0⟩ := pass_v I V F (kw := 21) (by omega) (by omega) (by omega) e
  have e1' : fX4_expect h 23 301 = some (h0, r0) := e1
  have I0 := I.q Q0 W0
  have S0 := I0.sx
  have w19 : mI u0 19 = nI c.nw := (W0.I 19 (by omega)).trans R.zm.2.1
  have hd : fX4_tellWord h 23 = oB2 (fX4_tellName h0 23 (some 8)) (fun h10 r9 => oC (decide (hT h10 23 = 5)) (oB2 (fX4_integer h10 23 0 2) (fun h14 r13 => oC (decide (hT h14 23 = 5)) (oB2 (fX4_expect h14 23 59) (fun h18 r17 => oC (decide (hT h18 23 = 5)) (oN (hR h18 512 23) (fun a20 => oC (decide (hT h18 a20 = 2)) (oB (fX1_setPlaces h18 a20 r9 r13) (fun h23 => some (h23)))))))))) := by
    unfold fX4_tellWord fX4_tellWord_0
    rw [oC_d S.t23, e1', oB2_v, oC_d S0.t23, S0.r512_23, oN_v, oC_d S0.t5, S0.r129_5]
  rcases o0 with ⟨_, c2, V0, F0, M0⟩ | ⟨_, X0⟩
  · obtain ⟨h1, u1, Q1, W1, o1⟩ := tell_v I0 V0 F0 ((R.roW S).q Q0 W0)
    have I1 := I0.q Q1 W1
    have S1 := I1.sx
    rcases o1 with ⟨x, y, N, ck, sm, c3, V1, F1, M1, e3, e4⟩ | ⟨X1, e3, e4⟩
    · have e4' : fX12_tells u0 27 (mI u0 19) 12 = some (mSB u1 27 c.nw y, nI (t + 1)) := by rw [w19]; exact e4
      have I2 : PI (sI (sB h1 9 c.nw x) 897 8 (nI (c.nw + 1))) (mSB u1 27 c.nw y) G z L n D := I1.d (CD.add S1 nr (.inr (.inl ⟨rfl, rfl, le.2.1⟩))) ((MD.refl u1 z).sB (by omega) (by unfold kM; have := le.2.1; omega)) I1.rm.p3
      have S2 := I2.sx
      have V2 : Liv (sI (sB h1 9 c.nw x) 897 8 (nI (c.nw + 1))) (mSB u1 27 c.nw y) D n (t + 1 + 1) := V1.add x _ y (by omega)
      have F2 : FL (sI (sB h1 9 c.nw x) 897 8 (nI (c.nw + 1))) (mSB u1 27 c.nw y) := F1.add x _ y (by omega)
      obtain ⟨h3, u3, r3, e5, e6, Q3, W3, o3⟩ := whole_v I2 V2 F2 (hi := 2) (by omega)
      have e5' : fX4_integer (sI (sB h1 9 c.nw x) 897 8 (nI (c.nw + 1))) 23 0 2 = some (h3, r3) := e5
      have e6' : fX12_whole (mSB u1 27 c.nw y) 2 = some (u3, nI (t + 1 + 1)) := e6
      have I3 := I2.q Q3 W3
      have S3 := I3.sx
      have sz : ∀ h', Q h3 h' → hI h' 897 8 = nI (c.nw + 1) := fun h' q => (q.I _ _ (by omega)).trans ((Q3.I _ _ (by omega)).trans (by simp only [z_hI_sI, z_hL_sI, z_hR_sI, z_hA_sI, z_hB_sI, z_hC_sI, z_hT_sI, z_hN_sI, z_hZ_sI, z_hI_sL, z_hL_sL, z_hR_sL, z_hA_sL, z_hB_sL, z_hC_sL, z_hT_sL, z_hN_sL, z_hZ_sL, z_hI_sR, z_hL_sR, z_hR_sR, z_hA_sR, z_hB_sR, z_hC_sR, z_hT_sR, z_hN_sR, z_hZ_sR, z_hI_sA, z_hL_sA, z_hR_sA, z_hA_sA, z_hB_sA, z_hC_sA, z_hT_sA, z_hN_sA, z_hZ_sA, z_hI_sB, z_hL_sB, z_hR_sB, z_hA_sB, z_hB_sB, z_hC_sB, z_hT_sB, z_hN_sB, z_hZ_sB, z_hI_sC, z_hL_sC, z_hR_sC, z_hA_sC, z_hB_sC, z_hC_sC, z_hT_sC, z_hN_sC, z_hZ_sC, z_hI_sY, z_hL_sY, z_hR_sY, z_hA_sY, z_hB_sY, z_hC_sY, z_hT_sY, z_hN_sY, z_hZ_sY, z_hI_nO, z_hL_nO, z_hR_nO, z_hA_nO, z_hB_nO, z_hC_nO, z_hT_nO, z_hN_nO, z_hZ_nO, z_hI_nA, z_hL_nA, z_hR_nA, z_hA_nA, z_hB_nA, z_hC_nA, z_hT_nA, z_hN_nA, z_hZ_nA, if_true, if_false, and_false, false_and, and_true, true_and, and_self, decide_true, decide_false, reduceCtorEq, not_false_eq_true, not_true_eq_false, Nat.reduceEqDiff, Nat.reduceAdd, Nat.reduceMul, Nat.add_zero, Nat.zero_add]))
      have gg : ∀ h' f, f < 520 → Q h3 h' → hI h' f 23 = hI h f 23 := fun h' f hf q => (q.g f hf).trans ((Q3.g f hf).trans (by simp only [z_hI_sI, z_hL_sI, z_hR_sI, z_hA_sI, z_hB_sI, z_hC_sI, z_hT_sI, z_hN_sI, z_hZ_sI, z_hI_sL, z_hL_sL, z_hR_sL, z_hA_sL, z_hB_sL, z_hC_sL, z_hT_sL, z_hN_sL, z_hZ_sL, z_hI_sR, z_hL_sR, z_hR_sR, z_hA_sR, z_hB_sR, z_hC_sR, z_hT_sR, z_hN_sR, z_hZ_sR, z_hI_sA, z_hL_sA, z_hR_sA, z_hA_sA, z_hB_sA, z_hC_sA, z_hT_sA, z_hN_sA, z_hZ_sA, z_hI_sB, z_hL_sB, z_hR_sB, z_hA_sB, z_hB_sB, z_hC_sB, z_hT_sB, z_hN_sB, z_hZ_sB, z_hI_sC, z_hL_sC, z_hR_sC, z_hA_sC, z_hB_sC, z_hC_sC, z_hT_sC, z_hN_sC, z_hZ_sC, z_hI_sY, z_hL_sY, z_hR_sY, z_hA_sY, z_hB_sY, z_hC_sY, z_hT_sY, z_hN_sY, z_hZ_sY, z_hI_nO, z_hL_nO, z_hR_nO, z_hA_nO, z_hB_nO, z_hC_nO, z_hT_nO, z_hN_nO, z_hZ_nO, z_hI_nA, z_hL_nA, z_hR_nA, z_hA_nA, z_hB_nA, z_hC_nA, z_hT_nA, z_hN_nA, z_hZ_nA, if_true, if_false, and_false, false_and, and_true, true_and, and_self, decide_true, decide_false, reduceCtorEq, not_false_eq_true, not_true_eq_false, Nat.reduceEqDiff, Nat.reduceAdd, Nat.reduceMul, Nat.add_zero, Nat.zero_add]; exact (Q1.g f hf).trans (Q0.g f hf)))
      rcases o3 with ⟨v, v9, m7, c5, V3, F3, M3, orr⟩ | ⟨X3, er⟩
      · obtain ⟨h4, u4, r4, e7, e8, Q4, W4, o4⟩ := want_v I3 V3 F3 (k := 5) (by omega) (by omega) (by omega)
        rw [c59] at e7
        have e8' : fX12_must u3 5 = some u4 := e8
        have I4 := I3.q Q4 W4
        have S4 := I4.sx
        have I5 : PI (sA h4 16 c.nw r3) u4 G z L n D := I4.cq (CD.pl S4 le.2.1 r3)
        have eF : fX4_tellWord h 23 = some (sA h4 16 c.nw r3) := by
          rw [hd, e3, oB2_v, oC_d S2.t23, e5', oB2_v, oC_d S3.t23, e7, oB2_v, oC_d S4.t23, S4.r512_23, oN_v, oC_d S4.t5, setPlaces_v S4 (sz h4 Q4) (by omega) (by omega), oB_v]
        have hNN : hN (sA h4 16 c.nw r3) = hN h := Q4.N.trans (Q3.N.trans (Q1.N.trans Q0.N))
        rcases o4 with ⟨_, _, c6, V4, F4, M4⟩ | ⟨_, X4⟩
        · have m19 : mI u4 19 = nI c.nw := (W4.I 19 (by omega)).trans ((W3.I 19 (by omega)).trans ((W1.I 19 (by omega)).trans w19))
          have m7' : mA u4 7 (t + 1 + 1) = nI v := by rw [W4.A, W3.A]; exact m7
          have R1 := R.q (t' := t) S F (Q0.trans Q1) (W0.trans W1) (M0.trans M1) (Nat.le_refl _) (Nat.le_refl _)
          have rG := R1.ct.rG
          have D2 : (D t).1 ≤ (D (t + 1 + 1 + 1 + 1)).1 := I.ts.le (by omega) V4.lt
          have D3 : (D (t + 1 + 1)).1 < (D (t + 1 + 1 + 1 + 1)).1 := I.ts.mo _ _ (by omega) V4.lt
          have Y : MD u1 (mSI (mSA u4 28 c.nw (nI v)) 19 (nI (c.nw + 1))) c := ((((MD.refl u1 c).sB (by omega) (by unfold kM; omega)).trans ((W3.trans W4).md c)).sA (by omega) (by unfold kM; omega)).sI (by omega)
          have X : CD h1 (sA h4 16 c.nw r3) G G c := CD.trans rG (CD.trans rG (CD.add S1 rG (.inr (.inl ⟨rfl, rfl, Nat.le_refl _⟩))) ((Q3.trans Q4).cd S1 rG)) (CD.pl S4 (Nat.le_refl _) r3)
          have fm34 : FM (mSB u1 27 c.nw y) (mSI (mSA u4 28 c.nw (nI v)) 19 (nI (c.nw + 1))) := fun q hq => by
            obtain ⟨p1, p, p2, p3, p4⟩ := M4 q (M3 q hq)
            exact ⟨by simp only [z_mI_mSI, z_mL_mSI, z_mA_mSI, z_mB_mSI, z_mI_mSL, z_mL_mSL, z_mA_mSL, z_mB_mSL, z_mI_mSA, z_mL_mSA, z_mA_mSA, z_mB_mSA, z_mI_mSB, z_mL_mSB, z_mA_mSB, z_mB_mSB, if_true, if_false, and_false, false_and, and_true, true_and, and_self, decide_true, decide_false, reduceCtorEq, not_false_eq_true, not_true_eq_false, Nat.reduceEqDiff, Nat.reduceAdd, Nat.reduceMul, Nat.add_zero, Nat.zero_add]; exact p1, p, p2, p3, by simp only [z_mI_mSI, z_mL_mSI, z_mA_mSI, z_mB_mSI, z_mI_mSL, z_mL_mSL, z_mA_mSL, z_mB_mSL, z_mI_mSA, z_mL_mSA, z_mA_mSA, z_mB_mSA, z_mI_mSB, z_mL_mSB, z_mA_mSB, z_mB_mSB, if_true, if_false, and_false, false_and, and_true, true_and, and_self, decide_true, decide_false, reduceCtorEq, not_false_eq_true, not_true_eq_false, Nat.reduceEqDiff, Nat.reduceAdd, Nat.reduceMul, Nat.add_zero, Nat.zero_add]; exact p4⟩
          have fm : FM u1 (mSI (mSA u4 28 c.nw (nI v)) 19 (nI (c.nw + 1))) := fun q hq => fm34 q hq
          obtain ⟨a1, a2, a3, a4, a5, a6, a7⟩ := R1.zc
          obtain ⟨m1, m2, m3, m4, m5, m6, m7q⟩ := R1.zm
          have mi : ∀ k, k ≠ 19 → ¬ (k = 11 ∨ (13 ≤ k ∧ k ≤ 16)) → mI (mSI (mSA u4 28 c.nw (nI v)) 19 (nI (c.nw + 1))) k = mI u1 k := fun k h1 h2 => by
            simp only [z_mI_mSI, z_mL_mSI, z_mA_mSI, z_mB_mSI, z_mI_mSL, z_mL_mSL, z_mA_mSL, z_mB_mSL, z_mI_mSA, z_mL_mSA, z_mA_mSA, z_mB_mSA, z_mI_mSB, z_mL_mSB, z_mA_mSB, z_mB_mSB]
            rw [if_neg h1]
            exact (W4.I k h2).trans (W3.I k h2)
          have hi' : ∀ f a, a ≠ 23 → a ≠ 8 → hI (sA h4 16 c.nw r3) f a = hI h1 f a := fun f a h1 h2 => by
            show hI h4 f a = _
            rw [(Q3.trans Q4).I f a h1]
            simp only [z_hI_sI, z_hL_sI, z_hR_sI, z_hA_sI, z_hB_sI, z_hC_sI, z_hT_sI, z_hN_sI, z_hZ_sI, z_hI_sL, z_hL_sL, z_hR_sL, z_hA_sL, z_hB_sL, z_hC_sL, z_hT_sL, z_hN_sL, z_hZ_sL, z_hI_sR, z_hL_sR, z_hR_sR, z_hA_sR, z_hB_sR, z_hC_sR, z_hT_sR, z_hN_sR, z_hZ_sR, z_hI_sA, z_hL_sA, z_hR_sA, z_hA_sA, z_hB_sA, z_hC_sA, z_hT_sA, z_hN_sA, z_hZ_sA, z_hI_sB, z_hL_sB, z_hR_sB, z_hA_sB, z_hB_sB, z_hC_sB, z_hT_sB, z_hN_sB, z_hZ_sB, z_hI_sC, z_hL_sC, z_hR_sC, z_hA_sC, z_hB_sC, z_hC_sC, z_hT_sC, z_hN_sC, z_hZ_sC, z_hI_sY, z_hL_sY, z_hR_sY, z_hA_sY, z_hB_sY, z_hC_sY, z_hT_sY, z_hN_sY, z_hZ_sY, z_hI_nO, z_hL_nO, z_hR_nO, z_hA_nO, z_hB_nO, z_hC_nO, z_hT_nO, z_hN_nO, z_hZ_nO, z_hI_nA, z_hL_nA, z_hR_nA, z_hA_nA, z_hB_nA, z_hC_nA, z_hT_nA, z_hN_nA, z_hZ_nA]
            rw [if_neg (fun q => h2 q.2)]
          obtain ⟨k1, k2, k3, k4, k5, k6⟩ := R1.ok
          refine ⟨_, mSI (mSA u4 28 c.nw (nI v)) 19 (nI (c.nw + 1)), eF, ?_, ?_, hNN, gg h4 518 (by omega) Q4, gg h4 519 (by omega) Q4, .inl ⟨t + 1 + 1 + 1 + 1, c.wW, by omega, rfl, ?_, ?_, ?_⟩⟩
          · rw [e2, oB_v, e4', oB2_v, e6', oB2_v, e8', oB_v, V4.f0, if_pos (by decide), oC_t (ix_n (show t + 1 + 1 < mlen 7 by show t + 1 + 1 < 1203; omega) (by decide)), m19, oC_t (ix_n (show c.nw < mlen 28 from sm) (by decide)), oL_v, nI_clamp (show c.nw < 2147483648 by omega), nI_clamp (show t + 1 + 1 < 2147483648 by omega), m7', oL_v]
            have : mI (mSA u4 28 c.nw (nI v)) 19 = nI c.nw := m19
            rw [this, nI_1]
          · exact I5.d (CD.refl I5.sx z) (((MD.refl u4 z).sA (by omega) (by unfold kM; have := le.2.1; omega)).sI (by omega)) I5.rm.p3
          · exact V4.fr (fun _ _ => rfl) rfl (by simp only [z_mI_mSI, z_mL_mSI, z_mA_mSI, z_mB_mSI, z_mI_mSL, z_mL_mSL, z_mA_mSL, z_mB_mSL, z_mI_mSA, z_mL_mSA, z_mA_mSA, z_mB_mSA, z_mI_mSB, z_mL_mSB, z_mA_mSB, z_mB_mSB, if_true, if_false, and_false, false_and, and_true, true_and, and_self, decide_true, decide_false, reduceCtorEq, not_false_eq_true, not_true_eq_false, Nat.reduceEqDiff, Nat.reduceAdd, Nat.reduceMul, Nat.add_zero, Nat.zero_add]) (by simp only [z_mI_mSI, z_mL_mSI, z_mA_mSI, z_mB_mSI, z_mI_mSL, z_mL_mSL, z_mA_mSL, z_mB_mSL, z_mI_mSA, z_mL_mSA, z_mA_mSA, z_mB_mSA, z_mI_mSB, z_mL_mSB, z_mA_mSB, z_mB_mSB, if_true, if_false, and_false, false_and, and_true, true_and, and_self, decide_true, decide_false, reduceCtorEq, not_false_eq_true, not_true_eq_false, Nat.reduceEqDiff, Nat.reduceAdd, Nat.reduceMul, Nat.add_zero, Nat.zero_add])
          · exact F4.fr rfl rfl (by simp only [z_mI_mSI, z_mL_mSI, z_mA_mSI, z_mB_mSI, z_mI_mSL, z_mL_mSL, z_mA_mSL, z_mB_mSL, z_mI_mSA, z_mL_mSA, z_mA_mSA, z_mB_mSA, z_mI_mSB, z_mL_mSB, z_mA_mSB, z_mB_mSB, if_true, if_false, and_false, false_and, and_true, true_and, and_self, decide_true, decide_false, reduceCtorEq, not_false_eq_true, not_true_eq_false, Nat.reduceEqDiff, Nat.reduceAdd, Nat.reduceMul, Nat.add_zero, Nat.zero_add]) (by simp only [z_mI_mSI, z_mL_mSI, z_mA_mSI, z_mB_mSI, z_mI_mSL, z_mL_mSL, z_mA_mSL, z_mB_mSL, z_mI_mSA, z_mL_mSA, z_mA_mSA, z_mB_mSA, z_mI_mSB, z_mL_mSB, z_mA_mSB, z_mB_mSB, if_true, if_false, and_false, false_and, and_true, true_and, and_self, decide_true, decide_false, reduceCtorEq, not_false_eq_true, not_true_eq_false, Nat.reduceEqDiff, Nat.reduceAdd, Nat.reduceMul, Nat.add_zero, Nat.zero_add])
          · refine LR.mk (Sz.le_trans R.le c.leW) ⟨k1, (show c.nw + 1 ≤ 12 by omega), k3, k4, k5, k6⟩ ⟨(hi' _ _ (by omega) (by omega)).trans a1, sz h4 Q4, (hi' _ _ (by omega) (by omega)).trans a3, (hi' _ _ (by omega) (by omega)).trans a4, (hi' _ _ (by omega) (by omega)).trans a5, (hi' _ _ (by omega) (by omega)).trans a6, (hi' _ _ (by omega) (by omega)).trans a7⟩ ⟨(mi 18 (by omega) (by omega)).trans m1, by simp only [z_mI_mSI, z_mL_mSI, z_mA_mSI, z_mB_mSI, z_mI_mSL, z_mL_mSL, z_mA_mSL, z_mB_mSL, z_mI_mSA, z_mL_mSA, z_mA_mSA, z_mB_mSA, z_mI_mSB, z_mL_mSB, z_mA_mSB, z_mB_mSB, if_true, if_false, and_false, false_and, and_true, true_and, and_self, decide_true, decide_false, reduceCtorEq, not_false_eq_true, not_true_eq_false, Nat.reduceEqDiff, Nat.reduceAdd, Nat.reduceMul, Nat.add_zero, Nat.zero_add]; rfl, (mi 20 (by omega) (by omega)).trans m3, (mi 21 (by omega) (by omega)).trans m4, (mi 22 (by omega) (by omega)).trans m5, (mi 23 (by omega) (by omega)).trans m6, (mi 24 (by omega) (by omega)).trans m7q⟩ ?_ ((mi 63 (by omega) (by omega)).trans R1.o2) ?_ ((R1.ct.d F1 X Y fm D2).wW ?_ ?_) (by have := R.p1; show c.pc ≤ _; omega) (by have := R.p2; show c.rc ≤ _; omega) (by rw [hNN]; exact R.p3) R.p4
            · exact (gg h4 517 (by omega) Q4).trans R.o1
            · intro i hi
              obtain ⟨k, q1, q2, q3, q4, q5, q6⟩ := R1.ot i hi
              refine ⟨k, q1, q2, q3, ?_, ?_, ?_⟩
              · simp only [z_hI_sI, z_hL_sI, z_hR_sI, z_hA_sI, z_hB_sI, z_hC_sI, z_hT_sI, z_hN_sI, z_hZ_sI, z_hI_sL, z_hL_sL, z_hR_sL, z_hA_sL, z_hB_sL, z_hC_sL, z_hT_sL, z_hN_sL, z_hZ_sL, z_hI_sR, z_hL_sR, z_hR_sR, z_hA_sR, z_hB_sR, z_hC_sR, z_hT_sR, z_hN_sR, z_hZ_sR, z_hI_sA, z_hL_sA, z_hR_sA, z_hA_sA, z_hB_sA, z_hC_sA, z_hT_sA, z_hN_sA, z_hZ_sA, z_hI_sB, z_hL_sB, z_hR_sB, z_hA_sB, z_hB_sB, z_hC_sB, z_hT_sB, z_hN_sB, z_hZ_sB, z_hI_sC, z_hL_sC, z_hR_sC, z_hA_sC, z_hB_sC, z_hC_sC, z_hT_sC, z_hN_sC, z_hZ_sC, z_hI_sY, z_hL_sY, z_hR_sY, z_hA_sY, z_hB_sY, z_hC_sY, z_hT_sY, z_hN_sY, z_hZ_sY, z_hI_nO, z_hL_nO, z_hR_nO, z_hA_nO, z_hB_nO, z_hC_nO, z_hT_nO, z_hN_nO, z_hZ_nO, z_hI_nA, z_hL_nA, z_hR_nA, z_hA_nA, z_hB_nA, z_hC_nA, z_hT_nA, z_hN_nA, z_hZ_nA, if_true, if_false, and_false, false_and, and_true, true_and, and_self, decide_true, decide_false, reduceCtorEq, not_false_eq_true, not_true_eq_false, Nat.reduceEqDiff, Nat.reduceAdd, Nat.reduceMul, Nat.add_zero, Nat.zero_add]
                rw [Q4.A, Q3.A]
                exact q4
              · simp only [z_mI_mSI, z_mL_mSI, z_mA_mSI, z_mB_mSI, z_mI_mSL, z_mL_mSL, z_mA_mSL, z_mB_mSL, z_mI_mSA, z_mL_mSA, z_mA_mSA, z_mB_mSA, z_mI_mSB, z_mL_mSB, z_mA_mSB, z_mB_mSB, if_true, if_false, and_false, false_and, and_true, true_and, and_self, decide_true, decide_false, reduceCtorEq, not_false_eq_true, not_true_eq_false, Nat.reduceEqDiff, Nat.reduceAdd, Nat.reduceMul, Nat.add_zero, Nat.zero_add]
                rw [W4.A, W3.A]
                exact q5
              · simp only [z_mI_mSI, z_mL_mSI, z_mA_mSI, z_mB_mSI, z_mI_mSL, z_mL_mSL, z_mA_mSL, z_mB_mSL, z_mI_mSA, z_mL_mSA, z_mA_mSA, z_mB_mSA, z_mI_mSB, z_mL_mSB, z_mA_mSB, z_mB_mSB, if_true, if_false, and_false, false_and, and_true, true_and, and_self, decide_true, decide_false, reduceCtorEq, not_false_eq_true, not_true_eq_false, Nat.reduceEqDiff, Nat.reduceAdd, Nat.reduceMul, Nat.add_zero, Nat.zero_add]
                rw [W4.A, W3.A]
                exact q6
            · show NR (hB h4 9 c.nw) (mB u4 27 c.nw)
              rw [Q4.B, Q3.B, W4.B, W3.B]
              simp only [z_hI_sI, z_hL_sI, z_hR_sI, z_hA_sI, z_hB_sI, z_hC_sI, z_hT_sI, z_hN_sI, z_hZ_sI, z_hI_sL, z_hL_sL, z_hR_sL, z_hA_sL, z_hB_sL, z_hC_sL, z_hT_sL, z_hN_sL, z_hZ_sL, z_hI_sR, z_hL_sR, z_hR_sR, z_hA_sR, z_hB_sR, z_hC_sR, z_hT_sR, z_hN_sR, z_hZ_sR, z_hI_sA, z_hL_sA, z_hR_sA, z_hA_sA, z_hB_sA, z_hC_sA, z_hT_sA, z_hN_sA, z_hZ_sA, z_hI_sB, z_hL_sB, z_hR_sB, z_hA_sB, z_hB_sB, z_hC_sB, z_hT_sB, z_hN_sB, z_hZ_sB, z_hI_sC, z_hL_sC, z_hR_sC, z_hA_sC, z_hB_sC, z_hC_sC, z_hT_sC, z_hN_sC, z_hZ_sC, z_hI_sY, z_hL_sY, z_hR_sY, z_hA_sY, z_hB_sY, z_hC_sY, z_hT_sY, z_hN_sY, z_hZ_sY, z_hI_nO, z_hL_nO, z_hR_nO, z_hA_nO, z_hB_nO, z_hC_nO, z_hT_nO, z_hN_nO, z_hZ_nO, z_hI_nA, z_hL_nA, z_hR_nA, z_hA_nA, z_hB_nA, z_hC_nA, z_hT_nA, z_hN_nA, z_hZ_nA, z_mI_mSI, z_mL_mSI, z_mA_mSI, z_mB_mSI, z_mI_mSL, z_mL_mSL, z_mA_mSL, z_mB_mSL, z_mI_mSA, z_mL_mSA, z_mA_mSA, z_mB_mSA, z_mI_mSB, z_mL_mSB, z_mA_mSB, z_mB_mSB, if_true, if_false, and_false, false_and, and_true, true_and, and_self, decide_true, decide_false, reduceCtorEq, not_false_eq_true, not_true_eq_false, Nat.reduceEqDiff, Nat.reduceAdd, Nat.reduceMul, Nat.add_zero, Nat.zero_add]
              exact N
            · rcases orr with ⟨v2, er⟩ | ⟨v2, er, fp⟩
              · exact .inl ⟨v, v2, by simp only [z_hI_sI, z_hL_sI, z_hR_sI, z_hA_sI, z_hB_sI, z_hC_sI, z_hT_sI, z_hN_sI, z_hZ_sI, z_hI_sL, z_hL_sL, z_hR_sL, z_hA_sL, z_hB_sL, z_hC_sL, z_hT_sL, z_hN_sL, z_hZ_sL, z_hI_sR, z_hL_sR, z_hR_sR, z_hA_sR, z_hB_sR, z_hC_sR, z_hT_sR, z_hN_sR, z_hZ_sR, z_hI_sA, z_hL_sA, z_hR_sA, z_hA_sA, z_hB_sA, z_hC_sA, z_hT_sA, z_hN_sA, z_hZ_sA, z_hI_sB, z_hL_sB, z_hR_sB, z_hA_sB, z_hB_sB, z_hC_sB, z_hT_sB, z_hN_sB, z_hZ_sB, z_hI_sC, z_hL_sC, z_hR_sC, z_hA_sC, z_hB_sC, z_hC_sC, z_hT_sC, z_hN_sC, z_hZ_sC, z_hI_sY, z_hL_sY, z_hR_sY, z_hA_sY, z_hB_sY, z_hC_sY, z_hT_sY, z_hN_sY, z_hZ_sY, z_hI_nO, z_hL_nO, z_hR_nO, z_hA_nO, z_hB_nO, z_hC_nO, z_hT_nO, z_hN_nO, z_hZ_nO, z_hI_nA, z_hL_nA, z_hR_nA, z_hA_nA, z_hB_nA, z_hC_nA, z_hT_nA, z_hN_nA, z_hZ_nA, if_true, if_false, and_false, false_and, and_true, true_and, and_self, decide_true, decide_false, reduceCtorEq, not_false_eq_true, not_true_eq_false, Nat.reduceEqDiff, Nat.reduceAdd, Nat.reduceMul, Nat.add_zero, Nat.zero_add]; exact er, by simp only [z_mI_mSI, z_mL_mSI, z_mA_mSI, z_mB_mSI, z_mI_mSL, z_mL_mSL, z_mA_mSL, z_mB_mSL, z_mI_mSA, z_mL_mSA, z_mA_mSA, z_mB_mSA, z_mI_mSB, z_mL_mSB, z_mA_mSB, z_mB_mSB, if_true, if_false, and_false, false_and, and_true, true_and, and_self, decide_true, decide_false, reduceCtorEq, not_false_eq_true, not_true_eq_false, Nat.reduceEqDiff, Nat.reduceAdd, Nat.reduceMul, Nat.add_zero, Nat.zero_add]⟩
              · refine .inr ⟨(D (t + 1 + 1)).1, ?_, D3⟩
                obtain ⟨p1, p, p2, p3, p4⟩ := M4 _ fp
                exact ⟨by simp only [z_mI_mSI, z_mL_mSI, z_mA_mSI, z_mB_mSI, z_mI_mSL, z_mL_mSL, z_mA_mSL, z_mB_mSL, z_mI_mSA, z_mL_mSA, z_mA_mSA, z_mB_mSA, z_mI_mSB, z_mL_mSB, z_mA_mSB, z_mB_mSB, if_true, if_false, and_false, false_and, and_true, true_and, and_self, decide_true, decide_false, reduceCtorEq, not_false_eq_true, not_true_eq_false, Nat.reduceEqDiff, Nat.reduceAdd, Nat.reduceMul, Nat.add_zero, Nat.zero_add]; exact p1, p, p2, p3, by simp only [z_mI_mSI, z_mL_mSI, z_mA_mSI, z_mB_mSI, z_mI_mSL, z_mL_mSL, z_mA_mSL, z_mB_mSL, z_mI_mSA, z_mL_mSA, z_mA_mSA, z_mB_mSA, z_mI_mSB, z_mL_mSB, z_mA_mSB, z_mB_mSB, if_true, if_false, and_false, false_and, and_true, true_and, and_self, decide_true, decide_false, reduceCtorEq, not_false_eq_true, not_true_eq_false, Nat.reduceEqDiff, Nat.reduceAdd, Nat.reduceMul, Nat.add_zero, Nat.zero_add]; exact p4⟩
        · refine ⟨_, u4, eF, ?_, I5, hNN, gg h4 518 (by omega) Q4, gg h4 519 (by omega) Q4, .inr ⟨X4.st, X4.fa, X4.pl, X4.kd, X4.tt⟩⟩
          rw [e2, oB_v, e4', oB2_v, e6', oB2_v, e8', oB_v, if_neg X4.f.2.1]
      · have e7 := expect_d S3 X3 (k := 5) (by omega) (by omega)
        rw [c59] at e7
        have I5 : PI (sA h3 16 c.nw r3) u3 G z L n D := I3.cq (CD.pl S3 le.2.1 r3)
        refine ⟨sA h3 16 c.nw r3, u3, ?_, ?_, I5, Q3.N.trans (Q1.N.trans Q0.N), gg h3 518 (by omega) (Q.refl h3), gg h3 519 (by omega) (Q.refl h3), .inr ⟨X3.st, X3.fa, X3.pl, X3.kd, X3.tt⟩⟩
        · rw [hd, e3, oB2_v, oC_d S2.t23, e5', oB2_v, oC_d S3.t23, e7, oB2_v, oC_d S3.t23, S3.r512_23, oN_v, oC_d S3.t5, setPlaces_v S3 (sz h3 (Q.refl h3)) (by omega) (by omega), oB_v]
        · rw [e2, oB_v, e4', oB2_v, e6', oB2_v, must_d X3, oB_v, if_neg X3.f.2.1]
    · have e4' : fX12_tells u0 27 (mI u0 19) 12 = some (u1, nI (t + 1)) := by rw [w19]; exact e4
      have e7 := expect_d S1 X1 (k := 5) (by omega) (by omega)
      rw [c59] at e7
      refine ⟨h1, u1, ?_, ?_, I1, Q1.N.trans Q0.N, (Q1.g 518 (by omega)).trans (Q0.g 518 (by omega)), (Q1.g 519 (by omega)).trans (Q0.g 519 (by omega)), .inr X1⟩
      · rw [hd, e3, oB2_v, oC_d S1.t23, int_d S1 X1, oB2_v, oC_d S1.t23, e7, oB2_v, oC_d S1.t23, S1.r512_23, oN_v, oC_d S1.t5, setPlaces_n, oB_v]
      · rw [e2, oB_v, e4', oB2_v, whole_d X1, oB2_v, must_d X1, oB_v, if_neg X1.f.2.1]
  · have e7 := expect_d S0 X0 (k := 5) (by omega) (by omega)
    rw [c59] at e7
    refine ⟨h0, u0, ?_, ?_, I0, Q0.N, Q0.g 518 (by omega), Q0.g 519 (by omega), .inr X0⟩
    · rw [hd, tell_dc S0 X0, oB2_v, oC_d S0.t23, int_d S0 X0, oB2_v, oC_d S0.t23, e7, oB2_v, oC_d S0.t23, S0.r512_23, oN_v, oC_d S0.t5, setPlaces_n, oB_v]
    · rw [e2, oB_v, tell_dm X0 (by decide), oB2_v, whole_d X0, oB2_v, must_d X0, oB_v, if_neg X0.f.2.1]
end WO
