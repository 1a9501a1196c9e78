def trC (y : Nat) (h72 : PH) (r71 : Int32) : Option (PH × Nat × Nat) := oC (decide (hT h72 5 = 2)) (oB4 (fX1_newRule h72 5 r71 (nI y)) (fun h76 r75 i77 j78 => oK3 i77 j78 (if r75 = none then (some (h76, 0, 0)) else (oC (decide (hT h76 23 = 5)) (oB2 (fX4_expect h76 23 58) (fun h85 r84 => oC (decide (hT h85 23 = 5)) (if (hI h85 521 23) = 256 then (fX4_tellRule_67 h85 23 (nI (309 + y)) r75 0) else (fX4_tellRule_67 h85 23 (nI (309 + y)) r75 1))))))))
def trM (y : Nat) (l : Int32) (h81 : MS) : Option MS := oB (fX12_must h81 6) (fun h83 => if (mI h83 13) ≤ 0 then (oL (mSI h83 65 (mI h83 22)) (fun h85 => oC (ix (mI h85 65) (mlen 39)) (oL (mSA h85 39 (Int32.toNatClampNeg (mI h85 65)) l) (fun h87 => oC (ix (mI h87 65) (mlen 40)) (oL (mSA h87 40 (Int32.toNatClampNeg (mI h87 65)) (nI y)) (fun h89 => oC (ix (mI h89 65) (mlen 41)) (oL (mSA h89 41 (Int32.toNatClampNeg (mI h89 65)) 0) (fun h91 => oC (ix (mI h91 65) (mlen 42)) (oL (mSA h91 42 (Int32.toNatClampNeg (mI h91 65)) 0) (fun h93 => oB (fX12_is h93 15) (fun r95 => if r95 = 0 then (fX12_tellRule_106 FU h93 (nI y) 1) else (fX12_tellRule_142 h93 (nI y))))))))))))) else (some (h83)))
section TS2
variable {h h' : PH} {u u' : MS} {G G' : Gh} {z c : Sz} {L n t y : Nat} {D : Nat → Nat × Nat × Nat × List Nat}
theorem LR.s516 (R : LR h u G z c n D t) (S : SX h G) (F : FL h u) (x : Int32) : LR (sI h 516 23 x) u G z c n D t := by
  have i : ∀ f b, ¬ (f = 516 ∧ b = 23) → hI (sI h 516 23 x) f b = hI h f b := fun f b q => by simp only [z_hI_sI, z_hL_sI, z_hR_sI, z_hA_sI, z_hB_sI, z_hC_sI, z_hT_sI, z_hN_sI, z_hZ_sI, z_hI_sL, z_hL_sL, z_hR_sL, z_hA_sL, z_hB_sL, z_hC_sL, z_hT_sL, z_hN_sL, z_hZ_sL, z_hI_sR, z_hL_sR, z_hR_sR, z_hA_sR, z_hB_sR, z_hC_sR, z_hT_sR, z_hN_sR, z_hZ_sR, z_hI_sA, z_hL_sA, z_hR_sA, z_hA_sA, z_hB_sA, z_hC_sA, z_hT_sA, z_hN_sA, z_hZ_sA, z_hI_sB, z_hL_sB, z_hR_sB, z_hA_sB, z_hB_sB, z_hC_sB, z_hT_sB, z_hN_sB, z_hZ_sB, z_hI_sC, z_hL_sC, z_hR_sC, z_hA_sC, z_hB_sC, z_hC_sC, z_hT_sC, z_hN_sC, z_hZ_sC, z_hI_sY, z_hL_sY, z_hR_sY, z_hA_sY, z_hB_sY, z_hC_sY, z_hT_sY, z_hN_sY, z_hZ_sY, z_hI_nO, z_hL_nO, z_hR_nO, z_hA_nO, z_hB_nO, z_hC_nO, z_hT_nO, z_hN_nO, z_hZ_nO, z_hI_nA, z_hL_nA, z_hR_nA, z_hA_nA, z_hB_nA, z_hC_nA, z_hT_nA, z_hN_nA, z_hZ_nA]; rw [if_neg q]
  obtain ⟨c1, c2, c3, c4, c5, c6, c7⟩ := R.zc
  exact LR.mk R.le R.ok ⟨(i _ _ (by omega)).trans c1, (i _ _ (by omega)).trans c2, (i _ _ (by omega)).trans c3, (i _ _ (by omega)).trans c4, (i _ _ (by omega)).trans c5, (i _ _ (by omega)).trans c6, (i _ _ (by omega)).trans c7⟩ R.zm ((i _ _ (by omega)).trans R.o1) R.o2 R.ot (R.ct.d F (CD.s23 S R.ct.rG 516 x) (MD.refl u c) (FM.refl u) (Nat.le_refl _)) R.p1 R.p2 R.p3 R.p4
/-- a rule, in both -/
theorem rule_v (I : PI h u G z L n D) (V : Liv h u D n t) (F : FL h u) (R : LR h u G z c n D t) (hl : z.nl < c.nl) (y2 : y ≤ 2) (e : (D t).2.1 = 29 + y) : TO h G z c c.nr L n D t 10 76 (fun f => hI h f 23) (fX4_tellRule h 23) (fX12_tellRule u (nI (c.nl - 1))) := by
  have S := I.sx
  have nr := I.kr.nrG
  have n2 := I.ts.n2
  have lt := V.lt
  have le := R.le
  have l10 := R.ok.2.2.2.1
  have i0 : ∀ f b, ¬ (f = 516 ∧ b = 23) → hI (sI h 516 23 0) f b = hI h f b := fun f b q => by simp only [z_hI_sI, z_hL_sI, z_hR_sI, z_hA_sI, z_hB_sI, z_hC_sI, z_hT_sI, z_hN_sI, z_hZ_sI, z_hI_sL, z_hL_sL, z_hR_sL, z_hA_sL, z_hB_sL, z_hC_sL, z_hT_sL, z_hN_sL, z_hZ_sL, z_hI_sR, z_hL_sR, z_hR_sR, z_hA_sR, z_hB_sR, z_hC_sR, z_hT_sR, z_hN_sR, z_hZ_sR, z_hI_sA, z_hL_sA, z_hR_sA, z_hA_sA, z_hB_sA, z_hC_sA, z_hT_sA, z_hN_sA, z_hZ_sA, z_hI_sB, z_hL_sB, z_hR_sB, z_hA_sB, z_hB_sB, z_hC_sB, z_hT_sB, z_hN_sB, z_hZ_sB, z_hI_sC, z_hL_sC, z_hR_sC, z_hA_sC, z_hB_sC, z_hC_sC, z_hT_sC, z_hN_sC, z_hZ_sC, z_hI_sY, z_hL_sY, z_hR_sY, z_hA_sY, z_hB_sY, z_hC_sY, z_hT_sY, z_hN_sY, z_hZ_sY, z_hI_nO, z_hL_nO, z_hR_nO, z_hA_nO, z_hB_nO, z_hC_nO, z_hT_nO, z_hN_nO, z_hZ_nO, z_hI_nA, z_hL_nA, z_hR_nA, z_hA_nA, z_hB_nA, z_hC_nA, z_hT_nA, z_hN_nA, z_hZ_nA]; rw [if_neg q]
  have I0 : PI (sI h 516 23 0) u G z L n D := I.cq (CD.s23 S nr 516 0)
  have S0 := I0.sx
  have V0 : Liv (sI h 516 23 0) u D n t := ⟨V.lt, (i0 _ _ (by omega)).trans V.at_, (i0 _ _ (by omega)).trans V.kd, (i0 _ _ (by omega)).trans V.pl, V.vl, (i0 _ _ (by omega)).trans V.st, V.f0, V.t0⟩
  have F0 : FL (sI h 516 23 0) u := F.fr (i0 _ _ (by omega)) (i0 _ _ (by omega)) rfl rfl
  have R0 : LR (sI h 516 23 0) u G z c n D t := R.s516 S F 0
  have v0 : hI (sI h 516 23 0) 516 23 = 0 := by simp only [z_hI_sI, z_hL_sI, z_hR_sI, z_hA_sI, z_hB_sI, z_hC_sI, z_hT_sI, z_hN_sI, z_hZ_sI, z_hI_sL, z_hL_sL, z_hR_sL, z_hA_sL, z_hB_sL, z_hC_sL, z_hT_sL, z_hN_sL, z_hZ_sL, z_hI_sR, z_hL_sR, z_hR_sR, z_hA_sR, z_hB_sR, z_hC_sR, z_hT_sR, z_hN_sR, z_hZ_sR, z_hI_sA, z_hL_sA, z_hR_sA, z_hA_sA, z_hB_sA, z_hC_sA, z_hT_sA, z_hN_sA, z_hZ_sA, z_hI_sB, z_hL_sB, z_hR_sB, z_hA_sB, z_hB_sB, z_hC_sB, z_hT_sB, z_hN_sB, z_hZ_sB, z_hI_sC, z_hL_sC, z_hR_sC, z_hA_sC, z_hB_sC, z_hC_sC, z_hT_sC, z_hN_sC, z_hZ_sC, z_hI_sY, z_hL_sY, z_hR_sY, z_hA_sY, z_hB_sY, z_hC_sY, z_hT_sY, z_hN_sY, z_hZ_sY, z_hI_nO, z_hL_nO, z_hR_nO, z_hA_nO, z_hB_nO, z_hC_nO, z_hT_nO, z_hN_nO, z_hZ_nO, z_hI_nA, z_hL_nA, z_hR_nA, z_hA_nA, z_hB_nA, z_hC_nA, z_hT_nA, z_hN_nA, z_hZ_nA, if_true, if_false, and_false, false_and, and_true, true_and, and_self, decide_true, decide_false, reduceCtorEq, not_false_eq_true, not_true_eq_false, Nat.reduceEqDiff, Nat.reduceAdd, Nat.reduceMul, Nat.add_zero, Nat.zero_add]
  have kd : hI h 521 23 = nI (309 + y) := by rw [V.kd, e, cK_29 y2]
  have k5 : mA u 5 t = nI (29 + y) := by
    have := (I.ts.tk t lt).2.2.2.1
    rw [this, e]
  have sb9 : nI (309 + y) - 309 = nI y := by
    have : y = 0 ∨ y = 1 ∨ y = 2 := by omega
    rcases this with q | q | q <;> subst q <;> decide
  have sb29 : nI (29 + y) - 29 = nI y := by
    rw [show (29 : Int32) = nI 29 from rfl, nI_sub (by omega)]
    congr 1; omega
  obtain ⟨h1, u1, r1, e1, e2, Q1, W1, o1⟩ := pass_v I0 V0 F0 (kw := 29 + y) (by omega) (by omega) (by omega) e
  rw [cK_29 y2] at e1
  have I1 := I0.q Q1 W1
  have S1 := I1.sx
  have cl : (nI c.nr).toNatClampNeg = c.nr := nI_clamp (show c.nr < 2147483648 by have := R.ok.2.2.2.2.1; omega)
  have m22 : mI u1 22 = nI c.nr := (W1.I 22 (by omega)).trans R.zm.2.2.2.2.1
  have hC1 : fX4_tellRule h 23 = oB2 (fX4_tellName h1 23 (some 14)) (fun h72 r71 => trC y h72 r71) := by
    unfold fX4_tellRule fX4_tellRule_0 trC
    rw [oC_d S.t23, oL_v, kd, oL_v, e1, oB2_v, oC_d S1.t23, S1.r512_23, oN_v, oC_d S1.t5, S1.r132_5, sb9]
  have hM1 : fX12_tellRule u (nI (c.nl - 1)) = oB2 (fX12_tells u1 38 (nI c.nr) 30) (fun h81 _ => trM y (nI (c.nl - 1)) h81) := by
    unfold fX12_tellRule fX12_tellRule_0 trM
    rw [V.t0, oC_t (ix_n (show t < mlen 5 by show t < 1203; omega) (by decide)), nI_clamp (show t < 2147483648 by omega), k5, sb29, oL_v, e2, oB_v, m22]
  rw [hC1, hM1]
  have stop : ∀ {hh : PH} {uu : MS}, Ded hh uu → PI hh uu G z L n D → hN hh = hN h → (∀ f, f < 520 → f ≠ 516 → hI hh f 23 = hI h f 23) → fX4_tellName h1 23 (some 14) = some (hh, -1) → ∀ r, fX12_tells u1 38 (nI c.nr) 30 = some (uu, r) → TO h G z c c.nr L n D t 10 76 (fun f => hI h f 23) (oB2 (fX4_tellName h1 23 (some 14)) (fun h72 r71 => trC y h72 r71)) (oB2 (fX12_tells u1 38 (nI c.nr) 30) (fun h81 _ => trM y (nI (c.nl - 1)) h81)) := fun {hh uu} X Ih hn hg ec r em => by
    have Sh := Ih.sx
    have nr0 : fX1_newRule hh 5 (-1) (nI y) = some (hh, none, 0, 0) := by
      unfold fX1_newRule fX1_newRule_0
      rw [if_pos (by decide)]
    refine ⟨hh, G, 0 + 0, 0 + 0, uu, ?_, ?_, (RC.n hn).x 10 76, hg, .inr ⟨Ih, X⟩⟩
    · rw [ec, oB2_v]
      unfold trC
      rw [oC_d Sh.t5, nr0, oB4_v, if_pos rfl, oK3_v]
    · rw [em, oB2_v]
      unfold trM
      rw [must_d X, oB_v, if_neg X.f.2.1]
  have g1 : ∀ f, f < 520 → f ≠ 516 → hI h1 f 23 = hI h f 23 := fun f a b => (Q1.g f a).trans (i0 f 23 (by omega))
  rcases o1 with ⟨_, c1, V1, F1, M1⟩ | ⟨_, X1⟩
  · have D1 : (D t).1 ≤ (D (t + 1)).1 := I.ts.le (by omega) V1.lt
    have R1 := R0.q (t' := t + 1) S0 F0 Q1 W1 M1 (by omega) D1
    obtain ⟨h2, u2, Q2, W2, o2⟩ := tell_v I1 V1 F1 (R1.roR S1)
    have I2 := I1.q Q2 W2
    have S2 := I2.sx
    have g2 : ∀ f, f < 520 → f ≠ 516 → hI h2 f 23 = hI h f 23 := fun f a b => (Q2.g f a).trans (g1 f a b)
    have n2' : hN h2 = hN h := Q2.N.trans Q1.N
    rcases o2 with ⟨x, x', N, ck, sm, c2, V2, F2, M2, ec, em⟩ | ⟨X2, ec, em⟩
    · have em' : fX12_tells u1 38 (nI c.nr) 30 = some (mSB u2 38 c.nr x', nI (t + 1)) := em
      have D2 : (D (t + 1)).1 ≤ (D (t + 1 + 1)).1 := I.ts.le (by omega) V2.lt
      have R2 := R1.q (t' := t + 1 + 1) S1 F1 Q2 W2 M2 (by omega) D2
      have v2 : hI h2 516 23 = 0 := (Q2.g 516 (by omega)).trans ((Q1.g 516 (by omega)).trans v0)
      have nr2 := I2.kr.nrG
      have Cadd : ∀ zz : Sz, zz.nr ≤ G.nr → zz.nr ≤ c.nr → CD h2 (sI (sB h2 15 c.nr x) 897 14 (nI (c.nr + 1))) G G zz := fun zz h1 h2 => CD.add S2 h1 (.inr (.inr (.inr (.inr ⟨rfl, rfl, h2⟩))))
      have S3 : SX (sI (sB h2 15 c.nr x) 897 14 (nI (c.nr + 1))) G := S2
      have s12 : hI (sI (sB h2 15 c.nr x) 897 14 (nI (c.nr + 1))) 897 12 = nI c.nl := by simp only [z_hI_sI, z_hL_sI, z_hR_sI, z_hA_sI, z_hB_sI, z_hC_sI, z_hT_sI, z_hN_sI, z_hZ_sI, z_hI_sL, z_hL_sL, z_hR_sL, z_hA_sL, z_hB_sL, z_hC_sL, z_hT_sL, z_hN_sL, z_hZ_sL, z_hI_sR, z_hL_sR, z_hR_sR, z_hA_sR, z_hB_sR, z_hC_sR, z_hT_sR, z_hN_sR, z_hZ_sR, z_hI_sA, z_hL_sA, z_hR_sA, z_hA_sA, z_hB_sA, z_hC_sA, z_hT_sA, z_hN_sA, z_hZ_sA, z_hI_sB, z_hL_sB, z_hR_sB, z_hA_sB, z_hB_sB, z_hC_sB, z_hT_sB, z_hN_sB, z_hZ_sB, z_hI_sC, z_hL_sC, z_hR_sC, z_hA_sC, z_hB_sC, z_hC_sC, z_hT_sC, z_hN_sC, z_hZ_sC, z_hI_sY, z_hL_sY, z_hR_sY, z_hA_sY, z_hB_sY, z_hC_sY, z_hT_sY, z_hN_sY, z_hZ_sY, z_hI_nO, z_hL_nO, z_hR_nO, z_hA_nO, z_hB_nO, z_hC_nO, z_hT_nO, z_hN_nO, z_hZ_nO, z_hI_nA, z_hL_nA, z_hR_nA, z_hA_nA, z_hB_nA, z_hC_nA, z_hT_nA, z_hN_nA, z_hZ_nA, if_true, if_false, and_false, false_and, and_true, true_and, and_self, decide_true, decide_false, reduceCtorEq, not_false_eq_true, not_true_eq_false, Nat.reduceEqDiff, Nat.reduceAdd, Nat.reduceMul, Nat.add_zero, Nat.zero_add]; exact R2.zc.2.2.2.1
      have s14 : hI (sI (sB h2 15 c.nr x) 897 14 (nI (c.nr + 1))) 897 14 = nI (c.nr + 1) := by simp only [z_hI_sI, z_hL_sI, z_hR_sI, z_hA_sI, z_hB_sI, z_hC_sI, z_hT_sI, z_hN_sI, z_hZ_sI, z_hI_sL, z_hL_sL, z_hR_sL, z_hA_sL, z_hB_sL, z_hC_sL, z_hT_sL, z_hN_sL, z_hZ_sL, z_hI_sR, z_hL_sR, z_hR_sR, z_hA_sR, z_hB_sR, z_hC_sR, z_hT_sR, z_hN_sR, z_hZ_sR, z_hI_sA, z_hL_sA, z_hR_sA, z_hA_sA, z_hB_sA, z_hC_sA, z_hT_sA, z_hN_sA, z_hZ_sA, z_hI_sB, z_hL_sB, z_hR_sB, z_hA_sB, z_hB_sB, z_hC_sB, z_hT_sB, z_hN_sB, z_hZ_sB, z_hI_sC, z_hL_sC, z_hR_sC, z_hA_sC, z_hB_sC, z_hC_sC, z_hT_sC, z_hN_sC, z_hZ_sC, z_hI_sY, z_hL_sY, z_hR_sY, z_hA_sY, z_hB_sY, z_hC_sY, z_hT_sY, z_hN_sY, z_hZ_sY, z_hI_nO, z_hL_nO, z_hR_nO, z_hA_nO, z_hB_nO, z_hC_nO, z_hT_nO, z_hN_nO, z_hZ_nO, z_hI_nA, z_hL_nA, z_hR_nA, z_hA_nA, z_hB_nA, z_hC_nA, z_hT_nA, z_hN_nA, z_hZ_nA, if_true, if_false, and_false, false_and, and_true, true_and, and_self, decide_true, decide_false, reduceCtorEq, not_false_eq_true, not_true_eq_false, Nat.reduceEqDiff, Nat.reduceAdd, Nat.reduceMul, Nat.add_zero, Nat.zero_add]
      obtain ⟨h4', G4, i4, j4, eN, hi4, hj4, NWx⟩ := newRule_v S3 R.ct.rG sm (show 1 ≤ c.nl by omega) l10 s12 s14 (nI y)
      have zc : z.nr ≤ c.nr := le.2.2.2.2.1
      have I4 : PI h4' (mSB u2 38 c.nr x') G4 z L n D := I2.d (CD.trans nr2 (Cadd z nr2 zc) (NWx.cd z zc hl)) ((MD.refl u2 z).sB (by omega) (by unfold kM; omega)) (by
        rw [NWx.pg, NWx.N _ (S2.lt S2.tpg (by omega))]
        exact I2.rm.p3)
      have S4 := I4.sx
      have zz := S2.zz
      have r30 := S4.nr30
      have n23 : (23 : Nat) ≠ G4.rl c.nr := ne_ow S4.o23 (S4.rlo c.nr NWx.wG) (by omega)
      have g4 : ∀ f, hI h4' f 23 = hI h2 f 23 := fun f => by
        rw [NWx.I f 23 (show 23 < hZ h2 by omega) n23]
        simp only [z_hI_sI, z_hL_sI, z_hR_sI, z_hA_sI, z_hB_sI, z_hC_sI, z_hT_sI, z_hN_sI, z_hZ_sI, z_hI_sL, z_hL_sL, z_hR_sL, z_hA_sL, z_hB_sL, z_hC_sL, z_hT_sL, z_hN_sL, z_hZ_sL, z_hI_sR, z_hL_sR, z_hR_sR, z_hA_sR, z_hB_sR, z_hC_sR, z_hT_sR, z_hN_sR, z_hZ_sR, z_hI_sA, z_hL_sA, z_hR_sA, z_hA_sA, z_hB_sA, z_hC_sA, z_hT_sA, z_hN_sA, z_hZ_sA, z_hI_sB, z_hL_sB, z_hR_sB, z_hA_sB, z_hB_sB, z_hC_sB, z_hT_sB, z_hN_sB, z_hZ_sB, z_hI_sC, z_hL_sC, z_hR_sC, z_hA_sC, z_hB_sC, z_hC_sC, z_hT_sC, z_hN_sC, z_hZ_sC, z_hI_sY, z_hL_sY, z_hR_sY, z_hA_sY, z_hB_sY, z_hC_sY, z_hT_sY, z_hN_sY, z_hZ_sY, z_hI_nO, z_hL_nO, z_hR_nO, z_hA_nO, z_hB_nO, z_hC_nO, z_hT_nO, z_hN_nO, z_hZ_nO, z_hI_nA, z_hL_nA, z_hR_nA, z_hA_nA, z_hB_nA, z_hC_nA, z_hT_nA, z_hN_nA, z_hZ_nA, if_true, if_false, and_false, false_and, and_true, true_and, and_self, decide_true, decide_false, reduceCtorEq, not_false_eq_true, not_true_eq_false, Nat.reduceEqDiff, Nat.reduceAdd, Nat.reduceMul, Nat.add_zero, Nat.zero_add]
      have l4 : hL h4' 523 23 = hL h2 523 23 := NWx.L 523 23 (show 23 < hZ h2 by omega)
      have V4 : Liv h4' (mSB u2 38 c.nr x') D n (t + 1 + 1) := ⟨V2.lt, (g4 _).trans V2.at_, (g4 _).trans V2.kd, (g4 _).trans V2.pl, l4.trans V2.vl, (g4 _).trans V2.st, V2.f0, V2.t0⟩
      have F4 : FL h4' (mSB u2 38 c.nr x') := F2.fr (g4 _) (g4 _) rfl rfl
      obtain ⟨h5, u5, r5, e5, e6, Q5, W5, o5⟩ := want_v I4 V4 F4 (k := 6) (by omega) (by omega) (by omega)
      have e5' : fX4_expect h4' 23 58 = some (h5, r5) := e5
      have e6' : fX12_must (mSB u2 38 c.nr x') 6 = some u5 := e6
      have S5 := Q5.sx S4
      have np : hN h5 G4.pg = hN h G.pg := by
        have q1 : hN h4' G.pg = hN h2 G.pg := NWx.N _ (show G.pg < hZ h2 from S2.lt S2.tpg (by omega))
        rw [NWx.pg, Q5.N, q1, n2']
      have gd4 := (NWx.cd Sz.nil (Nat.zero_le _) (show 0 < c.nl by omega)).gd
      have N5 : ∀ b, b < hZ h2 → hN h5 b = hN h2 b := fun b hb => by rw [Q5.N]; exact NWx.N b hb
      have pe : pot h5 G4 = pot h G := by
        have p := pot_g S2 gd4 N5
        rw [pot_n G n2', n2'] at p
        omega
      have C5 : RCx h h5 G G4 i4 j4 3 20 := ⟨by rw [pe]; omega, by rw [pe]; omega⟩
      have g5 : ∀ f, f < 520 → f ≠ 516 → hI h5 f 23 = hI h f 23 := fun f a b => (Q5.g f a).trans ((g4 f).trans (g2 f a b))
      rw [ec, oB2_v, em', oB2_v]
      unfold trC trM
      rw [oC_d S3.t5, eN, oB4_v, if_neg (by simp), oC_d S4.t23, e5', oB2_v, oC_d S5.t23, e6', oB_v]
      rcases o5 with ⟨_, _, c5, V5, F5, M5⟩ | ⟨_, X5⟩
      · have X6 := RX.new I2 R2 F2 N sm hl y2 v2 NWx I4 Q5 W5 M5 V5 F5 (by omega)
        have m225 : mI u5 22 = nI c.nr := (W5.I 22 (by omega)).trans R2.zm.2.2.2.2.1
        have k65 : ∀ (a1 a2 a3 : Nat) (y1 y2 y3 : Int32), mI (mSA (mSA (mSA (mSI u5 65 (nI c.nr)) a1 c.nr y1) a2 c.nr y2) a3 c.nr y3) 65 = nI c.nr ∧ mI (mSA (mSA (mSI u5 65 (nI c.nr)) a1 c.nr y1) a2 c.nr y2) 65 = nI c.nr ∧ mI (mSA (mSI u5 65 (nI c.nr)) a1 c.nr y1) 65 = nI c.nr ∧ mI (mSI u5 65 (nI c.nr)) 65 = nI c.nr := fun _ _ _ _ _ _ => by
          refine ⟨?_, ?_, ?_, ?_⟩ <;> simp only [z_mI_mSI, z_mL_mSI, z_mA_mSI, z_mB_mSI, z_mI_mSL, z_mL_mSL, z_mA_mSL, z_mB_mSL, z_mI_mSA, z_mL_mSA, z_mA_mSA, z_mB_mSA, z_mI_mSB, z_mL_mSB, z_mA_mSB, z_mB_mSB, if_true, if_false, and_false, false_and, and_true, true_and, and_self, decide_true, decide_false, reduceCtorEq, not_false_eq_true, not_true_eq_false, Nat.reduceEqDiff, Nat.reduceAdd, Nat.reduceMul, Nat.add_zero, Nat.zero_add]
        rw [V5.f0, if_pos (show (0 : Int32) ≤ 0 by decide), m225, oL_v, (k65 0 0 0 0 0 0).2.2.2, oC_t (iw sm (by decide)), oL_v, cl, (k65 39 0 0 (nI (c.nl - 1)) 0 0).2.2.1, oC_t (iw sm (by decide)), oL_v, cl, (k65 39 40 0 (nI (c.nl - 1)) (nI y) 0).2.1, oC_t (iw sm (by decide)), oL_v, cl, (k65 39 40 41 (nI (c.nl - 1)) (nI y) 0).1, oC_t (iw sm (by decide)), oL_v, cl]
        obtain ⟨g, hg⟩ : ∃ g, FU = g + 1 := ⟨FU - 1, by rw [FU_v]⟩
        have TT : TO h5 G4 z c c.nr L n D (t + 1 + 1 + 1) 7 56 (fun f => hI h5 f 23) (if (hI h5 521 23) = 256 then (fX4_tellRule_67 h5 23 (nI (309 + y)) (some (G4.rl c.nr)) 0) else (fX4_tellRule_67 h5 23 (nI (309 + y)) (some (G4.rl c.nr)) 1)) (oB (fX12_is (mSA (mSA (mSA (mSA (mSI u5 65 (nI c.nr)) 39 c.nr (nI (c.nl - 1))) 40 c.nr (nI y)) 41 c.nr 0) 42 c.nr 0) 15) (fun r95 => if r95 = 0 then (fX12_tellRule_106 FU (mSA (mSA (mSA (mSA (mSI u5 65 (nI c.nr)) 39 c.nr (nI (c.nl - 1))) 40 c.nr (nI y)) 41 c.nr 0) 42 c.nr 0) (nI y) 1) else (fX12_tellRule_142 (mSA (mSA (mSA (mSA (mSI u5 65 (nI c.nr)) 39 c.nr (nI (c.nl - 1))) 40 c.nr (nI y)) 41 c.nr 0) 42 c.nr 0) (nI y)))) := by
          unfold fX4_tellRule_67
          by_cases c15 : (D (t + 1 + 1 + 1)).2.1 = 15
          · have is15 : fX12_is (mSA (mSA (mSA (mSA (mSI u5 65 (nI c.nr)) 39 c.nr (nI (c.nl - 1))) 40 c.nr (nI y)) 41 c.nr 0) 42 c.nr 0) 15 = some 1 := is_y X6.i X6.V (kw := 15) (by omega) c15
            rw [if_pos (show hI h5 521 23 = 256 from kd_y X6.V c15), is15, oB_v, if_neg (by decide), hg, l71_0]
            exact (head_v X6).mono (by omega) (by omega)
          · have is15 : fX12_is (mSA (mSA (mSA (mSA (mSI u5 65 (nI c.nr)) 39 c.nr (nI (c.nl - 1))) 40 c.nr (nI y)) 41 c.nr 0) 42 c.nr 0) 15 = some 0 := is_n X6.i X6.V (kw := 15) (by omega) c15
            rw [if_neg (show ¬ hI h5 521 23 = 256 from kd_n X6.i X6.V (kw := 15) (by omega) c15), is15, oB_v, if_pos rfl]
            exact (conds_v 7 h5 _ G4 0 (t + 1 + 1 + 1) c.pc c.rc 0 FU FU rfl X6 (by rw [FU_v]; omega) (by rw [FU_v]; omega)).mono (by omega) (by omega)
        exact TO.q rfl (fun x q1 q2 => g5 x q1 q2) (Nat.le_refl _) ((TO.pre C5 (show t ≤ t + 1 + 1 + 1 by omega) TT).mono (e1 := 10) (f1 := 76) (by omega) (by omega))
      · have k264 : ¬ hI h5 521 23 = 256 := by rw [X5.kd]; decide
        have es : fX4_startCondition h5 23 (some (G4.rl c.nr)) = some (h5, none, 0, 0) := by
          unfold fX4_startCondition fX4_startCondition_0
          rw [oC_d S5.t23, oL_v, X5.kd, if_neg (by decide), if_neg (by decide), if_neg (by decide), if_neg (by decide), if_neg (by decide), stopAt_d S5 X5, oB_v]
        obtain ⟨g, hg⟩ : ∃ g, FU = g + 1 := ⟨FU - 1, by rw [FU_v]⟩
        have e67 : fX4_tellRule_67 h5 23 (nI (309 + y)) (some (G4.rl c.nr)) 1 = some (h5, 0 + 0, 0 + 0) := by
          unfold fX4_tellRule_67
          rw [hg]
          show fX4_tellRule_71F (fX4_tellRule_71 g) h5 23 (nI (309 + y)) (some (G4.rl c.nr)) 1 0 = _
          unfold fX4_tellRule_71F
          rw [if_neg (by decide), if_neg (by decide), oC_d S5.t23, es, oB4_v, if_pos rfl, oK3_v]
        rw [if_neg k264, e67, oK3_v, if_neg X5.f.2.1]
        exact ⟨h5, G4, _, _, u5, rfl, rfl, C5.mono (by omega) (by omega), g5, .inr ⟨I4.q Q5 W5, X5⟩⟩
    · exact stop X2 I2 n2' g2 ec _ em
  · exact stop X1 I1 Q1.N g1 (tell_dc S1 X1 14) _ (tell_dm X1 (by decide) (nI c.nr) 30)
end TS2
