section TK
variable {h h' : PH} {u u' : MS} {G G' : Gh} {z c : Sz} {w v v' L n t t' pc rc pc' rc' y kc k a B : Nat} {D : Nat → Nat × Nat × Nat × List Nat}
theorem head_take (X : RX h u G z c w v L n D t pc rc y k k) (hy : y = 2) : TO h G z c w L n D t 0 0 (fun f => hI h f 23) (oB3 (fX4_takeHead h 23 (some (G.hd w))) (fun h23 i24 j25 => oK3 i24 j25 (fX4_tellRule_195 h23 23 (some (G.rl w))))) (hMt u) := by
  have S := X.i.sx
  have wG := X.wG
  have w3 := X.K.w3
  have bp := X.bp
  have b1 := X.b1
  have zs := X.zs
  have ta := S.hdT w wG
  have cl : (nI w).toNatClampNeg = w := nI_clamp (show w < 2147483648 by omega)
  obtain ⟨a, ea⟩ : ∃ a, G.hd w = a := ⟨_, rfl⟩
  have oo := S.hdo w wG
  rw [ea] at ta oo
  have ob : OB G w a := .inl oo
  have oa : OA G w k a := .inr (.inl oo)
  have n23 := ob.n23 S w3
  have a5 : 5 ≠ a := ob.ne w3 S.o5 (by omega)
  have la := S.lt ta (by omega)
  have X1 := X.setC oa ob 258 (by omega) 1
  have S1 := X1.i.sx
  have D1 : DD h u (sI h 258 a 1) u G G z w := DD.sI S ob w3 258 (by omega) 1
  have ta1 : hT (sI h 258 a 1) a = 3 := ta
  have ro : RO (sI h 258 a 1) u 10 11 29 c.ns 4 := ⟨S1.t10, S1.r896_10, S1.t11, S1.n11, X1.zc.2.2.1, X1.ok.2.2.1, by decide, by decide, by omega, X1.ct.sn, by omega⟩
  have dead : ∀ {hh : PH} {uu : MS} {GG : Gh} {ci cj pcc : Nat}, fX4_takeHead h 23 (some a) = some (hh, ci, cj) → RC h hh G GG ci cj → DD h u hh uu G GG z w → Ded hh uu → hI hh 142 5 = nI pcc → pcc ≤ hN hh GG.pg → pc ≤ pcc → pcc ≤ z.pc + 1240 → hMt u = some uu → TO h G z c w L n D t 0 0 (fun f => hI h f 23) (oB3 (fX4_takeHead h 23 (some (G.hd w))) (fun h23 i24 j25 => oK3 i24 j25 (fX4_tellRule_195 h23 23 (some (G.rl w))))) (hMt u) := fun {hh uu GG ci cj pcc} f1 f2 f3 f4 f5 f6 f7 f8 f9 => by
    have Y : DR hh uu GG z w L n D pcc 1240 := X.dr f3 f4 f5 f6 f7 f8
    obtain ⟨h5, G5, di, dj, u5, g1, g2, g3, g4, g5⟩ := tail_d (c := c) (t := t) Y
    rw [ea, f1, oB3_v, ← f3.rl, g1, oK3_v, f9]
    rw [t410_d f4] at g2
    exact ⟨h5, G5, _, _, u5, rfl, g2, ((f2.x 0 0).trans g3), fun x q1 q2 => (g4 x q1 q2).trans (f3.g x q1 q2), g5⟩
  obtain ⟨h2, u2, Q2, W2, o2⟩ := known_v X1.i X1.V X1.F ro
  have S2 := Q2.sx S1
  have ta2 : hT h2 a = 3 := by rw [Q2.T]; exact ta
  have D2 : DD h u h2 u2 G G z w := D1.trans (DD.q S1 w3 Q2 W2)
  have tkC : ∀ {r : Int32}, fX4_knownName (sI h 258 a 1) 23 (some 10) = some (h2, r) → fX4_takeHead h 23 (some a) = tk2 a (sI h2 257 a r) := fun {r} er => by
    unfold fX4_takeHead fX4_takeHead_0
    rw [oN_v, oC_d ta, oL_v, oC_d S1.t23, S1.r512_23, oN_v, oC_d S1.t5, S1.r130_5, er, oB2_v, oC_d ta2, oL_v]
    rfl
  have n2' : hN h2 = hN h := Q2.N
  have sz2 : hI h2 142 5 = nI pc := (Q2.I _ _ (by omega)).trans X1.sz
  rcases o2 with ⟨r2, _, c2, V2, F2, fm2, oS, ek, u0, eu1, eu2, eu3, eu4⟩ | ⟨Xd2, ⟨r2, ek⟩, em⟩
  · have X2 := X1.mv Q2 W2 V2 F2 fm2 (by omega)
    have M3 : RMs u2 (mSA (mSA u2 44 w r2) 45 w 1) w k := ((RMs.refl u2 w k).sA (.inr ⟨by omega, by omega, rfl⟩)).sA (.inr ⟨by omega, by omega, rfl⟩)
    have X3 := (X2.setC oa ob 257 (by omega) r2).am M3
    have S3 := X3.i.sx
    have D3 : DD h u (sI h2 257 a r2) (mSA (mSA u2 44 w r2) 45 w 1) G G z w := D2.trans ((DD.sI S2 ob w3 257 (by omega) r2).trans (M3.dd S3))
    have hM3 : hMt u = tM0 (mSA (mSA u2 44 w r2) 45 w 1) := by
      have m20 : mI u0 20 = nI c.ns := (eu3.I 20 (by omega)).trans X.zm.2.2.1
      have m65 : mI u0 65 = nI w := (eu3.I 65 (by omega)).trans X.K.m65
      have m65' : mI (mSA u2 44 w r2) 65 = nI w := X2.K.m65
      unfold hMt
      rw [oL_v, eu1, oB_v, eu2, if_pos (by decide), m20, X.V.t0, eu4, oB2_v, m65, oC_t (iw w3 (by decide)), oL_v, cl, m65', oC_t (iw w3 (by decide)), oL_v, cl]
    obtain ⟨h4', u4, r4, e3, e4, Q4, W4, o4⟩ := want_v X3.i X3.V X3.F (k := 9) (by omega) (by omega) (by omega)
    have e3' : fX4_expect (sI h2 257 a r2) 23 40 = some (h4', r4) := e3
    have e4' : fX12_must (mSA (mSA u2 44 w r2) 45 w 1) 9 = some u4 := e4
    have S4 := Q4.sx S3
    have ta4 : hT h4' a = 3 := by rw [Q4.T]; exact ta2
    have D4 := D3.trans (DD.q (z := z) S3 w3 Q4 W4)
    have cF4 : fX4_takeHead h 23 (some a) = tk3 a h4' := by
      rw [tkC ek]
      unfold tk2
      rw [oC_d S3.t23, e3', oB2_v]
    have cM4' : hMt u = tM1 u4 := by
      rw [hM3]
      unfold tM0
      rw [e4', oB_v]
    have n4 : hN h4' = hN h := Q4.N.trans n2'
    have sz4 : hI h4' 142 5 = nI pc := (Q4.I _ _ (by omega)).trans X3.sz
    have m654 : mI u4 65 = nI w := (W4.I 65 (by omega)).trans X3.K.m65
    rcases o4 with ⟨_, _, c4, V4, F4, fm4⟩ | ⟨_, Xd4⟩
    · have X4 := X3.mv Q4 W4 V4 F4 fm4 (by omega)
      obtain ⟨h5, u5, r5, r5', e5, e5', T5, o5⟩ := term_v X4.i X4.V X4.F X4.K zs.1 (X4.lx ob ta4).rp X4.zm.1
      have L5 : LD h4' u4 h5 u5 G w a := LD.of T5
      have S5 := (RD.ld S4 L5 pc rc).sx
      have ta5 : hT h5 a = 3 := by rw [T5.T]; exact ta4
      have m655 : mI u5 65 = nI w := (T5.mi 65 (by omega)).trans m654
      have M6 : RMs u5 (mSA (mSA u5 46 w r5') 47 w (-1)) w k := ((RMs.refl u5 w k).sA (.inr ⟨by omega, by omega, rfl⟩)).sA (.inr ⟨by omega, by omega, rfl⟩)
      have S6 : SX (sI h5 259 a r5) G := S5
      have D6 : DD h u (sI h5 259 a r5) (mSA (mSA u5 46 w r5') 47 w (-1)) G G z w := D4.trans (((RD.ld S4 L5 z.pc z.rc).dd S4 (.inr ob) w3 (Nat.le_refl _) (Nat.le_refl _)).trans ((DD.sI S5 ob w3 259 (by omega) r5).trans (M6.dd S6)))
      have cF6 : fX4_takeHead h 23 (some a) = tk4 a (sI h5 259 a r5) := by
        rw [cF4]
        unfold tk3
        rw [oC_d S4.t23, e5, oB2_v, oC_d ta5, oL_v]
      have cM6 : hMt u = tM2 (mSA (mSA u5 46 w r5') 47 w (-1)) := by
        have m65' : mI (mSA u5 46 w r5') 65 = nI w := m655
        rw [cM4']
        unfold tM1
        rw [e5', oB2_v, m654, oC_t (iw w3 (by decide)), oL_v, cl, m65', oC_t (iw w3 (by decide)), oL_v, cl]
      have n6 : hN (sI h5 259 a r5) = hN h := T5.N.trans n4
      have sz6 : hI (sI h5 259 a r5) 142 5 = nI pc := by
        simp only [z_hI_sI, z_hL_sI, z_hR_sI, z_hA_sI, z_hB_sI, z_hC_sI, z_hT_sI, z_hN_sI, z_hZ_sI, z_hI_sL, z_hL_sL, z_hR_sL, z_hA_sL, z_hB_sL, z_hC_sL, z_hT_sL, z_hN_sL, z_hZ_sL, z_hI_sR, z_hL_sR, z_hR_sR, z_hA_sR, z_hB_sR, z_hC_sR, z_hT_sR, z_hN_sR, z_hZ_sR, z_hI_sA, z_hL_sA, z_hR_sA, z_hA_sA, z_hB_sA, z_hC_sA, z_hT_sA, z_hN_sA, z_hZ_sA, z_hI_sB, z_hL_sB, z_hR_sB, z_hA_sB, z_hB_sB, z_hC_sB, z_hT_sB, z_hN_sB, z_hZ_sB, z_hI_sC, z_hL_sC, z_hR_sC, z_hA_sC, z_hB_sC, z_hC_sC, z_hT_sC, z_hN_sC, z_hZ_sC, z_hI_sY, z_hL_sY, z_hR_sY, z_hA_sY, z_hB_sY, z_hC_sY, z_hT_sY, z_hN_sY, z_hZ_sY, z_hI_nO, z_hL_nO, z_hR_nO, z_hA_nO, z_hB_nO, z_hC_nO, z_hT_nO, z_hN_nO, z_hZ_nO, z_hI_nA, z_hL_nA, z_hR_nA, z_hA_nA, z_hB_nA, z_hC_nA, z_hT_nA, z_hN_nA, z_hZ_nA]
        rw [if_neg (fun q => a5 q.2)]
        exact (T5.I _ _ (by omega)).trans sz4
      rcases o5 with ⟨v5, hv5, V5, F5, fm5, K5, oT⟩ | Xd5
      · have X5 : RX h5 u5 G z c w v5 L n D (t + 1 + 1 + 1) pc rc y k k := X4.ld L5 oa V5 F5 fm5 K5 hv5 (by omega)
        have X6 := (X5.setC oa ob 259 (by omega) r5).am M6
        obtain ⟨h7, u7, r7, e7, e7', Q7, W7, o7⟩ := want_v X6.i X6.V X6.F (k := 10) (by omega) (by omega) (by omega)
        have e7c : fX4_expect (sI h5 259 a r5) 23 41 = some (h7, r7) := e7
        have e7m : fX12_must (mSA (mSA u5 46 w r5') 47 w (-1)) 10 = some u7 := e7'
        have S7 := Q7.sx S6
        have ta7 : hT h7 a = 3 := by rw [Q7.T]; exact ta5
        have D7 := D6.trans (DD.q (z := z) S6 w3 Q7 W7)
        have n7 : hN h7 = hN h := Q7.N.trans n6
        have sz7 : hI h7 142 5 = nI pc := (Q7.I _ _ (by omega)).trans sz6
        have m657 : mI u7 65 = nI w := (W7.I 65 (by omega)).trans X6.K.m65
        have cF7 : fX4_takeHead h 23 (some a) = tk5 a h7 := by
          rw [cF6]
          unfold tk4
          rw [oC_d S6.t23, e7c, oB2_v]
        have cM7 : hMt u = tM3 u7 := by
          rw [cM6]
          unfold tM2
          rw [e7m, oB_v]
        rcases o7 with ⟨_, _, c7, V7, F7, fm7⟩ | ⟨_, Xd7⟩
        · have X7 := X6.mv Q7 W7 V7 F7 fm7 (by omega)
          have bp7 := X7.bp
          obtain ⟨kw, ekw⟩ : ∃ kw, (D (t + 1 + 1 + 1 + 1)).2.1 = kw := ⟨_, rfl⟩
          have X8 := X7.setC oa ob 256 (by omega) (cK kw)
          have S8 := X8.i.sx
          have D8 : DD h u (sI h7 256 a (cK kw)) u7 G G z w := D7.trans (DD.sI S7 ob w3 256 (by omega) (cK kw))
          have kd7 : hI h7 521 23 = cK kw := by rw [X7.V.kd, ekw]
          have k256 : hI (sI h7 256 a (cK kw)) 256 a = cK kw := by simp only [z_hI_sI, z_hL_sI, z_hR_sI, z_hA_sI, z_hB_sI, z_hC_sI, z_hT_sI, z_hN_sI, z_hZ_sI, z_hI_sL, z_hL_sL, z_hR_sL, z_hA_sL, z_hB_sL, z_hC_sL, z_hT_sL, z_hN_sL, z_hZ_sL, z_hI_sR, z_hL_sR, z_hR_sR, z_hA_sR, z_hB_sR, z_hC_sR, z_hT_sR, z_hN_sR, z_hZ_sR, z_hI_sA, z_hL_sA, z_hR_sA, z_hA_sA, z_hB_sA, z_hC_sA, z_hT_sA, z_hN_sA, z_hZ_sA, z_hI_sB, z_hL_sB, z_hR_sB, z_hA_sB, z_hB_sB, z_hC_sB, z_hT_sB, z_hN_sB, z_hZ_sB, z_hI_sC, z_hL_sC, z_hR_sC, z_hA_sC, z_hB_sC, z_hC_sC, z_hT_sC, z_hN_sC, z_hZ_sC, z_hI_sY, z_hL_sY, z_hR_sY, z_hA_sY, z_hB_sY, z_hC_sY, z_hT_sY, z_hN_sY, z_hZ_sY, z_hI_nO, z_hL_nO, z_hR_nO, z_hA_nO, z_hB_nO, z_hC_nO, z_hT_nO, z_hN_nO, z_hZ_nO, z_hI_nA, z_hL_nA, z_hR_nA, z_hA_nA, z_hB_nA, z_hC_nA, z_hT_nA, z_hN_nA, z_hZ_nA, if_true, if_false, and_false, false_and, and_true, true_and, and_self, decide_true, decide_false, reduceCtorEq, not_false_eq_true, not_true_eq_false, Nat.reduceEqDiff, Nat.reduceAdd, Nat.reduceMul, Nat.add_zero, Nat.zero_add]
          have ta8 : hT (sI h7 256 a (cK kw)) a = 3 := ta7
          have cF8 : fX4_takeHead h 23 (some a) = if cK kw = 42 then (fX4_takeHead_96 (sI h7 256 a (cK kw)) 23 (some a)) else (if cK kw = 43 then (fX4_takeHead_96 (sI h7 256 a (cK kw)) 23 (some a)) else (if cK kw = 312 then (fX4_takeHead_96 (sI h7 256 a (cK kw)) 23 (some a)) else (if cK kw = 313 then (fX4_takeHead_96 (sI h7 256 a (cK kw)) 23 (some a)) else (oB (fX4_stopAt (sI h7 256 a (cK kw)) 23 1) (fun h61 => fX4_takeHead_113 h61 23 (some a)))))) := by
            rw [cF7]
            unfold tk5
            rw [oC_d S7.t23, oC_d ta7, kd7, oL_v, k256, oL_v]
          have isk : ∀ j, j < 38 → fX12_is u7 (nI j) = some (if kw = j then 1 else 0) := fun j hj => by
            have := is_v X7.i X7.V hj
            rw [ekw] at this
            exact this
          have is11 : fX12_is u7 11 = some (if kw = 11 then 1 else 0) := isk 11 (by omega)
          have is13 : fX12_is u7 13 = some (if kw = 13 then 1 else 0) := isk 13 (by omega)
          have is36 : fX12_is u7 36 = some (if kw = 36 then 1 else 0) := isk 36 (by omega)
          have is37 : fX12_is u7 37 = some (if kw = 37 then 1 else 0) := isk 37 (by omega)
          have tb := (X7.i.ts.tk _ X7.V.lt).2.2.2.2.2.2.2.1
          rw [ekw] at tb
          by_cases cc : kw = 11 ∨ kw = 13 ∨ kw = 36 ∨ kw = 37
          · -- how it is taken
            obtain ⟨hw, hw1, ehw⟩ : ∃ hw : Nat, hw ≤ 3 ∧ ((cK kw = 43 ∧ hw = 0) ∨ (cK kw = 42 ∧ hw = 1) ∨ (cK kw = 312 ∧ hw = 2) ∨ (cK kw = 313 ∧ hw = 3)) ∧ tM3 u7 = fX12_tellRule_306 u7 (nI hw) := by
              unfold tM3
              rw [is11, is13, is36, is37]
              rcases cc with q | q | q | q <;> subst q
              · exact ⟨0, by omega, .inl ⟨rfl, rfl⟩, rfl⟩
              · exact ⟨1, by omega, .inr (.inl ⟨rfl, rfl⟩), rfl⟩
              · exact ⟨2, by omega, .inr (.inr (.inl ⟨rfl, rfl⟩)), rfl⟩
              · exact ⟨3, by omega, .inr (.inr (.inr ⟨rfl, rfl⟩)), rfl⟩
            have M9 : RMs u7 (mSA u7 48 w (nI hw)) w k := (RMs.refl u7 w k).sA (.inr ⟨by omega, by omega, rfl⟩)
            have X9 := X8.am M9
            obtain ⟨h10, u10, r10, e10, e10', Q10, W10, o10⟩ := pass_v X9.i X9.V X9.F (kw := kw) (by omega) (by omega) (by omega) ekw
            have S10 := Q10.sx S8
            have ta10 : hT h10 a = 3 := by rw [Q10.T]; exact ta7
            have la10 := S10.lt ta10 (by omega)
            have D10 : DD h u h10 u10 G G z w := D8.trans ((M9.dd S8).trans (DD.q S8 w3 Q10 W10))
            have m6510 : mI u10 65 = nI w := (W10.I 65 (by omega)).trans m657
            have n10 : hN h10 = hN h := Q10.N.trans n7
            have sz10 : hI h10 142 5 = nI pc := (Q10.I _ _ (by omega)).trans X9.sz
            have c96 : fX4_takeHead_96 (sI h7 256 a (cK kw)) 23 (some a) = fX4_takeHead_113 h10 23 (some a) := by
              unfold fX4_takeHead_96
              rw [oN_v, oC_d ta8, oC_d S8.t23, k256, e10, oB2_v]
            have cF10 : fX4_takeHead h 23 (some a) = fX4_takeHead_113 h10 23 (some a) := by
              rw [cF8, c96]
              rcases cc with q | q | q | q <;> subst q
              · rw [if_neg (by decide), if_pos (by decide)]
              · rw [if_pos (by decide)]
              · rw [if_neg (by decide), if_neg (by decide), if_pos (by decide)]
              · rw [if_neg (by decide), if_neg (by decide), if_neg (by decide), if_pos (by decide)]
            have c306 : ∀ {uu : MS}, fX12_expression (mSA u10 49 w (mI u10 24)) = some uu → mI uu 65 = nI w → hMt u = fX12_tellRule_410 (mSA uu 50 w (mI uu 24)) := fun {uu} q1 q2 => by
              rw [cM7, ehw.2]
              unfold fX12_tellRule_306
              rw [m657, oC_t (iw w3 (by decide)), oL_v, cl, e10', oB_v, m6510, oC_t (iw w3 (by decide)), oL_v, cl, q1, oB_v, q2, oC_t (iw w3 (by decide)), oL_v, cl]
            rcases o10 with ⟨_, c10, V10, F10, fm10⟩ | ⟨_, Xd10⟩
            · have X10 := X9.mv Q10 W10 V10 F10 fm10 (by omega)
              have M11 : RMs u10 (mSA u10 49 w (nI rc)) w k := (RMs.refl u10 w k).sA (.inr ⟨by omega, by omega, rfl⟩)
              have X11 := (X10.setC oa ob 261 (by omega) (nI pc)).am M11
              have S11 := X11.i.sx
              have D11 : DD h u (sI h10 261 a (nI pc)) (mSA u10 49 w (nI rc)) G G z w := D10.trans ((DD.sI S10 ob w3 261 (by omega) (nI pc)).trans (M11.dd S11))
              obtain ⟨h12, G12, ci, cj, u12, eF12, eM12, C12, R12, o12⟩ := express_v X11.fx (by omega)
              have S12 := R12.sx
              have oo12 : G12.ow a = 330000 + w := (R12.c0.gd.ow a la10).trans oo
              have ob12 : OB G12 w a := .inl oo12
              have oa12 : OA G12 w k a := .inr (.inl oo12)
              have ta12 : hT h12 a = 3 := (R12.T a la10).trans ta10
              have m6512 : mI u12 65 = nI w := (R12.mi 65 (by omega)).trans m6510
              have D12 : DD h u h12 u12 G G12 z w := D11.trans (R12.dd S11 (.inl rfl) w3 zs.2.1 zs.2.2)
              have cF12 : ∀ {pcc : Nat}, hI h12 142 5 = nI pcc → fX4_takeHead h 23 (some a) = some (sI h12 263 a (nI pcc), ci + 0, cj + 0) := fun {pcc} sz => by
                rw [cF10]
                unfold fX4_takeHead_113
                rw [oC_d S10.t23, S10.r512_23, oN_v, oC_d S10.t5, oN_v, oC_d ta10, sz10, oL_v, eF12, oB3_v, oC_d S12.t23, S12.r512_23, oN_v, oC_d S12.t5, oC_d ta12, sz, oL_v, oK3_v]
              have eM12' : fX12_expression (mSA u10 49 w (mI u10 24)) = some u12 := by rw [X10.m24]; exact eM12
              have cM12 := c306 eM12' m6512
              have C012 : RC h h12 G G12 ci cj := RC.q (h1 := sI h10 261 a (nI pc)) n10 C12
              rcases o12 with ⟨t12, v12, pc12, rc12, ht12, hv12, hp12, hr12, Y12, fm12, E12⟩ | ⟨Xd12, pc12, z12, p12, q1, q2⟩
              · have X12 : RX h12 u12 G12 z c w v12 L n D t12 pc12 rc12 y k k := X11.ofx R12 Y12 fm12 hv12 ht12 hp12 hr12
                have M13 : RMs u12 (mSA u12 50 w (nI rc12)) w k := (RMs.refl u12 w k).sA (.inr ⟨by omega, by omega, rfl⟩)
                have X13 := (X12.setC oa12 ob12 263 (by omega) (nI pc12)).am M13
                have hd12 : G12.hd w = a := by rw [R12.ge.2.2.1]; exact ea
                have rl12 : G12.rl = G.rl := R12.ge.1
                have go := tail_v X13 (fun e0 => by
                  have e012 : mI u12 15 = 0 := e0
                  have e05 : mI u5 15 = 0 := by
                    have : mI (mSA (mSA u5 46 w r5') 47 w (-1)) 15 = 0 := FM.z X6.F (fm7.trans (FM.trans (u1 := mSA u7 48 w (nI hw)) (FM.of rfl rfl) (fm10.trans (FM.trans (u1 := mSA u10 49 w (nI rc)) (FM.of rfl rfl) fm12)))) e012
                    exact this
                  have e02 : mI u2 15 = 0 := by
                    have : mI (mSA (mSA u2 44 w r2) 45 w 1) 15 = 0 := FM.z X3.F (fm4.trans fm5) e05
                    exact this
                  obtain ⟨s, hs, er2⟩ : ∃ j, j < c.ns ∧ r2 = nI j := by
                    rcases oS with ⟨_, q⟩ | q
                    · exact absurd e02 q.1
                    · exact q
                  obtain ⟨tt, ot, er5, er5'⟩ : ∃ tt, okTm v5 c.np tt ∧ r5 = nI tt ∧ r5' = nI (tmr tt) := by
                    rcases oT with q | ⟨_, _, q⟩
                    · exact q
                    · exact absurd e05 q.1
                  have P := pgr_of (E12 e012)
                  rw [hd12]
                  have i12 : ∀ f, hI h12 f a = hI (sI h10 261 a (nI pc)) f a := fun f => R12.I f a n23 n23 (fun q => a5 q.2.symm)
                  have i10 : ∀ f, hI h10 f a = hI (sI h7 256 a (cK kw)) f a := fun f => Q10.I f a n23
                  have i7 : ∀ f, hI h7 f a = hI (sI h5 259 a r5) f a := fun f => Q7.I f a n23
                  have i4 : ∀ f, hI h5 f a = hI (sI h2 257 a r2) f a := fun f => (T5.I f a n23).trans (Q4.I f a n23)
                  have i2 : ∀ f, hI h2 f a = hI (sI h 258 a 1) f a := fun f => Q2.I f a n23
                  have g263 : hI (sI h12 263 a (nI pc12)) 263 a = nI pc12 := by simp only [z_hI_sI, z_hL_sI, z_hR_sI, z_hA_sI, z_hB_sI, z_hC_sI, z_hT_sI, z_hN_sI, z_hZ_sI, z_hI_sL, z_hL_sL, z_hR_sL, z_hA_sL, z_hB_sL, z_hC_sL, z_hT_sL, z_hN_sL, z_hZ_sL, z_hI_sR, z_hL_sR, z_hR_sR, z_hA_sR, z_hB_sR, z_hC_sR, z_hT_sR, z_hN_sR, z_hZ_sR, z_hI_sA, z_hL_sA, z_hR_sA, z_hA_sA, z_hB_sA, z_hC_sA, z_hT_sA, z_hN_sA, z_hZ_sA, z_hI_sB, z_hL_sB, z_hR_sB, z_hA_sB, z_hB_sB, z_hC_sB, z_hT_sB, z_hN_sB, z_hZ_sB, z_hI_sC, z_hL_sC, z_hR_sC, z_hA_sC, z_hB_sC, z_hC_sC, z_hT_sC, z_hN_sC, z_hZ_sC, z_hI_sY, z_hL_sY, z_hR_sY, z_hA_sY, z_hB_sY, z_hC_sY, z_hT_sY, z_hN_sY, z_hZ_sY, z_hI_nO, z_hL_nO, z_hR_nO, z_hA_nO, z_hB_nO, z_hC_nO, z_hT_nO, z_hN_nO, z_hZ_nO, z_hI_nA, z_hL_nA, z_hR_nA, z_hA_nA, z_hB_nA, z_hC_nA, z_hT_nA, z_hN_nA, z_hZ_nA, if_true, if_false, and_false, false_and, and_true, true_and, and_self, decide_true, decide_false, reduceCtorEq, not_false_eq_true, not_true_eq_false, Nat.reduceEqDiff, Nat.reduceAdd, Nat.reduceMul, Nat.add_zero, Nat.zero_add]
                  have g261 : hI (sI h12 263 a (nI pc12)) 261 a = nI pc := by
                    simp only [z_hI_sI, z_hL_sI, z_hR_sI, z_hA_sI, z_hB_sI, z_hC_sI, z_hT_sI, z_hN_sI, z_hZ_sI, z_hI_sL, z_hL_sL, z_hR_sL, z_hA_sL, z_hB_sL, z_hC_sL, z_hT_sL, z_hN_sL, z_hZ_sL, z_hI_sR, z_hL_sR, z_hR_sR, z_hA_sR, z_hB_sR, z_hC_sR, z_hT_sR, z_hN_sR, z_hZ_sR, z_hI_sA, z_hL_sA, z_hR_sA, z_hA_sA, z_hB_sA, z_hC_sA, z_hT_sA, z_hN_sA, z_hZ_sA, z_hI_sB, z_hL_sB, z_hR_sB, z_hA_sB, z_hB_sB, z_hC_sB, z_hT_sB, z_hN_sB, z_hZ_sB, z_hI_sC, z_hL_sC, z_hR_sC, z_hA_sC, z_hB_sC, z_hC_sC, z_hT_sC, z_hN_sC, z_hZ_sC, z_hI_sY, z_hL_sY, z_hR_sY, z_hA_sY, z_hB_sY, z_hC_sY, z_hT_sY, z_hN_sY, z_hZ_sY, z_hI_nO, z_hL_nO, z_hR_nO, z_hA_nO, z_hB_nO, z_hC_nO, z_hT_nO, z_hN_nO, z_hZ_nO, z_hI_nA, z_hL_nA, z_hR_nA, z_hA_nA, z_hB_nA, z_hC_nA, z_hT_nA, z_hN_nA, z_hZ_nA, if_true, if_false, and_false, false_and, and_true, true_and, and_self, decide_true, decide_false, reduceCtorEq, not_false_eq_true, not_true_eq_false, Nat.reduceEqDiff, Nat.reduceAdd, Nat.reduceMul, Nat.add_zero, Nat.zero_add]; rw [i12]; simp only [z_hI_sI, z_hL_sI, z_hR_sI, z_hA_sI, z_hB_sI, z_hC_sI, z_hT_sI, z_hN_sI, z_hZ_sI, z_hI_sL, z_hL_sL, z_hR_sL, z_hA_sL, z_hB_sL, z_hC_sL, z_hT_sL, z_hN_sL, z_hZ_sL, z_hI_sR, z_hL_sR, z_hR_sR, z_hA_sR, z_hB_sR, z_hC_sR, z_hT_sR, z_hN_sR, z_hZ_sR, z_hI_sA, z_hL_sA, z_hR_sA, z_hA_sA, z_hB_sA, z_hC_sA, z_hT_sA, z_hN_sA, z_hZ_sA, z_hI_sB, z_hL_sB, z_hR_sB, z_hA_sB, z_hB_sB, z_hC_sB, z_hT_sB, z_hN_sB, z_hZ_sB, z_hI_sC, z_hL_sC, z_hR_sC, z_hA_sC, z_hB_sC, z_hC_sC, z_hT_sC, z_hN_sC, z_hZ_sC, z_hI_sY, z_hL_sY, z_hR_sY, z_hA_sY, z_hB_sY, z_hC_sY, z_hT_sY, z_hN_sY, z_hZ_sY, z_hI_nO, z_hL_nO, z_hR_nO, z_hA_nO, z_hB_nO, z_hC_nO, z_hT_nO, z_hN_nO, z_hZ_nO, z_hI_nA, z_hL_nA, z_hR_nA, z_hA_nA, z_hB_nA, z_hC_nA, z_hT_nA, z_hN_nA, z_hZ_nA, if_true, if_false, and_false, false_and, and_true, true_and, and_self, decide_true, decide_false, reduceCtorEq, not_false_eq_true, not_true_eq_false, Nat.reduceEqDiff, Nat.reduceAdd, Nat.reduceMul, Nat.add_zero, Nat.zero_add]
                  have g256 : hI (sI h12 263 a (nI pc12)) 256 a = cK kw := by
                    simp only [z_hI_sI, z_hL_sI, z_hR_sI, z_hA_sI, z_hB_sI, z_hC_sI, z_hT_sI, z_hN_sI, z_hZ_sI, z_hI_sL, z_hL_sL, z_hR_sL, z_hA_sL, z_hB_sL, z_hC_sL, z_hT_sL, z_hN_sL, z_hZ_sL, z_hI_sR, z_hL_sR, z_hR_sR, z_hA_sR, z_hB_sR, z_hC_sR, z_hT_sR, z_hN_sR, z_hZ_sR, z_hI_sA, z_hL_sA, z_hR_sA, z_hA_sA, z_hB_sA, z_hC_sA, z_hT_sA, z_hN_sA, z_hZ_sA, z_hI_sB, z_hL_sB, z_hR_sB, z_hA_sB, z_hB_sB, z_hC_sB, z_hT_sB, z_hN_sB, z_hZ_sB, z_hI_sC, z_hL_sC, z_hR_sC, z_hA_sC, z_hB_sC, z_hC_sC, z_hT_sC, z_hN_sC, z_hZ_sC, z_hI_sY, z_hL_sY, z_hR_sY, z_hA_sY, z_hB_sY, z_hC_sY, z_hT_sY, z_hN_sY, z_hZ_sY, z_hI_nO, z_hL_nO, z_hR_nO, z_hA_nO, z_hB_nO, z_hC_nO, z_hT_nO, z_hN_nO, z_hZ_nO, z_hI_nA, z_hL_nA, z_hR_nA, z_hA_nA, z_hB_nA, z_hC_nA, z_hT_nA, z_hN_nA, z_hZ_nA, if_true, if_false, and_false, false_and, and_true, true_and, and_self, decide_true, decide_false, reduceCtorEq, not_false_eq_true, not_true_eq_false, Nat.reduceEqDiff, Nat.reduceAdd, Nat.reduceMul, Nat.add_zero, Nat.zero_add]; rw [i12]; simp only [z_hI_sI, z_hL_sI, z_hR_sI, z_hA_sI, z_hB_sI, z_hC_sI, z_hT_sI, z_hN_sI, z_hZ_sI, z_hI_sL, z_hL_sL, z_hR_sL, z_hA_sL, z_hB_sL, z_hC_sL, z_hT_sL, z_hN_sL, z_hZ_sL, z_hI_sR, z_hL_sR, z_hR_sR, z_hA_sR, z_hB_sR, z_hC_sR, z_hT_sR, z_hN_sR, z_hZ_sR, z_hI_sA, z_hL_sA, z_hR_sA, z_hA_sA, z_hB_sA, z_hC_sA, z_hT_sA, z_hN_sA, z_hZ_sA, z_hI_sB, z_hL_sB, z_hR_sB, z_hA_sB, z_hB_sB, z_hC_sB, z_hT_sB, z_hN_sB, z_hZ_sB, z_hI_sC, z_hL_sC, z_hR_sC, z_hA_sC, z_hB_sC, z_hC_sC, z_hT_sC, z_hN_sC, z_hZ_sC, z_hI_sY, z_hL_sY, z_hR_sY, z_hA_sY, z_hB_sY, z_hC_sY, z_hT_sY, z_hN_sY, z_hZ_sY, z_hI_nO, z_hL_nO, z_hR_nO, z_hA_nO, z_hB_nO, z_hC_nO, z_hT_nO, z_hN_nO, z_hZ_nO, z_hI_nA, z_hL_nA, z_hR_nA, z_hA_nA, z_hB_nA, z_hC_nA, z_hT_nA, z_hN_nA, z_hZ_nA, if_true, if_false, and_false, false_and, and_true, true_and, and_self, decide_true, decide_false, reduceCtorEq, not_false_eq_true, not_true_eq_false, Nat.reduceEqDiff, Nat.reduceAdd, Nat.reduceMul, Nat.add_zero, Nat.zero_add]; rw [i10]; simp only [z_hI_sI, z_hL_sI, z_hR_sI, z_hA_sI, z_hB_sI, z_hC_sI, z_hT_sI, z_hN_sI, z_hZ_sI, z_hI_sL, z_hL_sL, z_hR_sL, z_hA_sL, z_hB_sL, z_hC_sL, z_hT_sL, z_hN_sL, z_hZ_sL, z_hI_sR, z_hL_sR, z_hR_sR, z_hA_sR, z_hB_sR, z_hC_sR, z_hT_sR, z_hN_sR, z_hZ_sR, z_hI_sA, z_hL_sA, z_hR_sA, z_hA_sA, z_hB_sA, z_hC_sA, z_hT_sA, z_hN_sA, z_hZ_sA, z_hI_sB, z_hL_sB, z_hR_sB, z_hA_sB, z_hB_sB, z_hC_sB, z_hT_sB, z_hN_sB, z_hZ_sB, z_hI_sC, z_hL_sC, z_hR_sC, z_hA_sC, z_hB_sC, z_hC_sC, z_hT_sC, z_hN_sC, z_hZ_sC, z_hI_sY, z_hL_sY, z_hR_sY, z_hA_sY, z_hB_sY, z_hC_sY, z_hT_sY, z_hN_sY, z_hZ_sY, z_hI_nO, z_hL_nO, z_hR_nO, z_hA_nO, z_hB_nO, z_hC_nO, z_hT_nO, z_hN_nO, z_hZ_nO, z_hI_nA, z_hL_nA, z_hR_nA, z_hA_nA, z_hB_nA, z_hC_nA, z_hT_nA, z_hN_nA, z_hZ_nA, if_true, if_false, and_false, false_and, and_true, true_and, and_self, decide_true, decide_false, reduceCtorEq, not_false_eq_true, not_true_eq_false, Nat.reduceEqDiff, Nat.reduceAdd, Nat.reduceMul, Nat.add_zero, Nat.zero_add]
                  have g259 : hI (sI h12 263 a (nI pc12)) 259 a = r5 := by
                    simp only [z_hI_sI, z_hL_sI, z_hR_sI, z_hA_sI, z_hB_sI, z_hC_sI, z_hT_sI, z_hN_sI, z_hZ_sI, z_hI_sL, z_hL_sL, z_hR_sL, z_hA_sL, z_hB_sL, z_hC_sL, z_hT_sL, z_hN_sL, z_hZ_sL, z_hI_sR, z_hL_sR, z_hR_sR, z_hA_sR, z_hB_sR, z_hC_sR, z_hT_sR, z_hN_sR, z_hZ_sR, z_hI_sA, z_hL_sA, z_hR_sA, z_hA_sA, z_hB_sA, z_hC_sA, z_hT_sA, z_hN_sA, z_hZ_sA, z_hI_sB, z_hL_sB, z_hR_sB, z_hA_sB, z_hB_sB, z_hC_sB, z_hT_sB, z_hN_sB, z_hZ_sB, z_hI_sC, z_hL_sC, z_hR_sC, z_hA_sC, z_hB_sC, z_hC_sC, z_hT_sC, z_hN_sC, z_hZ_sC, z_hI_sY, z_hL_sY, z_hR_sY, z_hA_sY, z_hB_sY, z_hC_sY, z_hT_sY, z_hN_sY, z_hZ_sY, z_hI_nO, z_hL_nO, z_hR_nO, z_hA_nO, z_hB_nO, z_hC_nO, z_hT_nO, z_hN_nO, z_hZ_nO, z_hI_nA, z_hL_nA, z_hR_nA, z_hA_nA, z_hB_nA, z_hC_nA, z_hT_nA, z_hN_nA, z_hZ_nA, if_true, if_false, and_false, false_and, and_true, true_and, and_self, decide_true, decide_false, reduceCtorEq, not_false_eq_true, not_true_eq_false, Nat.reduceEqDiff, Nat.reduceAdd, Nat.reduceMul, Nat.add_zero, Nat.zero_add]; rw [i12]; simp only [z_hI_sI, z_hL_sI, z_hR_sI, z_hA_sI, z_hB_sI, z_hC_sI, z_hT_sI, z_hN_sI, z_hZ_sI, z_hI_sL, z_hL_sL, z_hR_sL, z_hA_sL, z_hB_sL, z_hC_sL, z_hT_sL, z_hN_sL, z_hZ_sL, z_hI_sR, z_hL_sR, z_hR_sR, z_hA_sR, z_hB_sR, z_hC_sR, z_hT_sR, z_hN_sR, z_hZ_sR, z_hI_sA, z_hL_sA, z_hR_sA, z_hA_sA, z_hB_sA, z_hC_sA, z_hT_sA, z_hN_sA, z_hZ_sA, z_hI_sB, z_hL_sB, z_hR_sB, z_hA_sB, z_hB_sB, z_hC_sB, z_hT_sB, z_hN_sB, z_hZ_sB, z_hI_sC, z_hL_sC, z_hR_sC, z_hA_sC, z_hB_sC, z_hC_sC, z_hT_sC, z_hN_sC, z_hZ_sC, z_hI_sY, z_hL_sY, z_hR_sY, z_hA_sY, z_hB_sY, z_hC_sY, z_hT_sY, z_hN_sY, z_hZ_sY, z_hI_nO, z_hL_nO, z_hR_nO, z_hA_nO, z_hB_nO, z_hC_nO, z_hT_nO, z_hN_nO, z_hZ_nO, z_hI_nA, z_hL_nA, z_hR_nA, z_hA_nA, z_hB_nA, z_hC_nA, z_hT_nA, z_hN_nA, z_hZ_nA, if_true, if_false, and_false, false_and, and_true, true_and, and_self, decide_true, decide_false, reduceCtorEq, not_false_eq_true, not_true_eq_false, Nat.reduceEqDiff, Nat.reduceAdd, Nat.reduceMul, Nat.add_zero, Nat.zero_add]; rw [i10]; simp only [z_hI_sI, z_hL_sI, z_hR_sI, z_hA_sI, z_hB_sI, z_hC_sI, z_hT_sI, z_hN_sI, z_hZ_sI, z_hI_sL, z_hL_sL, z_hR_sL, z_hA_sL, z_hB_sL, z_hC_sL, z_hT_sL, z_hN_sL, z_hZ_sL, z_hI_sR, z_hL_sR, z_hR_sR, z_hA_sR, z_hB_sR, z_hC_sR, z_hT_sR, z_hN_sR, z_hZ_sR, z_hI_sA, z_hL_sA, z_hR_sA, z_hA_sA, z_hB_sA, z_hC_sA, z_hT_sA, z_hN_sA, z_hZ_sA, z_hI_sB, z_hL_sB, z_hR_sB, z_hA_sB, z_hB_sB, z_hC_sB, z_hT_sB, z_hN_sB, z_hZ_sB, z_hI_sC, z_hL_sC, z_hR_sC, z_hA_sC, z_hB_sC, z_hC_sC, z_hT_sC, z_hN_sC, z_hZ_sC, z_hI_sY, z_hL_sY, z_hR_sY, z_hA_sY, z_hB_sY, z_hC_sY, z_hT_sY, z_hN_sY, z_hZ_sY, z_hI_nO, z_hL_nO, z_hR_nO, z_hA_nO, z_hB_nO, z_hC_nO, z_hT_nO, z_hN_nO, z_hZ_nO, z_hI_nA, z_hL_nA, z_hR_nA, z_hA_nA, z_hB_nA, z_hC_nA, z_hT_nA, z_hN_nA, z_hZ_nA, if_true, if_false, and_false, false_and, and_true, true_and, and_self, decide_true, decide_false, reduceCtorEq, not_false_eq_true, not_true_eq_false, Nat.reduceEqDiff, Nat.reduceAdd, Nat.reduceMul, Nat.add_zero, Nat.zero_add]; rw [i7]; simp only [z_hI_sI, z_hL_sI, z_hR_sI, z_hA_sI, z_hB_sI, z_hC_sI, z_hT_sI, z_hN_sI, z_hZ_sI, z_hI_sL, z_hL_sL, z_hR_sL, z_hA_sL, z_hB_sL, z_hC_sL, z_hT_sL, z_hN_sL, z_hZ_sL, z_hI_sR, z_hL_sR, z_hR_sR, z_hA_sR, z_hB_sR, z_hC_sR, z_hT_sR, z_hN_sR, z_hZ_sR, z_hI_sA, z_hL_sA, z_hR_sA, z_hA_sA, z_hB_sA, z_hC_sA, z_hT_sA, z_hN_sA, z_hZ_sA, z_hI_sB, z_hL_sB, z_hR_sB, z_hA_sB, z_hB_sB, z_hC_sB, z_hT_sB, z_hN_sB, z_hZ_sB, z_hI_sC, z_hL_sC, z_hR_sC, z_hA_sC, z_hB_sC, z_hC_sC, z_hT_sC, z_hN_sC, z_hZ_sC, z_hI_sY, z_hL_sY, z_hR_sY, z_hA_sY, z_hB_sY, z_hC_sY, z_hT_sY, z_hN_sY, z_hZ_sY, z_hI_nO, z_hL_nO, z_hR_nO, z_hA_nO, z_hB_nO, z_hC_nO, z_hT_nO, z_hN_nO, z_hZ_nO, z_hI_nA, z_hL_nA, z_hR_nA, z_hA_nA, z_hB_nA, z_hC_nA, z_hT_nA, z_hN_nA, z_hZ_nA, if_true, if_false, and_false, false_and, and_true, true_and, and_self, decide_true, decide_false, reduceCtorEq, not_false_eq_true, not_true_eq_false, Nat.reduceEqDiff, Nat.reduceAdd, Nat.reduceMul, Nat.add_zero, Nat.zero_add]
                  have g257 : hI (sI h12 263 a (nI pc12)) 257 a = r2 := by
                    simp only [z_hI_sI, z_hL_sI, z_hR_sI, z_hA_sI, z_hB_sI, z_hC_sI, z_hT_sI, z_hN_sI, z_hZ_sI, z_hI_sL, z_hL_sL, z_hR_sL, z_hA_sL, z_hB_sL, z_hC_sL, z_hT_sL, z_hN_sL, z_hZ_sL, z_hI_sR, z_hL_sR, z_hR_sR, z_hA_sR, z_hB_sR, z_hC_sR, z_hT_sR, z_hN_sR, z_hZ_sR, z_hI_sA, z_hL_sA, z_hR_sA, z_hA_sA, z_hB_sA, z_hC_sA, z_hT_sA, z_hN_sA, z_hZ_sA, z_hI_sB, z_hL_sB, z_hR_sB, z_hA_sB, z_hB_sB, z_hC_sB, z_hT_sB, z_hN_sB, z_hZ_sB, z_hI_sC, z_hL_sC, z_hR_sC, z_hA_sC, z_hB_sC, z_hC_sC, z_hT_sC, z_hN_sC, z_hZ_sC, z_hI_sY, z_hL_sY, z_hR_sY, z_hA_sY, z_hB_sY, z_hC_sY, z_hT_sY, z_hN_sY, z_hZ_sY, z_hI_nO, z_hL_nO, z_hR_nO, z_hA_nO, z_hB_nO, z_hC_nO, z_hT_nO, z_hN_nO, z_hZ_nO, z_hI_nA, z_hL_nA, z_hR_nA, z_hA_nA, z_hB_nA, z_hC_nA, z_hT_nA, z_hN_nA, z_hZ_nA, if_true, if_false, and_false, false_and, and_true, true_and, and_self, decide_true, decide_false, reduceCtorEq, not_false_eq_true, not_true_eq_false, Nat.reduceEqDiff, Nat.reduceAdd, Nat.reduceMul, Nat.add_zero, Nat.zero_add]; rw [i12]; simp only [z_hI_sI, z_hL_sI, z_hR_sI, z_hA_sI, z_hB_sI, z_hC_sI, z_hT_sI, z_hN_sI, z_hZ_sI, z_hI_sL, z_hL_sL, z_hR_sL, z_hA_sL, z_hB_sL, z_hC_sL, z_hT_sL, z_hN_sL, z_hZ_sL, z_hI_sR, z_hL_sR, z_hR_sR, z_hA_sR, z_hB_sR, z_hC_sR, z_hT_sR, z_hN_sR, z_hZ_sR, z_hI_sA, z_hL_sA, z_hR_sA, z_hA_sA, z_hB_sA, z_hC_sA, z_hT_sA, z_hN_sA, z_hZ_sA, z_hI_sB, z_hL_sB, z_hR_sB, z_hA_sB, z_hB_sB, z_hC_sB, z_hT_sB, z_hN_sB, z_hZ_sB, z_hI_sC, z_hL_sC, z_hR_sC, z_hA_sC, z_hB_sC, z_hC_sC, z_hT_sC, z_hN_sC, z_hZ_sC, z_hI_sY, z_hL_sY, z_hR_sY, z_hA_sY, z_hB_sY, z_hC_sY, z_hT_sY, z_hN_sY, z_hZ_sY, z_hI_nO, z_hL_nO, z_hR_nO, z_hA_nO, z_hB_nO, z_hC_nO, z_hT_nO, z_hN_nO, z_hZ_nO, z_hI_nA, z_hL_nA, z_hR_nA, z_hA_nA, z_hB_nA, z_hC_nA, z_hT_nA, z_hN_nA, z_hZ_nA, if_true, if_false, and_false, false_and, and_true, true_and, and_self, decide_true, decide_false, reduceCtorEq, not_false_eq_true, not_true_eq_false, Nat.reduceEqDiff, Nat.reduceAdd, Nat.reduceMul, Nat.add_zero, Nat.zero_add]; rw [i10]; simp only [z_hI_sI, z_hL_sI, z_hR_sI, z_hA_sI, z_hB_sI, z_hC_sI, z_hT_sI, z_hN_sI, z_hZ_sI, z_hI_sL, z_hL_sL, z_hR_sL, z_hA_sL, z_hB_sL, z_hC_sL, z_hT_sL, z_hN_sL, z_hZ_sL, z_hI_sR, z_hL_sR, z_hR_sR, z_hA_sR, z_hB_sR, z_hC_sR, z_hT_sR, z_hN_sR, z_hZ_sR, z_hI_sA, z_hL_sA, z_hR_sA, z_hA_sA, z_hB_sA, z_hC_sA, z_hT_sA, z_hN_sA, z_hZ_sA, z_hI_sB, z_hL_sB, z_hR_sB, z_hA_sB, z_hB_sB, z_hC_sB, z_hT_sB, z_hN_sB, z_hZ_sB, z_hI_sC, z_hL_sC, z_hR_sC, z_hA_sC, z_hB_sC, z_hC_sC, z_hT_sC, z_hN_sC, z_hZ_sC, z_hI_sY, z_hL_sY, z_hR_sY, z_hA_sY, z_hB_sY, z_hC_sY, z_hT_sY, z_hN_sY, z_hZ_sY, z_hI_nO, z_hL_nO, z_hR_nO, z_hA_nO, z_hB_nO, z_hC_nO, z_hT_nO, z_hN_nO, z_hZ_nO, z_hI_nA, z_hL_nA, z_hR_nA, z_hA_nA, z_hB_nA, z_hC_nA, z_hT_nA, z_hN_nA, z_hZ_nA, if_true, if_false, and_false, false_and, and_true, true_and, and_self, decide_true, decide_false, reduceCtorEq, not_false_eq_true, not_true_eq_false, Nat.reduceEqDiff, Nat.reduceAdd, Nat.reduceMul, Nat.add_zero, Nat.zero_add]; rw [i7]; simp only [z_hI_sI, z_hL_sI, z_hR_sI, z_hA_sI, z_hB_sI, z_hC_sI, z_hT_sI, z_hN_sI, z_hZ_sI, z_hI_sL, z_hL_sL, z_hR_sL, z_hA_sL, z_hB_sL, z_hC_sL, z_hT_sL, z_hN_sL, z_hZ_sL, z_hI_sR, z_hL_sR, z_hR_sR, z_hA_sR, z_hB_sR, z_hC_sR, z_hT_sR, z_hN_sR, z_hZ_sR, z_hI_sA, z_hL_sA, z_hR_sA, z_hA_sA, z_hB_sA, z_hC_sA, z_hT_sA, z_hN_sA, z_hZ_sA, z_hI_sB, z_hL_sB, z_hR_sB, z_hA_sB, z_hB_sB, z_hC_sB, z_hT_sB, z_hN_sB, z_hZ_sB, z_hI_sC, z_hL_sC, z_hR_sC, z_hA_sC, z_hB_sC, z_hC_sC, z_hT_sC, z_hN_sC, z_hZ_sC, z_hI_sY, z_hL_sY, z_hR_sY, z_hA_sY, z_hB_sY, z_hC_sY, z_hT_sY, z_hN_sY, z_hZ_sY, z_hI_nO, z_hL_nO, z_hR_nO, z_hA_nO, z_hB_nO, z_hC_nO, z_hT_nO, z_hN_nO, z_hZ_nO, z_hI_nA, z_hL_nA, z_hR_nA, z_hA_nA, z_hB_nA, z_hC_nA, z_hT_nA, z_hN_nA, z_hZ_nA, if_true, if_false, and_false, false_and, and_true, true_and, and_self, decide_true, decide_false, reduceCtorEq, not_false_eq_true, not_true_eq_false, Nat.reduceEqDiff, Nat.reduceAdd, Nat.reduceMul, Nat.add_zero, Nat.zero_add]; rw [i4]; simp only [z_hI_sI, z_hL_sI, z_hR_sI, z_hA_sI, z_hB_sI, z_hC_sI, z_hT_sI, z_hN_sI, z_hZ_sI, z_hI_sL, z_hL_sL, z_hR_sL, z_hA_sL, z_hB_sL, z_hC_sL, z_hT_sL, z_hN_sL, z_hZ_sL, z_hI_sR, z_hL_sR, z_hR_sR, z_hA_sR, z_hB_sR, z_hC_sR, z_hT_sR, z_hN_sR, z_hZ_sR, z_hI_sA, z_hL_sA, z_hR_sA, z_hA_sA, z_hB_sA, z_hC_sA, z_hT_sA, z_hN_sA, z_hZ_sA, z_hI_sB, z_hL_sB, z_hR_sB, z_hA_sB, z_hB_sB, z_hC_sB, z_hT_sB, z_hN_sB, z_hZ_sB, z_hI_sC, z_hL_sC, z_hR_sC, z_hA_sC, z_hB_sC, z_hC_sC, z_hT_sC, z_hN_sC, z_hZ_sC, z_hI_sY, z_hL_sY, z_hR_sY, z_hA_sY, z_hB_sY, z_hC_sY, z_hT_sY, z_hN_sY, z_hZ_sY, z_hI_nO, z_hL_nO, z_hR_nO, z_hA_nO, z_hB_nO, z_hC_nO, z_hT_nO, z_hN_nO, z_hZ_nO, z_hI_nA, z_hL_nA, z_hR_nA, z_hA_nA, z_hB_nA, z_hC_nA, z_hT_nA, z_hN_nA, z_hZ_nA, if_true, if_false, and_false, false_and, and_true, true_and, and_self, decide_true, decide_false, reduceCtorEq, not_false_eq_true, not_true_eq_false, Nat.reduceEqDiff, Nat.reduceAdd, Nat.reduceMul, Nat.add_zero, Nat.zero_add]
                  have g258 : hI (sI h12 263 a (nI pc12)) 258 a = 1 := by
                    simp only [z_hI_sI, z_hL_sI, z_hR_sI, z_hA_sI, z_hB_sI, z_hC_sI, z_hT_sI, z_hN_sI, z_hZ_sI, z_hI_sL, z_hL_sL, z_hR_sL, z_hA_sL, z_hB_sL, z_hC_sL, z_hT_sL, z_hN_sL, z_hZ_sL, z_hI_sR, z_hL_sR, z_hR_sR, z_hA_sR, z_hB_sR, z_hC_sR, z_hT_sR, z_hN_sR, z_hZ_sR, z_hI_sA, z_hL_sA, z_hR_sA, z_hA_sA, z_hB_sA, z_hC_sA, z_hT_sA, z_hN_sA, z_hZ_sA, z_hI_sB, z_hL_sB, z_hR_sB, z_hA_sB, z_hB_sB, z_hC_sB, z_hT_sB, z_hN_sB, z_hZ_sB, z_hI_sC, z_hL_sC, z_hR_sC, z_hA_sC, z_hB_sC, z_hC_sC, z_hT_sC, z_hN_sC, z_hZ_sC, z_hI_sY, z_hL_sY, z_hR_sY, z_hA_sY, z_hB_sY, z_hC_sY, z_hT_sY, z_hN_sY, z_hZ_sY, z_hI_nO, z_hL_nO, z_hR_nO, z_hA_nO, z_hB_nO, z_hC_nO, z_hT_nO, z_hN_nO, z_hZ_nO, z_hI_nA, z_hL_nA, z_hR_nA, z_hA_nA, z_hB_nA, z_hC_nA, z_hT_nA, z_hN_nA, z_hZ_nA, if_true, if_false, and_false, false_and, and_true, true_and, and_self, decide_true, decide_false, reduceCtorEq, not_false_eq_true, not_true_eq_false, Nat.reduceEqDiff, Nat.reduceAdd, Nat.reduceMul, Nat.add_zero, Nat.zero_add]; rw [i12]; simp only [z_hI_sI, z_hL_sI, z_hR_sI, z_hA_sI, z_hB_sI, z_hC_sI, z_hT_sI, z_hN_sI, z_hZ_sI, z_hI_sL, z_hL_sL, z_hR_sL, z_hA_sL, z_hB_sL, z_hC_sL, z_hT_sL, z_hN_sL, z_hZ_sL, z_hI_sR, z_hL_sR, z_hR_sR, z_hA_sR, z_hB_sR, z_hC_sR, z_hT_sR, z_hN_sR, z_hZ_sR, z_hI_sA, z_hL_sA, z_hR_sA, z_hA_sA, z_hB_sA, z_hC_sA, z_hT_sA, z_hN_sA, z_hZ_sA, z_hI_sB, z_hL_sB, z_hR_sB, z_hA_sB, z_hB_sB, z_hC_sB, z_hT_sB, z_hN_sB, z_hZ_sB, z_hI_sC, z_hL_sC, z_hR_sC, z_hA_sC, z_hB_sC, z_hC_sC, z_hT_sC, z_hN_sC, z_hZ_sC, z_hI_sY, z_hL_sY, z_hR_sY, z_hA_sY, z_hB_sY, z_hC_sY, z_hT_sY, z_hN_sY, z_hZ_sY, z_hI_nO, z_hL_nO, z_hR_nO, z_hA_nO, z_hB_nO, z_hC_nO, z_hT_nO, z_hN_nO, z_hZ_nO, z_hI_nA, z_hL_nA, z_hR_nA, z_hA_nA, z_hB_nA, z_hC_nA, z_hT_nA, z_hN_nA, z_hZ_nA, if_true, if_false, and_false, false_and, and_true, true_and, and_self, decide_true, decide_false, reduceCtorEq, not_false_eq_true, not_true_eq_false, Nat.reduceEqDiff, Nat.reduceAdd, Nat.reduceMul, Nat.add_zero, Nat.zero_add]; rw [i10]; simp only [z_hI_sI, z_hL_sI, z_hR_sI, z_hA_sI, z_hB_sI, z_hC_sI, z_hT_sI, z_hN_sI, z_hZ_sI, z_hI_sL, z_hL_sL, z_hR_sL, z_hA_sL, z_hB_sL, z_hC_sL, z_hT_sL, z_hN_sL, z_hZ_sL, z_hI_sR, z_hL_sR, z_hR_sR, z_hA_sR, z_hB_sR, z_hC_sR, z_hT_sR, z_hN_sR, z_hZ_sR, z_hI_sA, z_hL_sA, z_hR_sA, z_hA_sA, z_hB_sA, z_hC_sA, z_hT_sA, z_hN_sA, z_hZ_sA, z_hI_sB, z_hL_sB, z_hR_sB, z_hA_sB, z_hB_sB, z_hC_sB, z_hT_sB, z_hN_sB, z_hZ_sB, z_hI_sC, z_hL_sC, z_hR_sC, z_hA_sC, z_hB_sC, z_hC_sC, z_hT_sC, z_hN_sC, z_hZ_sC, z_hI_sY, z_hL_sY, z_hR_sY, z_hA_sY, z_hB_sY, z_hC_sY, z_hT_sY, z_hN_sY, z_hZ_sY, z_hI_nO, z_hL_nO, z_hR_nO, z_hA_nO, z_hB_nO, z_hC_nO, z_hT_nO, z_hN_nO, z_hZ_nO, z_hI_nA, z_hL_nA, z_hR_nA, z_hA_nA, z_hB_nA, z_hC_nA, z_hT_nA, z_hN_nA, z_hZ_nA, if_true, if_false, and_false, false_and, and_true, true_and, and_self, decide_true, decide_false, reduceCtorEq, not_false_eq_true, not_true_eq_false, Nat.reduceEqDiff, Nat.reduceAdd, Nat.reduceMul, Nat.add_zero, Nat.zero_add]; rw [i7]; simp only [z_hI_sI, z_hL_sI, z_hR_sI, z_hA_sI, z_hB_sI, z_hC_sI, z_hT_sI, z_hN_sI, z_hZ_sI, z_hI_sL, z_hL_sL, z_hR_sL, z_hA_sL, z_hB_sL, z_hC_sL, z_hT_sL, z_hN_sL, z_hZ_sL, z_hI_sR, z_hL_sR, z_hR_sR, z_hA_sR, z_hB_sR, z_hC_sR, z_hT_sR, z_hN_sR, z_hZ_sR, z_hI_sA, z_hL_sA, z_hR_sA, z_hA_sA, z_hB_sA, z_hC_sA, z_hT_sA, z_hN_sA, z_hZ_sA, z_hI_sB, z_hL_sB, z_hR_sB, z_hA_sB, z_hB_sB, z_hC_sB, z_hT_sB, z_hN_sB, z_hZ_sB, z_hI_sC, z_hL_sC, z_hR_sC, z_hA_sC, z_hB_sC, z_hC_sC, z_hT_sC, z_hN_sC, z_hZ_sC, z_hI_sY, z_hL_sY, z_hR_sY, z_hA_sY, z_hB_sY, z_hC_sY, z_hT_sY, z_hN_sY, z_hZ_sY, z_hI_nO, z_hL_nO, z_hR_nO, z_hA_nO, z_hB_nO, z_hC_nO, z_hT_nO, z_hN_nO, z_hZ_nO, z_hI_nA, z_hL_nA, z_hR_nA, z_hA_nA, z_hB_nA, z_hC_nA, z_hT_nA, z_hN_nA, z_hZ_nA, if_true, if_false, and_false, false_and, and_true, true_and, and_self, decide_true, decide_false, reduceCtorEq, not_false_eq_true, not_true_eq_false, Nat.reduceEqDiff, Nat.reduceAdd, Nat.reduceMul, Nat.add_zero, Nat.zero_add]; rw [i4]; simp only [z_hI_sI, z_hL_sI, z_hR_sI, z_hA_sI, z_hB_sI, z_hC_sI, z_hT_sI, z_hN_sI, z_hZ_sI, z_hI_sL, z_hL_sL, z_hR_sL, z_hA_sL, z_hB_sL, z_hC_sL, z_hT_sL, z_hN_sL, z_hZ_sL, z_hI_sR, z_hL_sR, z_hR_sR, z_hA_sR, z_hB_sR, z_hC_sR, z_hT_sR, z_hN_sR, z_hZ_sR, z_hI_sA, z_hL_sA, z_hR_sA, z_hA_sA, z_hB_sA, z_hC_sA, z_hT_sA, z_hN_sA, z_hZ_sA, z_hI_sB, z_hL_sB, z_hR_sB, z_hA_sB, z_hB_sB, z_hC_sB, z_hT_sB, z_hN_sB, z_hZ_sB, z_hI_sC, z_hL_sC, z_hR_sC, z_hA_sC, z_hB_sC, z_hC_sC, z_hT_sC, z_hN_sC, z_hZ_sC, z_hI_sY, z_hL_sY, z_hR_sY, z_hA_sY, z_hB_sY, z_hC_sY, z_hT_sY, z_hN_sY, z_hZ_sY, z_hI_nO, z_hL_nO, z_hR_nO, z_hA_nO, z_hB_nO, z_hC_nO, z_hT_nO, z_hN_nO, z_hZ_nO, z_hI_nA, z_hL_nA, z_hR_nA, z_hA_nA, z_hB_nA, z_hC_nA, z_hT_nA, z_hN_nA, z_hZ_nA, if_true, if_false, and_false, false_and, and_true, true_and, and_self, decide_true, decide_false, reduceCtorEq, not_false_eq_true, not_true_eq_false, Nat.reduceEqDiff, Nat.reduceAdd, Nat.reduceMul, Nat.add_zero, Nat.zero_add]; rw [i2]; simp only [z_hI_sI, z_hL_sI, z_hR_sI, z_hA_sI, z_hB_sI, z_hC_sI, z_hT_sI, z_hN_sI, z_hZ_sI, z_hI_sL, z_hL_sL, z_hR_sL, z_hA_sL, z_hB_sL, z_hC_sL, z_hT_sL, z_hN_sL, z_hZ_sL, z_hI_sR, z_hL_sR, z_hR_sR, z_hA_sR, z_hB_sR, z_hC_sR, z_hT_sR, z_hN_sR, z_hZ_sR, z_hI_sA, z_hL_sA, z_hR_sA, z_hA_sA, z_hB_sA, z_hC_sA, z_hT_sA, z_hN_sA, z_hZ_sA, z_hI_sB, z_hL_sB, z_hR_sB, z_hA_sB, z_hB_sB, z_hC_sB, z_hT_sB, z_hN_sB, z_hZ_sB, z_hI_sC, z_hL_sC, z_hR_sC, z_hA_sC, z_hB_sC, z_hC_sC, z_hT_sC, z_hN_sC, z_hZ_sC, z_hI_sY, z_hL_sY, z_hR_sY, z_hA_sY, z_hB_sY, z_hC_sY, z_hT_sY, z_hN_sY, z_hZ_sY, z_hI_nO, z_hL_nO, z_hR_nO, z_hA_nO, z_hB_nO, z_hC_nO, z_hT_nO, z_hN_nO, z_hZ_nO, z_hI_nA, z_hL_nA, z_hR_nA, z_hA_nA, z_hB_nA, z_hC_nA, z_hT_nA, z_hN_nA, z_hZ_nA, if_true, if_false, and_false, false_and, and_true, true_and, and_self, decide_true, decide_false, reduceCtorEq, not_false_eq_true, not_true_eq_false, Nat.reduceEqDiff, Nat.reduceAdd, Nat.reduceMul, Nat.add_zero, Nat.zero_add]
                  have m12 : ∀ j, 44 ≤ j → j ≤ 49 → mA (mSA u12 50 w (nI rc12)) j w = mA (mSA u10 49 w (nI rc)) j w := fun j h1 h2 => by
                    rw [z_mA_mSA, if_neg (fun q => by omega), R12.ma j _ (by omega) (by omega) (by omega) (by omega)]
                  have m10 : ∀ j, 44 ≤ j → j ≤ 48 → mA (mSA u10 49 w (nI rc)) j w = mA (mSA u7 48 w (nI hw)) j w := fun j h1 h2 => by
                    rw [z_mA_mSA, if_neg (fun q => by omega), W10.A]
                  have m7 : ∀ j, 44 ≤ j → j ≤ 47 → mA (mSA u7 48 w (nI hw)) j w = mA (mSA (mSA u5 46 w r5') 47 w (-1)) j w := fun j h1 h2 => by
                    rw [z_mA_mSA, if_neg (fun q => by omega), W7.A]
                  have m5 : ∀ j, 44 ≤ j → j ≤ 45 → mA (mSA (mSA u5 46 w r5') 47 w (-1)) j w = mA (mSA (mSA u2 44 w r2) 45 w 1) j w := fun j h1 h2 => by
                    rw [z_mA_mSA, if_neg (fun q => by omega), z_mA_mSA, if_neg (fun q => by omega), T5.ma j _ (by omega) (by omega), W4.A]
                  have q50 : mA (mSA u12 50 w (nI rc12)) 50 w = nI rc12 := by simp only [z_mI_mSI, z_mL_mSI, z_mA_mSI, z_mB_mSI, z_mI_mSL, z_mL_mSL, z_mA_mSL, z_mB_mSL, z_mI_mSA, z_mL_mSA, z_mA_mSA, z_mB_mSA, z_mI_mSB, z_mL_mSB, z_mA_mSB, z_mB_mSB, if_true, if_false, and_false, false_and, and_true, true_and, and_self, decide_true, decide_false, reduceCtorEq, not_false_eq_true, not_true_eq_false, Nat.reduceEqDiff, Nat.reduceAdd, Nat.reduceMul, Nat.add_zero, Nat.zero_add]
                  have q49 : mA (mSA u12 50 w (nI rc12)) 49 w = nI rc := by rw [m12 49 (by omega) (by omega)]; simp only [z_mI_mSI, z_mL_mSI, z_mA_mSI, z_mB_mSI, z_mI_mSL, z_mL_mSL, z_mA_mSL, z_mB_mSL, z_mI_mSA, z_mL_mSA, z_mA_mSA, z_mB_mSA, z_mI_mSB, z_mL_mSB, z_mA_mSB, z_mB_mSB, if_true, if_false, and_false, false_and, and_true, true_and, and_self, decide_true, decide_false, reduceCtorEq, not_false_eq_true, not_true_eq_false, Nat.reduceEqDiff, Nat.reduceAdd, Nat.reduceMul, Nat.add_zero, Nat.zero_add]
                  have q48 : mA (mSA u12 50 w (nI rc12)) 48 w = nI hw := by rw [m12 48 (by omega) (by omega), m10 48 (by omega) (by omega)]; simp only [z_mI_mSI, z_mL_mSI, z_mA_mSI, z_mB_mSI, z_mI_mSL, z_mL_mSL, z_mA_mSL, z_mB_mSL, z_mI_mSA, z_mL_mSA, z_mA_mSA, z_mB_mSA, z_mI_mSB, z_mL_mSB, z_mA_mSB, z_mB_mSB, if_true, if_false, and_false, false_and, and_true, true_and, and_self, decide_true, decide_false, reduceCtorEq, not_false_eq_true, not_true_eq_false, Nat.reduceEqDiff, Nat.reduceAdd, Nat.reduceMul, Nat.add_zero, Nat.zero_add]
                  have q46 : mA (mSA u12 50 w (nI rc12)) 46 w = r5' := by rw [m12 46 (by omega) (by omega), m10 46 (by omega) (by omega), m7 46 (by omega) (by omega)]; simp only [z_mI_mSI, z_mL_mSI, z_mA_mSI, z_mB_mSI, z_mI_mSL, z_mL_mSL, z_mA_mSL, z_mB_mSL, z_mI_mSA, z_mL_mSA, z_mA_mSA, z_mB_mSA, z_mI_mSB, z_mL_mSB, z_mA_mSB, z_mB_mSB, if_true, if_false, and_false, false_and, and_true, true_and, and_self, decide_true, decide_false, reduceCtorEq, not_false_eq_true, not_true_eq_false, Nat.reduceEqDiff, Nat.reduceAdd, Nat.reduceMul, Nat.add_zero, Nat.zero_add]
                  have q45 : mA (mSA u12 50 w (nI rc12)) 45 w = 1 := by rw [m12 45 (by omega) (by omega), m10 45 (by omega) (by omega), m7 45 (by omega) (by omega), m5 45 (by omega) (by omega)]; simp only [z_mI_mSI, z_mL_mSI, z_mA_mSI, z_mB_mSI, z_mI_mSL, z_mL_mSL, z_mA_mSL, z_mB_mSL, z_mI_mSA, z_mL_mSA, z_mA_mSA, z_mB_mSA, z_mI_mSB, z_mL_mSB, z_mA_mSB, z_mB_mSB, if_true, if_false, and_false, false_and, and_true, true_and, and_self, decide_true, decide_false, reduceCtorEq, not_false_eq_true, not_true_eq_false, Nat.reduceEqDiff, Nat.reduceAdd, Nat.reduceMul, Nat.add_zero, Nat.zero_add]
                  have q44 : mA (mSA u12 50 w (nI rc12)) 44 w = r2 := by rw [m12 44 (by omega) (by omega), m10 44 (by omega) (by omega), m7 44 (by omega) (by omega), m5 44 (by omega) (by omega)]; simp only [z_mI_mSI, z_mL_mSI, z_mA_mSI, z_mB_mSI, z_mI_mSL, z_mL_mSL, z_mA_mSL, z_mB_mSL, z_mI_mSA, z_mL_mSA, z_mA_mSA, z_mB_mSA, z_mI_mSB, z_mL_mSB, z_mA_mSB, z_mB_mSB, if_true, if_false, and_false, false_and, and_true, true_and, and_self, decide_true, decide_false, reduceCtorEq, not_false_eq_true, not_true_eq_false, Nat.reduceEqDiff, Nat.reduceAdd, Nat.reduceMul, Nat.add_zero, Nat.zero_add]
                  refine .inr ⟨by rw [X13.kd.2, hy]; rfl, ⟨s, hs, by rw [g257, er2], by rw [q44, er2]⟩, g258, q45, ?_, ?_, ?_⟩
                  · rw [g259, q46]
                    exact ⟨tt, by show okTm v12 c.np tt; unfold okTm at *; omega, er5, er5'⟩
                  · rw [g256, q48]
                    rcases ehw.1 with ⟨p1, p2⟩ | ⟨p1, p2⟩ | ⟨p1, p2⟩ | ⟨p1, p2⟩ <;> rw [p1, p2]
                    · exact .inl ⟨rfl, rfl⟩
                    · exact .inr (.inl ⟨rfl, rfl⟩)
                    · exact .inr (.inr (.inl ⟨rfl, rfl⟩))
                    · exact .inr (.inr (.inr ⟨rfl, rfl⟩))
                  · rw [g261, g263, q49, q50]
                    exact P.x (c := c.wC pc12 rc12) (c' := c.wC pc12 rc12) (fun i hi => rfl) (fun j i h1 h2 h3 => by rw [z_mA_mSA, if_neg (fun q => by omega)]) (Sz.le_refl _) (Nat.le_refl _))
                obtain ⟨h14, G14, di, dj, u14, k1, k2, k3, k4, k5⟩ := go
                rw [X12.m24] at cM12
                rw [ea, cF12 X12.sz, oB3_v, ← rl12, k1, oK3_v, cM12]
                have Ca : RCx h (sI h12 263 a (nI pc12)) G G12 (ci + 0) (cj + 0) 0 0 := C012.x 0 0
                have D13 := D12.trans (DD.sI (z := z) S12 ob12 w3 263 (by omega) (nI pc12))
                refine ⟨h14, G14, _, _, u14, rfl, k2, Ca.trans k3, fun x q1 q2 => (k4 x q1 q2).trans (D13.g x q1 q2), ?_⟩
                rcases k5 with ⟨t', p', r', b1, b2⟩ | b
                · exact .inl ⟨t', p', r', by omega, b2⟩
                · exact .inr b
              · have X13 : Ded (sI h12 263 a (nI pc12)) (mSA u12 50 w (mI u12 24)) := (Xd12.setC S12 ob12 w3 263 (nI pc12)).a2 50 w (mI u12 24)
                refine dead (cF12 z12) C012 (D12.trans ((DD.sI S12 ob12 w3 263 (by omega) (nI pc12)).trans (DD.aw (h := sI h12 263 a (nI pc12)) S12 (j := 50) (by omega) (mI u12 24)))) X13 ?_ p12 q1 (by omega) (by rw [cM12, t410_d X13])
                simp only [z_hI_sI, z_hL_sI, z_hR_sI, z_hA_sI, z_hB_sI, z_hC_sI, z_hT_sI, z_hN_sI, z_hZ_sI, z_hI_sL, z_hL_sL, z_hR_sL, z_hA_sL, z_hB_sL, z_hC_sL, z_hT_sL, z_hN_sL, z_hZ_sL, z_hI_sR, z_hL_sR, z_hR_sR, z_hA_sR, z_hB_sR, z_hC_sR, z_hT_sR, z_hN_sR, z_hZ_sR, z_hI_sA, z_hL_sA, z_hR_sA, z_hA_sA, z_hB_sA, z_hC_sA, z_hT_sA, z_hN_sA, z_hZ_sA, z_hI_sB, z_hL_sB, z_hR_sB, z_hA_sB, z_hB_sB, z_hC_sB, z_hT_sB, z_hN_sB, z_hZ_sB, z_hI_sC, z_hL_sC, z_hR_sC, z_hA_sC, z_hB_sC, z_hC_sC, z_hT_sC, z_hN_sC, z_hZ_sC, z_hI_sY, z_hL_sY, z_hR_sY, z_hA_sY, z_hB_sY, z_hC_sY, z_hT_sY, z_hN_sY, z_hZ_sY, z_hI_nO, z_hL_nO, z_hR_nO, z_hA_nO, z_hB_nO, z_hC_nO, z_hT_nO, z_hN_nO, z_hZ_nO, z_hI_nA, z_hL_nA, z_hR_nA, z_hA_nA, z_hB_nA, z_hC_nA, z_hT_nA, z_hN_nA, z_hZ_nA]
                rw [if_neg (fun q => a5 q.2)]
                exact z12
            · have Y10 : DR h10 u10 G z w L n D pc 1201 := X.dr D10 Xd10 sz10 (by rw [n10]; exact X.hp) (Nat.le_refl _) (by omega)
              obtain ⟨h12, G12, i12, j12, pc12, e12, C12, D12, X12, q3, q4, q5, q6⟩ := t113_d Y10 (by omega) ta10 ob
              have S12 := (D12.cd Sz.nil (Nat.zero_le _) (Nat.zero_le _) (Nat.zero_le _)).sx
              obtain ⟨ex, Xx⟩ := express_d (X12.a2 49 w (mI u10 24))
              have m65x : mI (mSI (mSI (mSA u10 49 w (mI u10 24)) 70 0) 12 0) 65 = nI w := m6510
              have Xy := Xx.a2 50 w (mI (mSI (mSI (mSA u10 49 w (mI u10 24)) 70 0) 12 0) 24)
              exact dead (cF10.trans e12) (RC.q n10 C12) ((D10.trans D12).trans (((DD.aw S12 (j := 49) (by omega) (mI u10 24)).trans (((RD.si S12 _ w z.pc z.rc (k := 70) (by omega) 0).trans (RD.si S12 _ w z.pc z.rc (k := 12) (by omega) 0) (Nat.le_refl _) (Nat.le_refl _)).dd S12 (.inl rfl) w3 (Nat.le_refl _) (Nat.le_refl _))).trans (DD.aw S12 (j := 50) (by omega) _))) Xy q3 q4 q5 (by omega) (by rw [c306 ex m65x, t410_d Xy])
          · -- no way to take it
            have Xd8 := Ded.of X8.V (by omega) (f := 1) (.inl rfl)
            have Q9 := Q.st (sI h7 256 a (cK kw)) 1
            have W9 := W'.fa u7 1 (nI (D (t + 1 + 1 + 1 + 1)).1)
            have D9 := D8.trans (DD.q (z := z) S8 w3 Q9 W9)
            have S9 := Q9.sx S8
            have ta9 : hT (stH (sI h7 256 a (cK kw)) 1) a = 3 := ta7
            have n9 : hN (stH (sI h7 256 a (cK kw)) 1) = hN h := Q9.N.trans n7
            have Y9 : DR (stH (sI h7 256 a (cK kw)) 1) (mSI (mSI u7 13 1) 14 (nI (D (t + 1 + 1 + 1 + 1)).1)) G z w L n D pc 1201 := X.dr D9 Xd8 ((Q9.I _ _ (by omega)).trans X8.sz) (by rw [n9]; exact X.hp) (Nat.le_refl _) (by omega)
            obtain ⟨h12, G12, i12, j12, pc12, e12, C12, D12, X12, q3, q4, q5, q6⟩ := t113_d Y9 (by omega) ta9 ob
            have S12 := (D12.cd Sz.nil (Nat.zero_le _) (Nat.zero_le _) (Nat.zero_le _)).sx
            have m659 : mI (mSI (mSI u7 13 1) 14 (nI (D (t + 1 + 1 + 1 + 1)).1)) 65 = nI w := m657
            obtain ⟨ua, ga, gb, gc⟩ := t306_d (z := z) S12 X12 m659 w3 (-1)
            have nk : ∀ j, j < 38 → kw ≠ j → ¬ cK kw = cK j := fun j hj q e => q ((cK_inj tb hj).mp e)
            have cF9 : fX4_takeHead h 23 (some a) = some (h12, i12, j12) := by
              rw [cF8, if_neg (show ¬ cK kw = 42 from nk 13 (by omega) (by omega)), if_neg (show ¬ cK kw = 43 from nk 11 (by omega) (by omega)), if_neg (show ¬ cK kw = 312 from nk 36 (by omega) (by omega)), if_neg (show ¬ cK kw = 313 from nk 37 (by omega) (by omega)), stopAt_v X8.i X8.V, oB_v, e12]
            have cM9 : hMt u = some ua := by
              rw [cM7]
              unfold tM3
              rw [is11, oB_v, if_neg (show ¬ kw = 11 by omega), if_pos rfl, is13, oB_v, if_neg (show ¬ kw = 13 by omega), if_pos rfl, is36, oB_v, if_neg (show ¬ kw = 36 by omega), if_pos rfl, is37, oB_v, if_neg (show ¬ kw = 37 by omega), if_pos rfl]
              unfold fX12_tellRule_293
              rw [if_pos rfl, fail_v X7.i X7.V, oB_v, ga]
            exact dead cF9 (RC.q n9 C12) ((D9.trans D12).trans gb) gc q3 q4 q5 (by omega) cM9
        · have Y7 : DR h7 u7 G z w L n D pc 1201 := X.dr D7 Xd7 sz7 (by rw [n7]; exact X.hp) (Nat.le_refl _) (by omega)
          obtain ⟨h12, G12, i12, j12, pc12, e12, C12, D12, X12, q3, q4, q5, q6⟩ := tk5_d Y7 (by omega) ta7 ob
          have S12 := (D12.cd Sz.nil (Nat.zero_le _) (Nat.zero_le _) (Nat.zero_le _)).sx
          obtain ⟨ua, ga, gb, gc⟩ := tM3_d (z := z) S12 X12 m657 w3
          exact dead (cF7.trans e12) (RC.q n7 C12) ((D7.trans D12).trans gb) gc q3 q4 q5 (by omega) (cM7.trans ga)
      · have Xd6 : Ded (sI h5 259 a r5) (mSA (mSA u5 46 w r5') 47 w (-1)) := ((Xd5.setC S5 ob w3 259 r5).a2 46 w r5').a2 47 w (-1)
        have Y6 : DR (sI h5 259 a r5) (mSA (mSA u5 46 w r5') 47 w (-1)) G z w L n D pc 1201 := X.dr D6 Xd6 sz6 (by rw [n6]; exact X.hp) (Nat.le_refl _) (by omega)
        obtain ⟨h12, G12, i12, j12, pc12, e12, C12, D12, X12, q3, q4, q5, q6⟩ := tk4_d Y6 (by omega) ta5 ob
        have S12 := (D12.cd Sz.nil (Nat.zero_le _) (Nat.zero_le _) (Nat.zero_le _)).sx
        have m656 : mI (mSA (mSA u5 46 w r5') 47 w (-1)) 65 = nI w := m655
        obtain ⟨ua, ga, gb, gc⟩ := tM2_d (z := z) S12 X12 m656 w3
        exact dead (cF6.trans e12) (RC.q n6 C12) ((D6.trans D12).trans gb) gc q3 q4 q5 (by omega) (cM6.trans ga)
    · have Y4 : DR h4' u4 G z w L n D pc 1201 := X.dr D4 Xd4 sz4 (by rw [n4]; exact X.hp) (Nat.le_refl _) (by omega)
      obtain ⟨h12, G12, i12, j12, pc12, e12, C12, D12, X12, q3, q4, q5, q6⟩ := tk3_d Y4 (by omega) ta4 ob
      have S12 := (D12.cd Sz.nil (Nat.zero_le _) (Nat.zero_le _) (Nat.zero_le _)).sx
      obtain ⟨ua, ga, gb, gc⟩ := tM1_d (z := z) S12 X12 m654 w3
      exact dead (cF4.trans e12) (RC.q n4 C12) ((D4.trans D12).trans gb) gc q3 q4 q5 (by omega) (cM4'.trans ga)
  · have Y2 : DR h2 u2 G z w L n D pc 1201 := X.dr D2 Xd2 sz2 (by rw [n2']; exact X.hp) (Nat.le_refl _) (by omega)
    have Y3 := Y2.sI ob 257 (by omega) r2
    obtain ⟨h12, G12, i12, j12, pc12, e12, C12, D12, X12, q3, q4, q5, q6⟩ := tk2_d Y3 (by omega) ta2 ob
    exact dead ((tkC ek).trans e12) (RC.q (h1 := sI h2 257 a r2) n2' C12) ((D2.trans (DD.sI S2 ob w3 257 (by omega) r2)).trans D12) X12 q3 q4 q5 (by omega) (by
      unfold hMt
      rw [oL_v, em, oB_v, if_neg Xd2.f.2.1])
end TK
