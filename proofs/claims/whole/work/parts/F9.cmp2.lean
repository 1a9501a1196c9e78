section CQ
variable {h h' : PH} {u u' : MS} {G G' : Gh} {z c : Sz} {w v v' L n t t' pc rc pc' rc' y kc k a B : Nat} {D : Nat → Nat × Nat × Nat × List Nat}
theorem DD.sI (S : SX h G) (ob : OB G w a) (w3 : w < 30) (f : Nat) (hf : 256 ≤ f ∧ f ≤ 263) (x : Int32) : DD h u (sI h f a x) u G G z w := (RD.ld S (LD.sI (u := u) S ob w3 f hf x) z.pc z.rc).dd S (.inr ob) w3 (Nat.le_refl _) (Nat.le_refl _)
theorem DD.q (S : SX h G) (w3 : w < 30) (Q1 : Q h h') (W1 : W' u u') : DD h u h' u' G G z w := (RD.q S Q1 W1 23 z.pc z.rc).dd S (.inl rfl) w3 (Nat.le_refl _) (Nat.le_refl _)
/-- if -/
theorem cond_if (X : RX h u G z c w v L n D t pc rc y k k) (b : (D t).2.1 = 34) (h6 : k < 6) : CO h u G z c w v L n D t pc rc y k := by
  have S := X.i.sx
  have bp := X.bp
  have b1 := X.b1
  have w3 := X.K.w3
  have bg : cBg (D t).2.1 := by unfold cBg; omega
  obtain ⟨h1, G1, i1, j1, es, C1, X1, g23, gr, ta, oo⟩ := start_y X bg h6
  obtain ⟨a, ea⟩ : ∃ a, G1.cd w k = a := ⟨_, rfl⟩
  rw [ea] at ta oo es
  have S1 := X1.i.sx
  have ob : OB G1 w a := .inr ⟨k, h6, oo⟩
  have oa : OA G1 w k a := .inr (.inr ⟨k, Nat.le_refl _, h6, oo⟩)
  have n23 := ob.n23 S1 w3
  have a5 : 5 ≠ a := ob.ne w3 S1.o5 (by omega)
  have zs := X.zs
  have la1 := S1.lt ta (by omega)
  have X2 : RX h1 (mSA u 51 (6 * w + k) 3) G1 z c w v L n D t pc rc y (k + 1) k := X1.am ((RMs.refl u w k).sA (.inl ⟨by omega, by omega, rfl⟩))
  have kd1 : hI h1 521 23 = 316 := by rw [X1.V.kd, b]; rfl
  obtain ⟨ey, n6⟩ := tc49_v X h6
  have cl : (nI (6 * w + k)).toNatClampNeg = 6 * w + k := nI_clamp (show 6 * w + k < 2147483648 by omega)
  have hM : fX12_tellCond u = oB (fX12_next (mSA u 51 (6 * w + k) 3)) (fun h64 => cM1 h64 (nI (6 * w + k))) := by
    have i32 : fX12_is u 32 = some 0 := is_n X.i X.V (kw := 32) (by omega) (by omega)
    have i33 : fX12_is u 33 = some 0 := is_n X.i X.V (kw := 33) (by omega) (by omega)
    have i34 : fX12_is u 34 = some 1 := is_y X.i X.V (kw := 34) (by omega) b
    rw [tc0_y X bg]
    unfold fX12_tellCond_49 cM1 cM2
    rw [if_neg (by decide), X.K.m65, oC_t (ix_n (show w < mlen 41 from w3) (by decide)), nI_clamp (show w < 2147483648 by omega), if_neg n6, oC_t (ix_n (show w < mlen 41 from w3) (by decide)), ← X.K.m65, ey, oL_v, i32, oB_v, if_pos rfl, i33, oB_v, if_pos rfl, i34, oB_v, if_neg (by decide), oC_t (i6 w3 h6 (by decide)), oL_v, cl]
  obtain ⟨h3, u3, r3, e3, e4, Q3, W3, o3⟩ := pass_v X2.i X2.V X2.F (kw := 34) (by omega) (by omega) (by omega) b
  have e3' : fX4_expect h1 23 316 = some (h3, r3) := e3
  have S3 := Q3.sx S1
  have ta3 : hT h3 a = 3 := by rw [Q3.T]; exact ta
  have la3 := S3.lt ta3 (by omega)
  have hM3 : fX12_tellCond u = cM1 u3 (nI (6 * w + k)) := by rw [hM, e4, oB_v]
  have hF : ∀ {hh : PH} {ci cj : Nat}, cmp1 a h3 = some (hh, ci, cj) → ∀ k71 x1 x4, fbody k71 h x1 (some (G.rl w)) x4 = oK3 (i1 + ci) (j1 + cj) (fX4_tellRule_148 k71 hh 23 x1 (some (G.rl w)) x4) := fun {hh ci cj} eh k71 x1 x4 => by
    have el : fX4_comparison h1 23 (some a) = some (hh, ci, cj) := by
      unfold fX4_comparison fX4_comparison_0
      rw [oC_d S1.t23, e3', oB2_v]
      exact eh
    unfold fbody
    rw [es, oB4_v, if_neg (by simp), oC_d S1.t23, oL_v, kd1, if_neg (by decide), if_neg (by decide), if_pos rfl, el, oB3_v, oK3_3]
  have D0 : DD h1 u h3 u3 G1 G1 z w := (DD.a1 S1 (k := k) (j := 51) (by omega) 3).trans (DD.q S1 w3 Q3 W3)
  have m653 : mI u3 65 = nI w := (W3.I 65 (by omega)).trans X2.K.m65
  have fin : ∀ {hh : PH} {uu : MS} {GG : Gh} {ci cj pcc : Nat}, cmp1 a h3 = some (hh, ci, cj) → DD h1 u hh uu G1 GG z w → RC h3 hh G1 GG ci cj → hI hh 142 5 = nI pcc → pcc ≤ hN hh GG.pg → pc ≤ pcc → pcc ≤ z.pc + 1240 → Ded hh uu → fX12_tellCond u = some uu → CO h u G z c w v L n D t pc rc y k := fun {hh uu GG ci cj pcc} f1 f2 f3 f4 f5 f6 f7 f8 f9 =>
    ⟨hh, GG, i1 + ci, j1 + cj, uu, f9, C1.trans ((RC.q Q3.N f3).x 0 0), f2.rl.trans gr, fun f p q => (f2.g f p q).trans (g23 f), .inr ⟨pcc, X1.dr f2 f8 f4 f5 f6 f7, .inl (hF f1)⟩⟩
  rcases o3 with ⟨_, c3, V3, F3, fm3⟩ | ⟨_, Xd3⟩
  · have X3 := X2.mv Q3 W3 V3 F3 fm3 (by omega)
    have M4 : RMs u3 (mSA u3 57 (6 * w + k) (nI rc)) w k := (RMs.refl u3 w k).sA (.inl ⟨by omega, by omega, rfl⟩)
    have X4 := (X3.setC oa ob 261 (by omega) (nI pc)).am M4
    have S4 := X4.i.sx
    have D4 : DD h1 u (sI h3 261 a (nI pc)) (mSA u3 57 (6 * w + k) (nI rc)) G1 G1 z w := D0.trans ((DD.sI S3 ob w3 261 (by omega) (nI pc)).trans (M4.dd S4))
    obtain ⟨h5, G5, ci, cj, u5, eF5, eM5, C5, R5, o5⟩ := express_v X4.fx (by omega)
    have S5 := R5.sx
    have ow5 := R5.c0.gd.ow a la3
    have oo5 : G5.ow a = 340000 + 10 * w + k := ow5.trans oo
    have ob5 : OB G5 w a := .inr ⟨k, h6, oo5⟩
    have oa5 : OA G5 w k a := .inr (.inr ⟨k, Nat.le_refl _, h6, oo5⟩)
    have ta5 : hT h5 a = 3 := (R5.T a la3).trans ta3
    have la5 := S5.lt ta5 (by omega)
    have D5 : DD h1 u h5 u5 G1 G5 z w := D4.trans (R5.dd S4 (.inl rfl) w3 zs.2.1 zs.2.2)
    have cF5 : cmp1 a h3 = oK3 ci cj (cmp2 a h5) := by
      unfold cmp1
      rw [oC_d S3.t23, S3.r512_23, oN_v, oC_d S3.t5, oC_d ta3, X3.sz, oL_v, eF5, oB3_v]
    have cM5 : fX12_tellCond u = cM2 u5 (nI (6 * w + k)) := by
      rw [hM3]
      unfold cM1
      rw [oC_t (i6 w3 h6 (by decide)), oL_v, cl, X3.m24, eM5, oB_v]
    have C35 : RC h3 h5 G1 G5 ci cj := RC.q (h1 := sI h3 261 a (nI pc)) rfl C5
    have m655 : mI u5 65 = nI w := (R5.mi 65 (by omega)).trans X4.K.m65
    rcases o5 with ⟨t5, v5, pc5, rc5, ht5, hv5, hp5, hr5, Y5, fm5, E5⟩ | ⟨Xd5, pc5, z5, p5, q1, q2⟩
    · have X5 : RX h5 u5 G5 z c w v5 L n D t5 pc5 rc5 y (k + 1) k := X4.ofx R5 Y5 fm5 hv5 ht5 hp5 hr5
      have bp5 := X5.bp
      have b15 := X5.b1
      obtain ⟨kw, ekw⟩ : ∃ kw, (D t5).2.1 = kw := ⟨_, rfl⟩
      have kd5 : hI (sI h5 262 a (nI pc5)) 521 23 = cK kw := by
        simp only [z_hI_sI, z_hL_sI, z_hR_sI, z_hA_sI, z_hB_sI, z_hC_sI, z_hT_sI, z_hN_sI, z_hZ_sI, z_hI_sL, z_hL_sL, z_hR_sL, z_hA_sL, z_hB_sL, z_hC_sL, z_hT_sL, z_hN_sL, z_hZ_sL, z_hI_sR, z_hL_sR, z_hR_sR, z_hA_sR, z_hB_sR, z_hC_sR, z_hT_sR, z_hN_sR, z_hZ_sR, z_hI_sA, z_hL_sA, z_hR_sA, z_hA_sA, z_hB_sA, z_hC_sA, z_hT_sA, z_hN_sA, z_hZ_sA, z_hI_sB, z_hL_sB, z_hR_sB, z_hA_sB, z_hB_sB, z_hC_sB, z_hT_sB, z_hN_sB, z_hZ_sB, z_hI_sC, z_hL_sC, z_hR_sC, z_hA_sC, z_hB_sC, z_hC_sC, z_hT_sC, z_hN_sC, z_hZ_sC, z_hI_sY, z_hL_sY, z_hR_sY, z_hA_sY, z_hB_sY, z_hC_sY, z_hT_sY, z_hN_sY, z_hZ_sY, z_hI_nO, z_hL_nO, z_hR_nO, z_hA_nO, z_hB_nO, z_hC_nO, z_hT_nO, z_hN_nO, z_hZ_nO, z_hI_nA, z_hL_nA, z_hR_nA, z_hA_nA, z_hB_nA, z_hC_nA, z_hT_nA, z_hN_nA, z_hZ_nA]
        rw [if_neg (fun q => n23 q.2.symm), X5.V.kd, ekw]
      have M6 : RMs u5 (mSA u5 58 (6 * w + k) (nI rc5)) w k := (RMs.refl u5 w k).sA (.inl ⟨by omega, by omega, rfl⟩)
      have X6 := ((X5.setC oa5 ob5 262 (by omega) (nI pc5)).setC oa5 ob5 256 (by omega) (cK kw)).am M6
      have S6 := X6.i.sx
      have D6 : DD h1 u (sI (sI h5 262 a (nI pc5)) 256 a (cK kw)) (mSA u5 58 (6 * w + k) (nI rc5)) G1 G5 z w := D5.trans (((DD.sI S5 ob5 w3 262 (by omega) (nI pc5)).trans (DD.sI (h := sI h5 262 a (nI pc5)) S5 ob5 w3 256 (by omega) (cK kw))).trans (M6.dd S6))
      have k256 : hI (sI (sI h5 262 a (nI pc5)) 256 a (cK kw)) 256 a = cK kw := by simp only [z_hI_sI, z_hL_sI, z_hR_sI, z_hA_sI, z_hB_sI, z_hC_sI, z_hT_sI, z_hN_sI, z_hZ_sI, z_hI_sL, z_hL_sL, z_hR_sL, z_hA_sL, z_hB_sL, z_hC_sL, z_hT_sL, z_hN_sL, z_hZ_sL, z_hI_sR, z_hL_sR, z_hR_sR, z_hA_sR, z_hB_sR, z_hC_sR, z_hT_sR, z_hN_sR, z_hZ_sR, z_hI_sA, z_hL_sA, z_hR_sA, z_hA_sA, z_hB_sA, z_hC_sA, z_hT_sA, z_hN_sA, z_hZ_sA, z_hI_sB, z_hL_sB, z_hR_sB, z_hA_sB, z_hB_sB, z_hC_sB, z_hT_sB, z_hN_sB, z_hZ_sB, z_hI_sC, z_hL_sC, z_hR_sC, z_hA_sC, z_hB_sC, z_hC_sC, z_hT_sC, z_hN_sC, z_hZ_sC, z_hI_sY, z_hL_sY, z_hR_sY, z_hA_sY, z_hB_sY, z_hC_sY, z_hT_sY, z_hN_sY, z_hZ_sY, z_hI_nO, z_hL_nO, z_hR_nO, z_hA_nO, z_hB_nO, z_hC_nO, z_hT_nO, z_hN_nO, z_hZ_nO, z_hI_nA, z_hL_nA, z_hR_nA, z_hA_nA, z_hB_nA, z_hC_nA, z_hT_nA, z_hN_nA, z_hZ_nA, if_true, if_false, and_false, false_and, and_true, true_and, and_self, decide_true, decide_false, reduceCtorEq, not_false_eq_true, not_true_eq_false, Nat.reduceEqDiff, Nat.reduceAdd, Nat.reduceMul, Nat.add_zero, Nat.zero_add]
      have tb := (X6.i.ts.tk t5 X6.V.lt).2.2.2.2.2.2.2.1
      rw [ekw] at tb
      have m5 : mA (mSA u5 58 (6 * w + k) (nI rc5)) 5 t5 = nI kw := by
        have := (X6.i.ts.tk t5 X6.V.lt).2.2.2.1
        rw [this, ekw]
      have i5 : ix (nI t5) (mlen 5) = true := ix_n (show t5 < mlen 5 by show t5 < 1203; omega) (by decide)
      have cF6 : cmp2 a h5 = if cK kw = 60 then (fX4_comparison_88 (sI (sI h5 262 a (nI pc5)) 256 a (cK kw)) 23 (some a)) else (if cK kw = 257 then (fX4_comparison_88 (sI (sI h5 262 a (nI pc5)) 256 a (cK kw)) 23 (some a)) else (if cK kw = 258 then (fX4_comparison_88 (sI (sI h5 262 a (nI pc5)) 256 a (cK kw)) 23 (some a)) else (if cK kw = 259 then (fX4_comparison_88 (sI (sI h5 262 a (nI pc5)) 256 a (cK kw)) 23 (some a)) else (oB (fX4_stopAt (sI (sI h5 262 a (nI pc5)) 256 a (cK kw)) 23 1) (fun h53 => fX4_comparison_105 h53 23 (some a)))))) := by
        unfold cmp2
        rw [oC_d S5.t23, S5.r512_23, oN_v, oC_d S5.t5, oC_d ta5, X5.sz, oL_v, kd5, oL_v, k256, oL_v]
      have cM6 : fX12_tellCond u = if nI kw < 16 then fX12_tellCond_253 (mSA u5 58 (6 * w + k) (nI rc5)) (nI (6 * w + k)) else if nI kw ≤ 19 then fX12_tellCond_258 (mSA u5 58 (6 * w + k) (nI rc5)) (nI (6 * w + k)) else fX12_tellCond_253 (mSA u5 58 (6 * w + k) (nI rc5)) (nI (6 * w + k)) := by
        rw [cM5]
        unfold cM2
        rw [oC_t (i6 w3 h6 (by decide)), oL_v, cl, X5.m24, X6.V.f0, if_pos rfl, X6.V.t0, oC_t i5, nI_clamp (show t5 < 2147483648 by omega), m5, oC_t i5]
      have ta6 : hT (sI (sI h5 262 a (nI pc5)) 256 a (cK kw)) a = 3 := ta5
      by_cases cc : 16 ≤ kw ∧ kw ≤ 19
      · -- a sign of comparison
        have M7 : RMs (mSA u5 58 (6 * w + k) (nI rc5)) (mSA (mSA u5 58 (6 * w + k) (nI rc5)) 56 (6 * w + k) (nI kw)) w k := (RMs.refl _ w k).sA (.inl ⟨by omega, by omega, rfl⟩)
        have X7 := X6.am M7
        obtain ⟨h8, u8, r8, e8, e8', Q8, W8, o8⟩ := pass_v X7.i X7.V X7.F (kw := kw) (by omega) (by omega) (by omega) ekw
        have S8 := Q8.sx S6
        have ta8 : hT h8 a = 3 := by rw [Q8.T]; exact ta5
        have la8 := S8.lt ta8 (by omega)
        have D8 : DD h1 u h8 u8 G1 G5 z w := D6.trans ((M7.dd S6).trans (DD.q S6 w3 Q8 W8))
        have c88 : fX4_comparison_88 (sI (sI h5 262 a (nI pc5)) 256 a (cK kw)) 23 (some a) = fX4_comparison_105 h8 23 (some a) := by
          unfold fX4_comparison_88
          rw [oN_v, oC_d ta6, oC_d S6.t23, k256, e8, oB2_v]
        have cF8 : cmp2 a h5 = fX4_comparison_105 h8 23 (some a) := by
          rw [cF6, c88]
          have : kw = 16 ∨ kw = 17 ∨ kw = 18 ∨ kw = 19 := by omega
          rcases this with q | q | q | q <;> subst q
          · rw [if_neg (by decide), if_pos (by decide)]
          · rw [if_neg (by decide), if_neg (by decide), if_pos (by decide)]
          · rw [if_pos (by decide)]
          · rw [if_neg (by decide), if_neg (by decide), if_neg (by decide), if_pos (by decide)]
        have cM8 : fX12_tellCond u = cM4 u8 (nI (6 * w + k)) := by
          rw [cM6, if_neg (show ¬ nI kw < 16 from nI_nlt (b := 16) (by omega) (by omega)), if_pos (show nI kw ≤ 19 from nI_le (b := 19) (by omega) (by omega))]
          unfold fX12_tellCond_258
          rw [X6.V.f0, if_pos (by decide), X6.V.t0, oC_t i5, nI_clamp (show t5 < 2147483648 by omega), m5, c283_h _ w3 h6, e8', oB_v]
        have m658 : mI u8 65 = nI w := (W8.I 65 (by omega)).trans m655
        have C38 : RC h3 h8 G1 G5 ci cj := C35.trans (RC.n (G := G5) (h := h5) Q8.N)
        rcases o8 with ⟨_, c8, V8, F8, fm8⟩ | ⟨_, Xd8⟩
        · have X8 := X7.mv Q8 W8 V8 F8 fm8 (by omega)
          obtain ⟨h9, G9, di, dj, u9, eF9, eM9, C9, R9, o9⟩ := express_v X8.fx (by omega)
          have S9 := R9.sx
          have oo9 : G9.ow a = 340000 + 10 * w + k := (R9.c0.gd.ow a la8).trans oo5
          have ob9 : OB G9 w a := .inr ⟨k, h6, oo9⟩
          have oa9 : OA G9 w k a := .inr (.inr ⟨k, Nat.le_refl _, h6, oo9⟩)
          have ta9 : hT h9 a = 3 := (R9.T a la8).trans ta8
          have m659 : mI u9 65 = nI w := (R9.mi 65 (by omega)).trans m658
          have D9 : DD h1 u h9 u9 G1 G9 z w := D8.trans (R9.dd S8 (.inl rfl) w3 (by omega) (by omega))
          have cF9 : ∀ {pcc : Nat}, hI h9 142 5 = nI pcc → cmp1 a h3 = some (sI h9 263 a (nI pcc), ci + (di + 0), cj + (dj + 0)) := fun {pcc} sz => by
            rw [cF5, cF8]
            unfold fX4_comparison_105
            rw [oC_d S8.t23, eF9, oB3_v, oC_d S9.t23, S9.r512_23, oN_v, oC_d S9.t5, oN_v, oC_d ta9, sz, oL_v, oK3_v, oK3_v]
          have m65a : ∀ x, mI (mSA u9 59 (6 * w + k) x) 65 = nI w := fun x => m659
          have cM9 : fX12_tellCond u = some (mSA (mSA u9 59 (6 * w + k) (mI u9 24)) 41 w (mA (mSA u9 59 (6 * w + k) (mI u9 24)) 41 w + 1)) := by
            rw [cM8]
            unfold cM4
            rw [eM9, oB_v, oC_t (i6 w3 h6 (by decide)), oL_v, cl, t356_v (m65a _) w3]
          have C39 : RC h3 h9 G1 G9 (ci + di) (cj + dj) := C38.trans C9
          rcases o9 with ⟨t9, v9, pc9, rc9, ht9, hv9, hp9, hr9, Y9, fm9, E9⟩ | ⟨Xd9, pc9, z9, p9, q1, q2⟩
          · have X9 : RX h9 u9 G9 z c w v9 L n D t9 pc9 rc9 y (k + 1) k := X8.ofx R9 Y9 fm9 hv9 ht9 hp9 hr9
            have Mx : RMs u9 (mSA u9 59 (6 * w + k) (nI rc9)) w k := (RMs.refl u9 w k).sA (.inl ⟨by omega, by omega, rfl⟩)
            have Xa := (X9.setC oa9 ob9 263 (by omega) (nI pc9)).am Mx
            have m41 : mA (mSA u9 59 (6 * w + k) (nI rc9)) 41 w = nI k := Xa.n2
            have cd9 : G9.cd w k = a := by rw [R9.ge.2.2.2.1, R5.ge.2.2.2.1]; exact ea
            have Xb := Xa.done (fun e0 => by
              have e09 : mI u9 15 = 0 := e0
              have e05 : mI u5 15 = 0 := by
                have : mI (mSA (mSA u5 58 (6 * w + k) (nI rc5)) 56 (6 * w + k) (nI kw)) 15 = 0 := FM.z X7.F (fm8.trans fm9) e09
                exact this
              have P1 := pgr_of (E5 e05)
              have P2 := pgr_of (E9 e09)
              rw [cd9]
              have i9 : ∀ f, hI h9 f a = hI (sI (sI h5 262 a (nI pc5)) 256 a (cK kw)) f a := fun f => (R9.I f a n23 n23 (fun q => a5 q.2.symm)).trans (Q8.I f a n23)
              have g256 : hI (sI h9 263 a (nI pc9)) 256 a = cK kw := by
                simp only [z_hI_sI, z_hL_sI, z_hR_sI, z_hA_sI, z_hB_sI, z_hC_sI, z_hT_sI, z_hN_sI, z_hZ_sI, z_hI_sL, z_hL_sL, z_hR_sL, z_hA_sL, z_hB_sL, z_hC_sL, z_hT_sL, z_hN_sL, z_hZ_sL, z_hI_sR, z_hL_sR, z_hR_sR, z_hA_sR, z_hB_sR, z_hC_sR, z_hT_sR, z_hN_sR, z_hZ_sR, z_hI_sA, z_hL_sA, z_hR_sA, z_hA_sA, z_hB_sA, z_hC_sA, z_hT_sA, z_hN_sA, z_hZ_sA, z_hI_sB, z_hL_sB, z_hR_sB, z_hA_sB, z_hB_sB, z_hC_sB, z_hT_sB, z_hN_sB, z_hZ_sB, z_hI_sC, z_hL_sC, z_hR_sC, z_hA_sC, z_hB_sC, z_hC_sC, z_hT_sC, z_hN_sC, z_hZ_sC, z_hI_sY, z_hL_sY, z_hR_sY, z_hA_sY, z_hB_sY, z_hC_sY, z_hT_sY, z_hN_sY, z_hZ_sY, z_hI_nO, z_hL_nO, z_hR_nO, z_hA_nO, z_hB_nO, z_hC_nO, z_hT_nO, z_hN_nO, z_hZ_nO, z_hI_nA, z_hL_nA, z_hR_nA, z_hA_nA, z_hB_nA, z_hC_nA, z_hT_nA, z_hN_nA, z_hZ_nA, if_true, if_false, and_false, false_and, and_true, true_and, and_self, decide_true, decide_false, reduceCtorEq, not_false_eq_true, not_true_eq_false, Nat.reduceEqDiff, Nat.reduceAdd, Nat.reduceMul, Nat.add_zero, Nat.zero_add]
                rw [i9]
                simp only [z_hI_sI, z_hL_sI, z_hR_sI, z_hA_sI, z_hB_sI, z_hC_sI, z_hT_sI, z_hN_sI, z_hZ_sI, z_hI_sL, z_hL_sL, z_hR_sL, z_hA_sL, z_hB_sL, z_hC_sL, z_hT_sL, z_hN_sL, z_hZ_sL, z_hI_sR, z_hL_sR, z_hR_sR, z_hA_sR, z_hB_sR, z_hC_sR, z_hT_sR, z_hN_sR, z_hZ_sR, z_hI_sA, z_hL_sA, z_hR_sA, z_hA_sA, z_hB_sA, z_hC_sA, z_hT_sA, z_hN_sA, z_hZ_sA, z_hI_sB, z_hL_sB, z_hR_sB, z_hA_sB, z_hB_sB, z_hC_sB, z_hT_sB, z_hN_sB, z_hZ_sB, z_hI_sC, z_hL_sC, z_hR_sC, z_hA_sC, z_hB_sC, z_hC_sC, z_hT_sC, z_hN_sC, z_hZ_sC, z_hI_sY, z_hL_sY, z_hR_sY, z_hA_sY, z_hB_sY, z_hC_sY, z_hT_sY, z_hN_sY, z_hZ_sY, z_hI_nO, z_hL_nO, z_hR_nO, z_hA_nO, z_hB_nO, z_hC_nO, z_hT_nO, z_hN_nO, z_hZ_nO, z_hI_nA, z_hL_nA, z_hR_nA, z_hA_nA, z_hB_nA, z_hC_nA, z_hT_nA, z_hN_nA, z_hZ_nA, if_true, if_false, and_false, false_and, and_true, true_and, and_self, decide_true, decide_false, reduceCtorEq, not_false_eq_true, not_true_eq_false, Nat.reduceEqDiff, Nat.reduceAdd, Nat.reduceMul, Nat.add_zero, Nat.zero_add]
              have g261 : hI (sI h9 263 a (nI pc9)) 261 a = nI pc := by
                simp only [z_hI_sI, z_hL_sI, z_hR_sI, z_hA_sI, z_hB_sI, z_hC_sI, z_hT_sI, z_hN_sI, z_hZ_sI, z_hI_sL, z_hL_sL, z_hR_sL, z_hA_sL, z_hB_sL, z_hC_sL, z_hT_sL, z_hN_sL, z_hZ_sL, z_hI_sR, z_hL_sR, z_hR_sR, z_hA_sR, z_hB_sR, z_hC_sR, z_hT_sR, z_hN_sR, z_hZ_sR, z_hI_sA, z_hL_sA, z_hR_sA, z_hA_sA, z_hB_sA, z_hC_sA, z_hT_sA, z_hN_sA, z_hZ_sA, z_hI_sB, z_hL_sB, z_hR_sB, z_hA_sB, z_hB_sB, z_hC_sB, z_hT_sB, z_hN_sB, z_hZ_sB, z_hI_sC, z_hL_sC, z_hR_sC, z_hA_sC, z_hB_sC, z_hC_sC, z_hT_sC, z_hN_sC, z_hZ_sC, z_hI_sY, z_hL_sY, z_hR_sY, z_hA_sY, z_hB_sY, z_hC_sY, z_hT_sY, z_hN_sY, z_hZ_sY, z_hI_nO, z_hL_nO, z_hR_nO, z_hA_nO, z_hB_nO, z_hC_nO, z_hT_nO, z_hN_nO, z_hZ_nO, z_hI_nA, z_hL_nA, z_hR_nA, z_hA_nA, z_hB_nA, z_hC_nA, z_hT_nA, z_hN_nA, z_hZ_nA, if_true, if_false, and_false, false_and, and_true, true_and, and_self, decide_true, decide_false, reduceCtorEq, not_false_eq_true, not_true_eq_false, Nat.reduceEqDiff, Nat.reduceAdd, Nat.reduceMul, Nat.add_zero, Nat.zero_add]
                rw [i9]
                simp only [z_hI_sI, z_hL_sI, z_hR_sI, z_hA_sI, z_hB_sI, z_hC_sI, z_hT_sI, z_hN_sI, z_hZ_sI, z_hI_sL, z_hL_sL, z_hR_sL, z_hA_sL, z_hB_sL, z_hC_sL, z_hT_sL, z_hN_sL, z_hZ_sL, z_hI_sR, z_hL_sR, z_hR_sR, z_hA_sR, z_hB_sR, z_hC_sR, z_hT_sR, z_hN_sR, z_hZ_sR, z_hI_sA, z_hL_sA, z_hR_sA, z_hA_sA, z_hB_sA, z_hC_sA, z_hT_sA, z_hN_sA, z_hZ_sA, z_hI_sB, z_hL_sB, z_hR_sB, z_hA_sB, z_hB_sB, z_hC_sB, z_hT_sB, z_hN_sB, z_hZ_sB, z_hI_sC, z_hL_sC, z_hR_sC, z_hA_sC, z_hB_sC, z_hC_sC, z_hT_sC, z_hN_sC, z_hZ_sC, z_hI_sY, z_hL_sY, z_hR_sY, z_hA_sY, z_hB_sY, z_hC_sY, z_hT_sY, z_hN_sY, z_hZ_sY, z_hI_nO, z_hL_nO, z_hR_nO, z_hA_nO, z_hB_nO, z_hC_nO, z_hT_nO, z_hN_nO, z_hZ_nO, z_hI_nA, z_hL_nA, z_hR_nA, z_hA_nA, z_hB_nA, z_hC_nA, z_hT_nA, z_hN_nA, z_hZ_nA, if_true, if_false, and_false, false_and, and_true, true_and, and_self, decide_true, decide_false, reduceCtorEq, not_false_eq_true, not_true_eq_false, Nat.reduceEqDiff, Nat.reduceAdd, Nat.reduceMul, Nat.add_zero, Nat.zero_add]
                rw [R5.I 261 a n23 n23 (fun q => a5 q.2.symm)]
                simp only [z_hI_sI, z_hL_sI, z_hR_sI, z_hA_sI, z_hB_sI, z_hC_sI, z_hT_sI, z_hN_sI, z_hZ_sI, z_hI_sL, z_hL_sL, z_hR_sL, z_hA_sL, z_hB_sL, z_hC_sL, z_hT_sL, z_hN_sL, z_hZ_sL, z_hI_sR, z_hL_sR, z_hR_sR, z_hA_sR, z_hB_sR, z_hC_sR, z_hT_sR, z_hN_sR, z_hZ_sR, z_hI_sA, z_hL_sA, z_hR_sA, z_hA_sA, z_hB_sA, z_hC_sA, z_hT_sA, z_hN_sA, z_hZ_sA, z_hI_sB, z_hL_sB, z_hR_sB, z_hA_sB, z_hB_sB, z_hC_sB, z_hT_sB, z_hN_sB, z_hZ_sB, z_hI_sC, z_hL_sC, z_hR_sC, z_hA_sC, z_hB_sC, z_hC_sC, z_hT_sC, z_hN_sC, z_hZ_sC, z_hI_sY, z_hL_sY, z_hR_sY, z_hA_sY, z_hB_sY, z_hC_sY, z_hT_sY, z_hN_sY, z_hZ_sY, z_hI_nO, z_hL_nO, z_hR_nO, z_hA_nO, z_hB_nO, z_hC_nO, z_hT_nO, z_hN_nO, z_hZ_nO, z_hI_nA, z_hL_nA, z_hR_nA, z_hA_nA, z_hB_nA, z_hC_nA, z_hT_nA, z_hN_nA, z_hZ_nA, if_true, if_false, and_false, false_and, and_true, true_and, and_self, decide_true, decide_false, reduceCtorEq, not_false_eq_true, not_true_eq_false, Nat.reduceEqDiff, Nat.reduceAdd, Nat.reduceMul, Nat.add_zero, Nat.zero_add]
              have g262 : hI (sI h9 263 a (nI pc9)) 262 a = nI pc5 := by
                simp only [z_hI_sI, z_hL_sI, z_hR_sI, z_hA_sI, z_hB_sI, z_hC_sI, z_hT_sI, z_hN_sI, z_hZ_sI, z_hI_sL, z_hL_sL, z_hR_sL, z_hA_sL, z_hB_sL, z_hC_sL, z_hT_sL, z_hN_sL, z_hZ_sL, z_hI_sR, z_hL_sR, z_hR_sR, z_hA_sR, z_hB_sR, z_hC_sR, z_hT_sR, z_hN_sR, z_hZ_sR, z_hI_sA, z_hL_sA, z_hR_sA, z_hA_sA, z_hB_sA, z_hC_sA, z_hT_sA, z_hN_sA, z_hZ_sA, z_hI_sB, z_hL_sB, z_hR_sB, z_hA_sB, z_hB_sB, z_hC_sB, z_hT_sB, z_hN_sB, z_hZ_sB, z_hI_sC, z_hL_sC, z_hR_sC, z_hA_sC, z_hB_sC, z_hC_sC, z_hT_sC, z_hN_sC, z_hZ_sC, z_hI_sY, z_hL_sY, z_hR_sY, z_hA_sY, z_hB_sY, z_hC_sY, z_hT_sY, z_hN_sY, z_hZ_sY, z_hI_nO, z_hL_nO, z_hR_nO, z_hA_nO, z_hB_nO, z_hC_nO, z_hT_nO, z_hN_nO, z_hZ_nO, z_hI_nA, z_hL_nA, z_hR_nA, z_hA_nA, z_hB_nA, z_hC_nA, z_hT_nA, z_hN_nA, z_hZ_nA, if_true, if_false, and_false, false_and, and_true, true_and, and_self, decide_true, decide_false, reduceCtorEq, not_false_eq_true, not_true_eq_false, Nat.reduceEqDiff, Nat.reduceAdd, Nat.reduceMul, Nat.add_zero, Nat.zero_add]
                rw [i9]
                simp only [z_hI_sI, z_hL_sI, z_hR_sI, z_hA_sI, z_hB_sI, z_hC_sI, z_hT_sI, z_hN_sI, z_hZ_sI, z_hI_sL, z_hL_sL, z_hR_sL, z_hA_sL, z_hB_sL, z_hC_sL, z_hT_sL, z_hN_sL, z_hZ_sL, z_hI_sR, z_hL_sR, z_hR_sR, z_hA_sR, z_hB_sR, z_hC_sR, z_hT_sR, z_hN_sR, z_hZ_sR, z_hI_sA, z_hL_sA, z_hR_sA, z_hA_sA, z_hB_sA, z_hC_sA, z_hT_sA, z_hN_sA, z_hZ_sA, z_hI_sB, z_hL_sB, z_hR_sB, z_hA_sB, z_hB_sB, z_hC_sB, z_hT_sB, z_hN_sB, z_hZ_sB, z_hI_sC, z_hL_sC, z_hR_sC, z_hA_sC, z_hB_sC, z_hC_sC, z_hT_sC, z_hN_sC, z_hZ_sC, z_hI_sY, z_hL_sY, z_hR_sY, z_hA_sY, z_hB_sY, z_hC_sY, z_hT_sY, z_hN_sY, z_hZ_sY, z_hI_nO, z_hL_nO, z_hR_nO, z_hA_nO, z_hB_nO, z_hC_nO, z_hT_nO, z_hN_nO, z_hZ_nO, z_hI_nA, z_hL_nA, z_hR_nA, z_hA_nA, z_hB_nA, z_hC_nA, z_hT_nA, z_hN_nA, z_hZ_nA, if_true, if_false, and_false, false_and, and_true, true_and, and_self, decide_true, decide_false, reduceCtorEq, not_false_eq_true, not_true_eq_false, Nat.reduceEqDiff, Nat.reduceAdd, Nat.reduceMul, Nat.add_zero, Nat.zero_add]
              have g263 : hI (sI h9 263 a (nI pc9)) 263 a = nI pc9 := by simp only [z_hI_sI, z_hL_sI, z_hR_sI, z_hA_sI, z_hB_sI, z_hC_sI, z_hT_sI, z_hN_sI, z_hZ_sI, z_hI_sL, z_hL_sL, z_hR_sL, z_hA_sL, z_hB_sL, z_hC_sL, z_hT_sL, z_hN_sL, z_hZ_sL, z_hI_sR, z_hL_sR, z_hR_sR, z_hA_sR, z_hB_sR, z_hC_sR, z_hT_sR, z_hN_sR, z_hZ_sR, z_hI_sA, z_hL_sA, z_hR_sA, z_hA_sA, z_hB_sA, z_hC_sA, z_hT_sA, z_hN_sA, z_hZ_sA, z_hI_sB, z_hL_sB, z_hR_sB, z_hA_sB, z_hB_sB, z_hC_sB, z_hT_sB, z_hN_sB, z_hZ_sB, z_hI_sC, z_hL_sC, z_hR_sC, z_hA_sC, z_hB_sC, z_hC_sC, z_hT_sC, z_hN_sC, z_hZ_sC, z_hI_sY, z_hL_sY, z_hR_sY, z_hA_sY, z_hB_sY, z_hC_sY, z_hT_sY, z_hN_sY, z_hZ_sY, z_hI_nO, z_hL_nO, z_hR_nO, z_hA_nO, z_hB_nO, z_hC_nO, z_hT_nO, z_hN_nO, z_hZ_nO, z_hI_nA, z_hL_nA, z_hR_nA, z_hA_nA, z_hB_nA, z_hC_nA, z_hT_nA, z_hN_nA, z_hZ_nA, if_true, if_false, and_false, false_and, and_true, true_and, and_self, decide_true, decide_false, reduceCtorEq, not_false_eq_true, not_true_eq_false, Nat.reduceEqDiff, Nat.reduceAdd, Nat.reduceMul, Nat.add_zero, Nat.zero_add]
              have ma9 : ∀ j, 51 ≤ j → j ≤ 58 → mA (mSA u9 59 (6 * w + k) (nI rc9)) j (6 * w + k) = mA (mSA (mSA u5 58 (6 * w + k) (nI rc5)) 56 (6 * w + k) (nI kw)) j (6 * w + k) := fun j h1 h2 => by
                rw [z_mA_mSA, if_neg (fun q => by omega), R9.ma j _ (by omega) (by omega) (by omega) (by omega), W8.A]
              have ma5 : ∀ j, 51 ≤ j → j ≤ 59 → j ≠ 57 → mA u5 j (6 * w + k) = mA (mSA u 51 (6 * w + k) 3) j (6 * w + k) := fun j h1 h2 h3 => by
                rw [R5.ma j _ (by omega) (by omega) (by omega) (by omega), z_mA_mSA, if_neg (fun q => by omega), W3.A]
              have n51 : mA (mSA u9 59 (6 * w + k) (nI rc9)) 51 (6 * w + k) = 3 := by
                rw [ma9 51 (by omega) (by omega)]
                simp only [z_mI_mSI, z_mL_mSI, z_mA_mSI, z_mB_mSI, z_mI_mSL, z_mL_mSL, z_mA_mSL, z_mB_mSL, z_mI_mSA, z_mL_mSA, z_mA_mSA, z_mB_mSA, z_mI_mSB, z_mL_mSB, z_mA_mSB, z_mB_mSB, if_true, if_false, and_false, false_and, and_true, true_and, and_self, decide_true, decide_false, reduceCtorEq, not_false_eq_true, not_true_eq_false, Nat.reduceEqDiff, Nat.reduceAdd, Nat.reduceMul, Nat.add_zero, Nat.zero_add]
                rw [ma5 51 (by omega) (by omega) (by omega)]
                simp only [z_mI_mSI, z_mL_mSI, z_mA_mSI, z_mB_mSI, z_mI_mSL, z_mL_mSL, z_mA_mSL, z_mB_mSL, z_mI_mSA, z_mL_mSA, z_mA_mSA, z_mB_mSA, z_mI_mSB, z_mL_mSB, z_mA_mSB, z_mB_mSB, if_true, if_false, and_false, false_and, and_true, true_and, and_self, decide_true, decide_false, reduceCtorEq, not_false_eq_true, not_true_eq_false, Nat.reduceEqDiff, Nat.reduceAdd, Nat.reduceMul, Nat.add_zero, Nat.zero_add]
              have n56 : mA (mSA u9 59 (6 * w + k) (nI rc9)) 56 (6 * w + k) = nI kw := by
                rw [ma9 56 (by omega) (by omega)]
                simp only [z_mI_mSI, z_mL_mSI, z_mA_mSI, z_mB_mSI, z_mI_mSL, z_mL_mSL, z_mA_mSL, z_mB_mSL, z_mI_mSA, z_mL_mSA, z_mA_mSA, z_mB_mSA, z_mI_mSB, z_mL_mSB, z_mA_mSB, z_mB_mSB, if_true, if_false, and_false, false_and, and_true, true_and, and_self, decide_true, decide_false, reduceCtorEq, not_false_eq_true, not_true_eq_false, Nat.reduceEqDiff, Nat.reduceAdd, Nat.reduceMul, Nat.add_zero, Nat.zero_add]
              have n57 : mA (mSA u9 59 (6 * w + k) (nI rc9)) 57 (6 * w + k) = nI rc := by
                rw [ma9 57 (by omega) (by omega)]
                simp only [z_mI_mSI, z_mL_mSI, z_mA_mSI, z_mB_mSI, z_mI_mSL, z_mL_mSL, z_mA_mSL, z_mB_mSL, z_mI_mSA, z_mL_mSA, z_mA_mSA, z_mB_mSA, z_mI_mSB, z_mL_mSB, z_mA_mSB, z_mB_mSB, if_true, if_false, and_false, false_and, and_true, true_and, and_self, decide_true, decide_false, reduceCtorEq, not_false_eq_true, not_true_eq_false, Nat.reduceEqDiff, Nat.reduceAdd, Nat.reduceMul, Nat.add_zero, Nat.zero_add]
                rw [R5.ma 57 _ (by omega) (by omega) (by omega) (by omega)]
                simp only [z_mI_mSI, z_mL_mSI, z_mA_mSI, z_mB_mSI, z_mI_mSL, z_mL_mSL, z_mA_mSL, z_mB_mSL, z_mI_mSA, z_mL_mSA, z_mA_mSA, z_mB_mSA, z_mI_mSB, z_mL_mSB, z_mA_mSB, z_mB_mSB, if_true, if_false, and_false, false_and, and_true, true_and, and_self, decide_true, decide_false, reduceCtorEq, not_false_eq_true, not_true_eq_false, Nat.reduceEqDiff, Nat.reduceAdd, Nat.reduceMul, Nat.add_zero, Nat.zero_add]
              have n58 : mA (mSA u9 59 (6 * w + k) (nI rc9)) 58 (6 * w + k) = nI rc5 := by
                rw [ma9 58 (by omega) (by omega)]
                simp only [z_mI_mSI, z_mL_mSI, z_mA_mSI, z_mB_mSI, z_mI_mSL, z_mL_mSL, z_mA_mSL, z_mB_mSL, z_mI_mSA, z_mL_mSA, z_mA_mSA, z_mB_mSA, z_mI_mSB, z_mL_mSB, z_mA_mSB, z_mB_mSB, if_true, if_false, and_false, false_and, and_true, true_and, and_self, decide_true, decide_false, reduceCtorEq, not_false_eq_true, not_true_eq_false, Nat.reduceEqDiff, Nat.reduceAdd, Nat.reduceMul, Nat.add_zero, Nat.zero_add]
              have n59 : mA (mSA u9 59 (6 * w + k) (nI rc9)) 59 (6 * w + k) = nI rc9 := by simp only [z_mI_mSI, z_mL_mSI, z_mA_mSI, z_mB_mSI, z_mI_mSL, z_mL_mSL, z_mA_mSL, z_mB_mSL, z_mI_mSA, z_mL_mSA, z_mA_mSA, z_mB_mSA, z_mI_mSB, z_mL_mSB, z_mA_mSB, z_mB_mSB, if_true, if_false, and_false, false_and, and_true, true_and, and_self, decide_true, decide_false, reduceCtorEq, not_false_eq_true, not_true_eq_false, Nat.reduceEqDiff, Nat.reduceAdd, Nat.reduceMul, Nat.add_zero, Nat.zero_add]
              refine .inr (.inr (.inr ⟨n51, ?_, ?_, ?_⟩))
              · rw [g256, n56]
                have : kw = 16 ∨ kw = 17 ∨ kw = 18 ∨ kw = 19 := by omega
                rcases this with q | q | q | q <;> subst q
                · exact .inl ⟨rfl, rfl⟩
                · exact .inr (.inl ⟨rfl, rfl⟩)
                · exact .inr (.inr (.inl ⟨rfl, rfl⟩))
                · exact .inr (.inr (.inr ⟨rfl, rfl⟩))
              · rw [g261, g262, n57, n58]
                refine P1.x (c := c.wC pc5 rc5) (c' := c.wC pc9 rc9) (fun i hi => ?_) (fun j i h1 h2 h3 => ?_) (Sz.wC_le hp9 hr9) hv9
                · show hA h9 G9.pg i = hA h5 G5.pg i
                  rw [R9.pg i hi, Q8.A]
                  rfl
                · rw [z_mA_mSA, if_neg (fun q => by omega), R9.mp j i h1 h2 h3, W8.A, z_mA_mSA, if_neg (fun q => by omega), z_mA_mSA, if_neg (fun q => by omega)]
              · rw [g262, g263, n58, n59]
                exact P2.x (c := c.wC pc9 rc9) (c' := c.wC pc9 rc9) (fun i hi => rfl) (fun j i h1 h2 h3 => by rw [z_mA_mSA, if_neg (fun q => by omega)]) (Sz.le_refl _) (Nat.le_refl _))
            rw [X9.m24, m41, nI_1] at cM9
            have fm0 : FM u (mSA u 51 (6 * w + k) 3) := FM.of rfl rfl
            have fm4 : FM u3 (mSA u3 57 (6 * w + k) (nI rc)) := FM.of rfl rfl
            have fm6 : FM u5 (mSA (mSA u5 58 (6 * w + k) (nI rc5)) 56 (6 * w + k) (nI kw)) := FM.of rfl rfl
            have fma : FM u9 (mSA (mSA u9 59 (6 * w + k) (nI rc9)) 41 w (nI (k + 1))) := FM.of rfl rfl
            have C3a : RC h1 (sI h9 263 a (nI pc9)) G1 G9 (ci + (di + 0)) (cj + (dj + 0)) := RC.q Q3.N C39
            exact ⟨sI h9 263 a (nI pc9), G9, i1 + (ci + (di + 0)), j1 + (cj + (dj + 0)), _, cM9, C1.trans (C3a.x 0 0), (D9.rl).trans gr, fun f p q => by
              rw [show hI (sI h9 263 a (nI pc9)) f 23 = hI h9 f 23 by simp only [z_hI_sI, z_hL_sI, z_hR_sI, z_hA_sI, z_hB_sI, z_hC_sI, z_hT_sI, z_hN_sI, z_hZ_sI, z_hI_sL, z_hL_sL, z_hR_sL, z_hA_sL, z_hB_sL, z_hC_sL, z_hT_sL, z_hN_sL, z_hZ_sL, z_hI_sR, z_hL_sR, z_hR_sR, z_hA_sR, z_hB_sR, z_hC_sR, z_hT_sR, z_hN_sR, z_hZ_sR, z_hI_sA, z_hL_sA, z_hR_sA, z_hA_sA, z_hB_sA, z_hC_sA, z_hT_sA, z_hN_sA, z_hZ_sA, z_hI_sB, z_hL_sB, z_hR_sB, z_hA_sB, z_hB_sB, z_hC_sB, z_hT_sB, z_hN_sB, z_hZ_sB, z_hI_sC, z_hL_sC, z_hR_sC, z_hA_sC, z_hB_sC, z_hC_sC, z_hT_sC, z_hN_sC, z_hZ_sC, z_hI_sY, z_hL_sY, z_hR_sY, z_hA_sY, z_hB_sY, z_hC_sY, z_hT_sY, z_hN_sY, z_hZ_sY, z_hI_nO, z_hL_nO, z_hR_nO, z_hA_nO, z_hB_nO, z_hC_nO, z_hT_nO, z_hN_nO, z_hZ_nO, z_hI_nA, z_hL_nA, z_hR_nA, z_hA_nA, z_hB_nA, z_hC_nA, z_hT_nA, z_hN_nA, z_hZ_nA]; rw [if_neg (fun e => n23 e.2.symm)]]
              exact (D9.g f p q).trans (g23 f), .inl ⟨t9, v9, pc9, rc9, hF (cF9 X9.sz), by omega, by omega, by omega, by omega, Xb, ((fm0.trans fm3).trans (fm4.trans fm5)).trans ((fm6.trans fm8).trans (fm9.trans fma))⟩⟩
          · refine fin (cF9 z9) (D9.trans ((DD.sI S9 ob9 w3 263 (by omega) (nI pc9)).trans ((DD.a1 (h := sI h9 263 a (nI pc9)) S9 (k := k) (j := 59) (by omega) (mI u9 24)).trans (DD.of41 (h := sI h9 263 a (nI pc9)) S9 _)))) C39 ?_ p9 (by omega) (by omega) (((Xd9.setC S9 ob9 w3 263 _).a2 59 _ _).a2 41 _ _) cM9
            simp only [z_hI_sI, z_hL_sI, z_hR_sI, z_hA_sI, z_hB_sI, z_hC_sI, z_hT_sI, z_hN_sI, z_hZ_sI, z_hI_sL, z_hL_sL, z_hR_sL, z_hA_sL, z_hB_sL, z_hC_sL, z_hT_sL, z_hN_sL, z_hZ_sL, z_hI_sR, z_hL_sR, z_hR_sR, z_hA_sR, z_hB_sR, z_hC_sR, z_hT_sR, z_hN_sR, z_hZ_sR, z_hI_sA, z_hL_sA, z_hR_sA, z_hA_sA, z_hB_sA, z_hC_sA, z_hT_sA, z_hN_sA, z_hZ_sA, z_hI_sB, z_hL_sB, z_hR_sB, z_hA_sB, z_hB_sB, z_hC_sB, z_hT_sB, z_hN_sB, z_hZ_sB, z_hI_sC, z_hL_sC, z_hR_sC, z_hA_sC, z_hB_sC, z_hC_sC, z_hT_sC, z_hN_sC, z_hZ_sC, z_hI_sY, z_hL_sY, z_hR_sY, z_hA_sY, z_hB_sY, z_hC_sY, z_hT_sY, z_hN_sY, z_hZ_sY, z_hI_nO, z_hL_nO, z_hR_nO, z_hA_nO, z_hB_nO, z_hC_nO, z_hT_nO, z_hN_nO, z_hZ_nO, z_hI_nA, z_hL_nA, z_hR_nA, z_hA_nA, z_hB_nA, z_hC_nA, z_hT_nA, z_hN_nA, z_hZ_nA]
            rw [if_neg (fun q => a5 q.2)]
            exact z9
        · have Y8 : DR h8 u8 G5 z w L n D pc5 1201 := X1.dr D8 Xd8 ((Q8.I _ _ (by omega)).trans X7.sz) (by rw [Q8.N]; exact X7.hp) hp5 (by omega)
          obtain ⟨h9, G9, i9, j9, pc9, e9, C9, D9, X9, q3, q4, q5, q6⟩ := c105_d Y8 (by omega) ta8 ob5
          have S9 := (D9.cd Sz.nil (Nat.zero_le _) (Nat.zero_le _) (Nat.zero_le _)).sx
          obtain ⟨ua, ga, gb, gc⟩ := cM4_d (z := z) S9 X9 m658 w3 h6
          exact fin (by rw [cF5, cF8, e9, oK3_v]) ((D8.trans D9).trans gb) (C38.trans C9) q3 q4 (by omega) (by omega) gc (by rw [cM8, ga])
      · -- none
        have Xd6 := Ded.of X6.V (by omega) (f := 1) (.inl rfl)
        have Q7 := Q.st (sI (sI h5 262 a (nI pc5)) 256 a (cK kw)) 1
        have W7 := W'.fa (mSA u5 58 (6 * w + k) (nI rc5)) 1 (nI (D t5).1)
        have S7 := Q7.sx S6
        have D7 := D6.trans (DD.q (z := z) S6 w3 Q7 W7)
        have ta7 : hT (stH (sI (sI h5 262 a (nI pc5)) 256 a (cK kw)) 1) a = 3 := ta5
        have Y7 : DR (stH (sI (sI h5 262 a (nI pc5)) 256 a (cK kw)) 1) (mSI (mSI (mSA u5 58 (6 * w + k) (nI rc5)) 13 1) 14 (nI (D t5).1)) G5 z w L n D pc5 1201 := X1.dr D7 Xd6 ((Q7.I _ _ (by omega)).trans X6.sz) (by rw [Q7.N]; exact X6.hp) hp5 (by omega)
        obtain ⟨h9, G9, i9, j9, pc9, e9, C9, D9, X9, q3, q4, q5, q6⟩ := c105_d Y7 (by omega) ta7 ob5
        have S9 := (D9.cd Sz.nil (Nat.zero_le _) (Nat.zero_le _) (Nat.zero_le _)).sx
        have m657 : mI (mSI (mSI (mSA u5 58 (6 * w + k) (nI rc5)) 13 1) 14 (nI (D t5).1)) 65 = nI w := m655
        obtain ⟨ua, ga, gb, gc⟩ := c258_d (z := z) S9 X9 m657 w3 h6
        have h253 : fX12_tellCond_253 (mSA u5 58 (6 * w + k) (nI rc5)) (nI (6 * w + k)) = some ua := by
          unfold fX12_tellCond_253
          rw [fail_v X6.i X6.V, oB_v, ga]
        have cM7 : fX12_tellCond u = some ua := by
          rw [cM6]
          by_cases q : kw < 16
          · rw [if_pos (show nI kw < 16 from nI_lt (b := 16) q (by omega)), h253]
          · rw [if_neg (show ¬ nI kw < 16 from nI_nlt (b := 16) (by omega) (by omega)), if_neg (show ¬ nI kw ≤ 19 from nI_ge (a := 19) (by omega) (by omega)), h253]
        have nk : ∀ j, j < 38 → kw ≠ j → ¬ cK kw = cK j := fun j hj q e => q ((cK_inj tb hj).mp e)
        have cF7 : cmp2 a h5 = some (h9, i9, j9) := by
          rw [cF6, if_neg (show ¬ cK kw = 60 from nk 18 (by omega) (by omega)), if_neg (show ¬ cK kw = 257 from nk 16 (by omega) (by omega)), if_neg (show ¬ cK kw = 258 from nk 17 (by omega) (by omega)), if_neg (show ¬ cK kw = 259 from nk 19 (by omega) (by omega)), stopAt_v X6.i X6.V, oB_v, e9]
        exact fin (by rw [cF5, cF7, oK3_v]) ((D7.trans D9).trans gb) (C35.trans (RC.q (h := h5) Q7.N C9)) q3 q4 (by omega) (by omega) gc cM7
    · have Y5 : DR h5 u5 G5 z w L n D pc5 1229 := X1.dr D5 Xd5 z5 p5 q1 q2
      obtain ⟨h9, G9, i9, j9, pc9, e9, C9, D9, X9, q3, q4, q5, q6⟩ := cmp2_d Y5 (by omega) ta5 ob5
      have S9 := (D9.cd Sz.nil (Nat.zero_le _) (Nat.zero_le _) (Nat.zero_le _)).sx
      obtain ⟨ua, ga, gb, gc⟩ := cM2_d (z := z) S9 X9 m655 w3 h6
      exact fin (by rw [cF5, e9, oK3_v]) ((D5.trans D9).trans gb) (C35.trans C9) q3 q4 (by omega) (by omega) gc (by rw [cM5, ga])
  · have Y3 : DR h3 u3 G1 z w L n D pc 1201 := X1.dr D0 Xd3 ((Q3.I _ _ (by omega)).trans X1.sz) (by rw [Q3.N]; exact X1.hp) (Nat.le_refl _) (by omega)
    obtain ⟨h9, G9, i9, j9, pc9, e9, C9, D9, X9, q3, q4, q5, q6⟩ := cmp1_d Y3 (by omega) ta3 ob
    have S9 := (D9.cd Sz.nil (Nat.zero_le _) (Nat.zero_le _) (Nat.zero_le _)).sx
    obtain ⟨ua, ga, gb, gc⟩ := cM1_d (z := z) S9 X9 m653 w3 h6
    exact fin e9 ((D0.trans D9).trans gb) C9 q3 q4 q5 (by omega) gc (by rw [hM3, ga])
/-- a condition -/
theorem cond_v (X : RX h u G z c w v L n D t pc rc y k k) : CO h u G z c w v L n D t pc rc y k := by
  have k6 := X.k6
  by_cases b : cBg (D t).2.1
  · by_cases h6 : k = 6
    · exact cond_6 X b h6
    · by_cases c1 : (D t).2.1 = 1 ∨ (D t).2.1 = 35
      · exact cond_lit X c1 (by omega)
      · by_cases c2 : (D t).2.1 = 32 ∨ (D t).2.1 = 33
        · exact cond_like X c2 (by omega)
        · exact cond_if X (by unfold cBg at b; omega) (by omega)
  · exact cond_n X b
end CQ
