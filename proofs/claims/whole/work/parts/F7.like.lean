def lkC2 (a : Nat) (h : PH) : Option PH := oC (decide (hT h 23 = 5)) (oB2 (fX4_term h 23) (fun h18 r17 => oC (decide (hT h18 a = 3)) (oL (sI h18 260 a r17) (fun h20 => some h20))))
def lkC1 (a : Nat) (h : PH) : Option PH := oC (decide (hT h 23 = 5)) (oB2 (fX4_term h 23) (fun h12 r11 => oC (decide (hT h12 a = 3)) (oL (sI h12 259 a r11) (fun h14 => lkC2 a h14))))
def lkM2 (u : MS) (x : Int32) : Option MS := if mI u 13 ≤ 0 then oB2 (fX12_term u) (fun h18 r17 => fX12_tellCond_170 h18 r17 x) else fX12_tellCond_170 u (-1) x
def lkM1 (u : MS) (x : Int32) : Option MS := oB2 (fX12_term u) (fun h12 r11 => oC (ix x (mlen 54)) (oL (mSA h12 54 (Int32.toNatClampNeg x) r11) (fun h14 => lkM2 h14 x)))
section LK
variable {h h' : PH} {u u' : MS} {G G' : Gh} {z c : Sz} {w v v' L n t t' pc rc pc' rc' y kc k a B : Nat} {D : Nat → Nat × Nat × Nat × List Nat}
theorem lkC2_d (S : SX h G) (X : Ded h u) (s6 : ∃ s, s ≤ 5 ∧ hI h 897 6 = nI s) (ta : hT h a = 3) (ob : OB G w a) (w3 : w < 30) : ∃ h', lkC2 a h = some h' ∧ LD h u h' u G w a ∧ Ded h' u := by
  obtain ⟨r, e⟩ := term_dc S X s6
  refine ⟨sI h 260 a r, ?_, LD.sI S ob w3 260 (by omega) r, X.setC S ob w3 260 r⟩
  unfold lkC2
  rw [oC_d S.t23, e, oB2_v, oC_d ta, oL_v]
theorem lkC1_d (S : SX h G) (X : Ded h u) (s6 : ∃ s, s ≤ 5 ∧ hI h 897 6 = nI s) (ta : hT h a = 3) (ob : OB G w a) (w3 : w < 30) : ∃ h', lkC1 a h = some h' ∧ LD h u h' u G w a ∧ Ded h' u := by
  obtain ⟨r, e⟩ := term_dc S X s6
  obtain ⟨s, s1, s2⟩ := s6
  have S1 : SX (sI h 259 a r) G := S
  obtain ⟨h', e2, T, X'⟩ := lkC2_d (h := sI h 259 a r) S1 (X.setC S ob w3 259 r) ⟨s, s1, by simp only [z_hI_sI, z_hL_sI, z_hR_sI, z_hA_sI, z_hB_sI, z_hC_sI, z_hT_sI, z_hN_sI, z_hZ_sI, z_hI_sL, z_hL_sL, z_hR_sL, z_hA_sL, z_hB_sL, z_hC_sL, z_hT_sL, z_hN_sL, z_hZ_sL, z_hI_sR, z_hL_sR, z_hR_sR, z_hA_sR, z_hB_sR, z_hC_sR, z_hT_sR, z_hN_sR, z_hZ_sR, z_hI_sA, z_hL_sA, z_hR_sA, z_hA_sA, z_hB_sA, z_hC_sA, z_hT_sA, z_hN_sA, z_hZ_sA, z_hI_sB, z_hL_sB, z_hR_sB, z_hA_sB, z_hB_sB, z_hC_sB, z_hT_sB, z_hN_sB, z_hZ_sB, z_hI_sC, z_hL_sC, z_hR_sC, z_hA_sC, z_hB_sC, z_hC_sC, z_hT_sC, z_hN_sC, z_hZ_sC, z_hI_sY, z_hL_sY, z_hR_sY, z_hA_sY, z_hB_sY, z_hC_sY, z_hT_sY, z_hN_sY, z_hZ_sY, z_hI_nO, z_hL_nO, z_hR_nO, z_hA_nO, z_hB_nO, z_hC_nO, z_hT_nO, z_hN_nO, z_hZ_nO, z_hI_nA, z_hL_nA, z_hR_nA, z_hA_nA, z_hB_nA, z_hC_nA, z_hT_nA, z_hN_nA, z_hZ_nA]; rw [if_neg (fun q => by omega)]; exact s2⟩ ta ob w3
  refine ⟨h', ?_, (LD.sI S ob w3 259 (by omega) r).trans T, X'⟩
  unfold lkC1
  rw [oC_d S.t23, e, oB2_v, oC_d ta, oL_v, e2]
theorem t170_v (m65 : mI u 65 = nI w) (w3 : w < 30) (h6 : k < 6) (r : Int32) : fX12_tellCond_170 u r (nI (6 * w + k)) = some (mSA (mSA u 55 (6 * w + k) r) 41 w (mA u 41 w + 1)) := by
  have e : fX12_tellCond_356 (mSA u 55 (6 * w + k) r) = some (mSA (mSA u 55 (6 * w + k) r) 41 w (mA (mSA u 55 (6 * w + k) r) 41 w + 1)) := t356_v (u := mSA u 55 (6 * w + k) r) m65 w3
  have e2 : mA (mSA u 55 (6 * w + k) r) 41 w = mA u 41 w := by simp only [z_mI_mSI, z_mL_mSI, z_mA_mSI, z_mB_mSI, z_mI_mSL, z_mL_mSL, z_mA_mSL, z_mB_mSL, z_mI_mSA, z_mL_mSA, z_mA_mSA, z_mB_mSA, z_mI_mSB, z_mL_mSB, z_mA_mSB, z_mB_mSB, if_true, if_false, and_false, false_and, and_true, true_and, and_self, decide_true, decide_false, reduceCtorEq, not_false_eq_true, not_true_eq_false, Nat.reduceEqDiff, Nat.reduceAdd, Nat.reduceMul, Nat.add_zero, Nat.zero_add]
  unfold fX12_tellCond_170
  rw [oC_t (i6 w3 h6 (by decide)), oL_v, nI_clamp (show 6 * w + k < 2147483648 by omega), e, e2]
theorem lkM2_d (X : Ded h u) (m65 : mI u 65 = nI w) (w3 : w < 30) (h6 : k < 6) : lkM2 u (nI (6 * w + k)) = some (mSA (mSA u 55 (6 * w + k) (-1)) 41 w (mA u 41 w + 1)) := by
  unfold lkM2
  rw [if_neg X.f.2.1, t170_v m65 w3 h6]
theorem lkM1_d (X : Ded h u) (m65 : mI u 65 = nI w) (w3 : w < 30) (h6 : k < 6) : ∃ u', lkM1 u (nI (6 * w + k)) = some (mSA u' 41 w (mA u 41 w + 1)) ∧ RMs u u' w k ∧ Ded h u' := by
  have X1 := X.a2 54 (6 * w + k) (-1)
  have e : lkM2 (mSA u 54 (6 * w + k) (-1)) (nI (6 * w + k)) = some (mSA (mSA (mSA u 54 (6 * w + k) (-1)) 55 (6 * w + k) (-1)) 41 w (mA (mSA u 54 (6 * w + k) (-1)) 41 w + 1)) := lkM2_d X1 m65 w3 h6
  have e2 : mA (mSA u 54 (6 * w + k) (-1)) 41 w = mA u 41 w := by simp only [z_mI_mSI, z_mL_mSI, z_mA_mSI, z_mB_mSI, z_mI_mSL, z_mL_mSL, z_mA_mSL, z_mB_mSL, z_mI_mSA, z_mL_mSA, z_mA_mSA, z_mB_mSA, z_mI_mSB, z_mL_mSB, z_mA_mSB, z_mB_mSB, if_true, if_false, and_false, false_and, and_true, true_and, and_self, decide_true, decide_false, reduceCtorEq, not_false_eq_true, not_true_eq_false, Nat.reduceEqDiff, Nat.reduceAdd, Nat.reduceMul, Nat.add_zero, Nat.zero_add]
  rw [e2] at e
  refine ⟨mSA (mSA u 54 (6 * w + k) (-1)) 55 (6 * w + k) (-1), ?_, ((RMs.refl u w k).sA (.inl ⟨by omega, by omega, rfl⟩)).sA (.inl ⟨by omega, by omega, rfl⟩), X1.a2 55 _ _⟩
  unfold lkM1
  rw [term_dm X, oB2_v, oC_t (i6 w3 h6 (by decide)), oL_v, nI_clamp (show 6 * w + k < 2147483648 by omega), e]
theorem OB.s6 (ob : OB G w a) (w3 : w < 30) (S : SX h G) (T : LD h u h' u' G w a) {s : Nat} (e : hI h 897 6 = nI s) : hI h' 897 6 = nI s := (T.I _ _ (by omega) (ob.ne w3 S.o6 (by omega))).trans e
/-- same, other -/
theorem cond_like (X : RX h u G z c w v L n D t pc rc y k k) (b : (D t).2.1 = 32 ∨ (D t).2.1 = 33) (h6 : k < 6) : CO h u G z c w v L n D t pc rc y k := by
  have S := X.i.sx
  have bp := X.bp
  have b1 := X.b1
  have w3 := X.K.w3
  have bg : cBg (D t).2.1 := by unfold cBg; omega
  obtain ⟨h1, G1, i1, j1, es, C1, X1, g23, gr, ta, oo⟩ := start_y X bg h6
  obtain ⟨kw, ekw⟩ : ∃ kw, (D t).2.1 = kw := ⟨_, rfl⟩
  obtain ⟨a, ea⟩ : ∃ a, G1.cd w k = a := ⟨_, rfl⟩
  rw [ea] at ta oo es
  have S1 := X1.i.sx
  have ob : OB G1 w a := .inr ⟨k, h6, oo⟩
  have oa : OA G1 w k a := .inr (.inr ⟨k, Nat.le_refl _, h6, oo⟩)
  have n23 := ob.n23 S1 w3
  have a5 : 5 ≠ a := ob.ne w3 S1.o5 (by omega)
  have zs := X.zs
  have s1 : (if kw = 32 then (1 : Int32) else 2) = 1 ∨ (if kw = 32 then (1 : Int32) else 2) = 2 := by split <;> simp
  have X2 : RX (sI h1 256 a (cK kw)) (mSA u 51 (6 * w + k) (if kw = 32 then 1 else 2)) G1 z c w v L n D t pc rc y (k + 1) k := (X1.setC oa ob 256 (by omega) (cK kw)).am ((RMs.refl u w k).sA (.inl ⟨by omega, by omega, rfl⟩))
  have S2 := X2.i.sx
  have kd1 : hI h1 521 23 = cK kw := by rw [X1.V.kd, ekw]
  have kd2 : hI (sI h1 256 a (cK kw)) 521 23 = cK kw := by rw [X2.V.kd, ekw]
  obtain ⟨ey, n6⟩ := tc49_v X h6
  have cl : (nI (6 * w + k)).toNatClampNeg = 6 * w + k := nI_clamp (show 6 * w + k < 2147483648 by omega)
  have hM : fX12_tellCond u = oB (fX12_next (mSA u 51 (6 * w + k) (if kw = 32 then 1 else 2))) (fun h9 => lkM1 h9 (nI (6 * w + k))) := by
    have h116 : fX12_tellCond_116 u (nI (6 * w + k)) = oB (fX12_next (mSA u 51 (6 * w + k) (if kw = 32 then 1 else 2))) (fun h9 => lkM1 h9 (nI (6 * w + k))) := by
      have i32 : fX12_is u 32 = some (if kw = 32 then 1 else 0) := by rw [← ekw]; exact is_v X.i X.V (k := 32) (by omega)
      unfold fX12_tellCond_116
      rw [i32, oB_v]
      by_cases q : kw = 32
      · rw [if_pos q, if_neg (by decide), if_pos q]
        unfold fX12_tellCond_135 lkM1 lkM2
        rw [oC_t (i6 w3 h6 (by decide)), oL_v, cl]
      · rw [if_neg q, if_pos rfl, if_neg q]
        unfold fX12_tellCond_135 lkM1 lkM2
        rw [oC_t (i6 w3 h6 (by decide)), oL_v, cl]
    rw [tc0_y X bg]
    unfold fX12_tellCond_49
    rw [if_neg (by decide), X.K.m65, oC_t (ix_n (show w < mlen 41 from w3) (by decide)), nI_clamp (show w < 2147483648 by omega), if_neg n6, oC_t (ix_n (show w < mlen 41 from w3) (by decide)), ← X.K.m65, ey, oL_v]
    rcases b with q | q
    · have i32 : fX12_is u 32 = some 1 := is_y X.i X.V (kw := 32) (by omega) q
      rw [i32, oB_v, if_neg (by decide), h116]
    · have i32 : fX12_is u 32 = some 0 := is_n X.i X.V (kw := 32) (by omega) (by omega)
      have i33 : fX12_is u 33 = some 1 := is_y X.i X.V (kw := 33) (by omega) q
      rw [i32, oB_v, if_pos rfl, i33, oB_v, if_neg (by decide), h116]
  obtain ⟨h3, u3, r3, e3, e4, Q3, W3, o3⟩ := pass_v X2.i X2.V X2.F (kw := kw) (by omega) (by omega) (by omega) ekw
  have S3 := Q3.sx S2
  have hF : ∀ {h' : PH}, lkC1 a h3 = some h' → ∀ k71 x1 x4, fbody k71 h x1 (some (G.rl w)) x4 = oK3 i1 j1 (fX4_tellRule_148 k71 h' 23 x1 (some (G.rl w)) x4) := fun {h'} eh k71 x1 x4 => by
    have el : fX4_likeness h1 23 (some a) = some h' := by
      unfold fX4_likeness fX4_likeness_0
      rw [oC_d S1.t23, oN_v, oC_d ta, kd1, oL_v, kd2, e3, oB2_v]
      exact eh
    unfold fbody
    rw [es, oB4_v, if_neg (by simp), oC_d S1.t23, oL_v, kd1]
    have c32 : cK 32 = 314 := rfl
    have c33 : cK 33 = 315 := rfl
    unfold fX4_tellRule_133
    rcases b with q | q
    · rw [if_pos (by rw [← ekw, q]; rfl), oC_d S1.t23, el, oB_v]
    · rw [if_neg (by rw [← ekw, q]; decide), if_pos (by rw [← ekw, q]; rfl), oC_d S1.t23, el, oB_v]
  have T13 : LD h1 u (sI h1 256 a (cK kw)) u G1 w a := LD.sI S1 ob w3 256 (by omega) (cK kw)
  have M2 : RMs u (mSA u 51 (6 * w + k) (if kw = 32 then 1 else 2)) w k := (RMs.refl u w k).sA (.inl ⟨by omega, by omega, rfl⟩)
  have T3 : LD (sI h1 256 a (cK kw)) (mSA u 51 (6 * w + k) (if kw = 32 then 1 else 2)) h3 u3 G1 w a := LD.q S2 Q3 W3
  have m653 : mI u3 65 = nI w := (W3.I 65 (by omega)).trans X2.K.m65
  have m413 : mA u3 41 w = nI k := by rw [W3.A]; exact X2.n2
  have ta3 : hT h3 a = 3 := by rw [T3.T]; exact ta
  have e6 : ∀ {hh : PH} {uu : MS}, LD h3 u3 hh uu G1 w a → hI hh 897 6 = nI c.np := fun {hh uu} T => ob.s6 w3 S3 T (ob.s6 w3 S2 T3 X2.zc.1)
  have D0 : DD h1 u h3 u3 G1 G1 z w := ((RD.ld S1 T13 pc rc).dd S1 (.inr ob) w3 zs.2.1 zs.2.2).trans ((M2.dd (h := sI h1 256 a (cK kw)) S2).trans ((RD.ld S2 T3 pc rc).dd S2 (.inr ob) w3 zs.2.1 zs.2.2))
  have fin : ∀ {hh : PH} {uu : MS}, lkC1 a h3 = some hh → DD h3 u3 hh uu G1 G1 z w → hN hh = hN h3 → hI hh 142 5 = hI h3 142 5 → Ded hh uu → fX12_tellCond u = some uu → CO h u G z c w v L n D t pc rc y k := fun {hh uu} f1 f2 f3 f4 f5 f6 => by
    have n0 : hN hh = hN h1 := f3.trans Q3.N
    refine ⟨hh, G1, i1, j1, uu, f6, C1.trans ((RC.n (G := G1) n0).x 0 0), gr, fun f p q => ((D0.trans f2).g f p q).trans (g23 f), .inr ⟨pc, X1.dr (D0.trans f2) f5 ?_ (by rw [n0]; exact X1.hp) (Nat.le_refl _) (by omega), .inl (hF f1)⟩⟩
    rw [f4, Q3.I _ _ (by omega)]
    simp only [z_hI_sI, z_hL_sI, z_hR_sI, z_hA_sI, z_hB_sI, z_hC_sI, z_hT_sI, z_hN_sI, z_hZ_sI, z_hI_sL, z_hL_sL, z_hR_sL, z_hA_sL, z_hB_sL, z_hC_sL, z_hT_sL, z_hN_sL, z_hZ_sL, z_hI_sR, z_hL_sR, z_hR_sR, z_hA_sR, z_hB_sR, z_hC_sR, z_hT_sR, z_hN_sR, z_hZ_sR, z_hI_sA, z_hL_sA, z_hR_sA, z_hA_sA, z_hB_sA, z_hC_sA, z_hT_sA, z_hN_sA, z_hZ_sA, z_hI_sB, z_hL_sB, z_hR_sB, z_hA_sB, z_hB_sB, z_hC_sB, z_hT_sB, z_hN_sB, z_hZ_sB, z_hI_sC, z_hL_sC, z_hR_sC, z_hA_sC, z_hB_sC, z_hC_sC, z_hT_sC, z_hN_sC, z_hZ_sC, z_hI_sY, z_hL_sY, z_hR_sY, z_hA_sY, z_hB_sY, z_hC_sY, z_hT_sY, z_hN_sY, z_hZ_sY, z_hI_nO, z_hL_nO, z_hR_nO, z_hA_nO, z_hB_nO, z_hC_nO, z_hT_nO, z_hN_nO, z_hZ_nO, z_hI_nA, z_hL_nA, z_hR_nA, z_hA_nA, z_hB_nA, z_hC_nA, z_hT_nA, z_hN_nA, z_hZ_nA]
    rw [if_neg (fun q => a5 q.2)]
    exact X1.sz
  rcases o3 with ⟨_, c3, V3, F3, fm3⟩ | ⟨_, Xd3⟩
  · have X3 := X2.mv Q3 W3 V3 F3 fm3 (by omega)
    obtain ⟨h4, u4, r4, r4', e5, e5', T4, o4⟩ := term_v X3.i X3.V X3.F X3.K zs.1 (X3.lx ob ta3).rp X3.zm.1
    have L4 : LD h3 u3 h4 u4 G1 w a := LD.of T4
    have S4 := (RD.ld S3 L4 pc rc).sx
    have ta4 : hT h4 a = 3 := by rw [T4.T]; exact ta3
    have C4 : lkC1 a h3 = lkC2 a (sI h4 259 a r4) := by
      unfold lkC1
      rw [oC_d S3.t23, e5, oB2_v, oC_d ta4, oL_v]
    have MM4 : lkM1 u3 (nI (6 * w + k)) = lkM2 (mSA u4 54 (6 * w + k) r4') (nI (6 * w + k)) := by
      unfold lkM1
      rw [e5', oB2_v, oC_t (i6 w3 h6 (by decide)), oL_v, cl]
    have M4 : RMs u4 (mSA u4 54 (6 * w + k) r4') w k := (RMs.refl u4 w k).sA (.inl ⟨by omega, by omega, rfl⟩)
    have L5 : LD h4 u4 (sI h4 259 a r4) u4 G1 w a := LD.sI S4 ob w3 259 (by omega) r4
    have S5 : SX (sI h4 259 a r4) G1 := S4
    have D4 : DD h3 u3 (sI h4 259 a r4) (mSA u4 54 (6 * w + k) r4') G1 G1 z w := ((RD.ld S3 (L4.trans L5) pc rc).dd S3 (.inr ob) w3 zs.2.1 zs.2.2).trans (M4.dd S5)
    have m654 : mI (mSA u4 54 (6 * w + k) r4') 65 = nI w := (T4.mi 65 (by omega)).trans m653
    have m414 : mA (mSA u4 54 (6 * w + k) r4') 41 w = nI k := by
      simp only [z_mI_mSI, z_mL_mSI, z_mA_mSI, z_mB_mSI, z_mI_mSL, z_mL_mSL, z_mA_mSL, z_mB_mSL, z_mI_mSA, z_mL_mSA, z_mA_mSA, z_mB_mSA, z_mI_mSB, z_mL_mSB, z_mA_mSB, z_mB_mSB, if_true, if_false, and_false, false_and, and_true, true_and, and_self, decide_true, decide_false, reduceCtorEq, not_false_eq_true, not_true_eq_false, Nat.reduceEqDiff, Nat.reduceAdd, Nat.reduceMul, Nat.add_zero, Nat.zero_add]
      exact (T4.ma 41 w (by omega) (by omega)).trans m413
    rcases o4 with ⟨v4, hv4, V4, F4, fm4, K4, oT4⟩ | Xd4
    · have X4 : RX h4 u4 G1 z c w v4 L n D (t + 1 + 1) pc rc y (k + 1) k := X3.ld L4 oa V4 F4 fm4 K4 hv4 (by omega)
      have X5 := (X4.setC oa ob 259 (by omega) r4).am M4
      obtain ⟨h6', u6, r6, r6', e7, e7', T6, o6⟩ := term_v X5.i X5.V X5.F X5.K zs.1 (X5.lx ob ta4).rp X5.zm.1
      have L6 : LD (sI h4 259 a r4) (mSA u4 54 (6 * w + k) r4') h6' u6 G1 w a := LD.of T6
      have S6 := (RD.ld S5 L6 pc rc).sx
      have ta6 : hT h6' a = 3 := by rw [T6.T]; exact ta4
      have C6 : lkC1 a h3 = some (sI h6' 260 a r6) := by
        rw [C4]
        unfold lkC2
        rw [oC_d S5.t23, e7, oB2_v, oC_d ta6, oL_v]
      have m656 : mI u6 65 = nI w := (T6.mi 65 (by omega)).trans m654
      have m416 : mA u6 41 w = nI k := (T6.ma 41 w (by omega) (by omega)).trans m414
      have M6 : lkM1 u3 (nI (6 * w + k)) = some (mSA (mSA u6 55 (6 * w + k) r6') 41 w (nI (k + 1))) := by
        rw [MM4]
        unfold lkM2
        have f0 : mI (mSA u4 54 (6 * w + k) r4') 13 = 0 := X5.V.f0
        rw [f0, if_pos (by decide), e7', oB2_v, t170_v m656 w3 h6, m416, nI_1]
      have L7 : LD h6' u6 (sI h6' 260 a r6) u6 G1 w a := LD.sI S6 ob w3 260 (by omega) r6
      have Mm : RMs u6 (mSA u6 55 (6 * w + k) r6') w k := (RMs.refl u6 w k).sA (.inl ⟨by omega, by omega, rfl⟩)
      rcases o6 with ⟨v6, hv6, V6, F6, fm6, K6, oT6⟩ | Xd6
      · have X6 : RX h6' u6 G1 z c w v6 L n D (t + 1 + 1 + 1) pc rc y (k + 1) k := X5.ld L6 oa V6 F6 fm6 K6 hv6 (by omega)
        have X7 := (X6.setC oa ob 260 (by omega) r6).am Mm
        have X8 := X7.done (fun e0 => by
          have e06 : mI u6 15 = 0 := e0
          have e04 : mI u4 15 = 0 := FM.z X5.F fm6 e06
          obtain ⟨tt, ot, er, er'⟩ : ∃ tt, okTm v4 c.np tt ∧ r4 = nI tt ∧ r4' = nI (tmr tt) := by
            rcases oT4 with q | ⟨_, _, q⟩
            · exact q
            · exact absurd e04 q.1
          obtain ⟨tt2, ot2, er2, er2'⟩ : ∃ tt, okTm v6 c.np tt ∧ r6 = nI tt ∧ r6' = nI (tmr tt) := by
            rcases oT6 with q | ⟨_, _, q⟩
            · exact q
            · exact absurd e06 q.1
          rw [ea]
          have g256 : hI (sI h6' 260 a r6) 256 a = cK kw := by
            simp only [z_hI_sI, z_hL_sI, z_hR_sI, z_hA_sI, z_hB_sI, z_hC_sI, z_hT_sI, z_hN_sI, z_hZ_sI, z_hI_sL, z_hL_sL, z_hR_sL, z_hA_sL, z_hB_sL, z_hC_sL, z_hT_sL, z_hN_sL, z_hZ_sL, z_hI_sR, z_hL_sR, z_hR_sR, z_hA_sR, z_hB_sR, z_hC_sR, z_hT_sR, z_hN_sR, z_hZ_sR, z_hI_sA, z_hL_sA, z_hR_sA, z_hA_sA, z_hB_sA, z_hC_sA, z_hT_sA, z_hN_sA, z_hZ_sA, z_hI_sB, z_hL_sB, z_hR_sB, z_hA_sB, z_hB_sB, z_hC_sB, z_hT_sB, z_hN_sB, z_hZ_sB, z_hI_sC, z_hL_sC, z_hR_sC, z_hA_sC, z_hB_sC, z_hC_sC, z_hT_sC, z_hN_sC, z_hZ_sC, z_hI_sY, z_hL_sY, z_hR_sY, z_hA_sY, z_hB_sY, z_hC_sY, z_hT_sY, z_hN_sY, z_hZ_sY, z_hI_nO, z_hL_nO, z_hR_nO, z_hA_nO, z_hB_nO, z_hC_nO, z_hT_nO, z_hN_nO, z_hZ_nO, z_hI_nA, z_hL_nA, z_hR_nA, z_hA_nA, z_hB_nA, z_hC_nA, z_hT_nA, z_hN_nA, z_hZ_nA, if_true, if_false, and_false, false_and, and_true, true_and, and_self, decide_true, decide_false, reduceCtorEq, not_false_eq_true, not_true_eq_false, Nat.reduceEqDiff, Nat.reduceAdd, Nat.reduceMul, Nat.add_zero, Nat.zero_add]
            rw [T6.I _ _ n23]
            simp only [z_hI_sI, z_hL_sI, z_hR_sI, z_hA_sI, z_hB_sI, z_hC_sI, z_hT_sI, z_hN_sI, z_hZ_sI, z_hI_sL, z_hL_sL, z_hR_sL, z_hA_sL, z_hB_sL, z_hC_sL, z_hT_sL, z_hN_sL, z_hZ_sL, z_hI_sR, z_hL_sR, z_hR_sR, z_hA_sR, z_hB_sR, z_hC_sR, z_hT_sR, z_hN_sR, z_hZ_sR, z_hI_sA, z_hL_sA, z_hR_sA, z_hA_sA, z_hB_sA, z_hC_sA, z_hT_sA, z_hN_sA, z_hZ_sA, z_hI_sB, z_hL_sB, z_hR_sB, z_hA_sB, z_hB_sB, z_hC_sB, z_hT_sB, z_hN_sB, z_hZ_sB, z_hI_sC, z_hL_sC, z_hR_sC, z_hA_sC, z_hB_sC, z_hC_sC, z_hT_sC, z_hN_sC, z_hZ_sC, z_hI_sY, z_hL_sY, z_hR_sY, z_hA_sY, z_hB_sY, z_hC_sY, z_hT_sY, z_hN_sY, z_hZ_sY, z_hI_nO, z_hL_nO, z_hR_nO, z_hA_nO, z_hB_nO, z_hC_nO, z_hT_nO, z_hN_nO, z_hZ_nO, z_hI_nA, z_hL_nA, z_hR_nA, z_hA_nA, z_hB_nA, z_hC_nA, z_hT_nA, z_hN_nA, z_hZ_nA, if_true, if_false, and_false, false_and, and_true, true_and, and_self, decide_true, decide_false, reduceCtorEq, not_false_eq_true, not_true_eq_false, Nat.reduceEqDiff, Nat.reduceAdd, Nat.reduceMul, Nat.add_zero, Nat.zero_add]
            rw [T4.I _ _ n23, Q3.I _ _ n23]
            simp only [z_hI_sI, z_hL_sI, z_hR_sI, z_hA_sI, z_hB_sI, z_hC_sI, z_hT_sI, z_hN_sI, z_hZ_sI, z_hI_sL, z_hL_sL, z_hR_sL, z_hA_sL, z_hB_sL, z_hC_sL, z_hT_sL, z_hN_sL, z_hZ_sL, z_hI_sR, z_hL_sR, z_hR_sR, z_hA_sR, z_hB_sR, z_hC_sR, z_hT_sR, z_hN_sR, z_hZ_sR, z_hI_sA, z_hL_sA, z_hR_sA, z_hA_sA, z_hB_sA, z_hC_sA, z_hT_sA, z_hN_sA, z_hZ_sA, z_hI_sB, z_hL_sB, z_hR_sB, z_hA_sB, z_hB_sB, z_hC_sB, z_hT_sB, z_hN_sB, z_hZ_sB, z_hI_sC, z_hL_sC, z_hR_sC, z_hA_sC, z_hB_sC, z_hC_sC, z_hT_sC, z_hN_sC, z_hZ_sC, z_hI_sY, z_hL_sY, z_hR_sY, z_hA_sY, z_hB_sY, z_hC_sY, z_hT_sY, z_hN_sY, z_hZ_sY, z_hI_nO, z_hL_nO, z_hR_nO, z_hA_nO, z_hB_nO, z_hC_nO, z_hT_nO, z_hN_nO, z_hZ_nO, z_hI_nA, z_hL_nA, z_hR_nA, z_hA_nA, z_hB_nA, z_hC_nA, z_hT_nA, z_hN_nA, z_hZ_nA, if_true, if_false, and_false, false_and, and_true, true_and, and_self, decide_true, decide_false, reduceCtorEq, not_false_eq_true, not_true_eq_false, Nat.reduceEqDiff, Nat.reduceAdd, Nat.reduceMul, Nat.add_zero, Nat.zero_add]
          have g259 : hI (sI h6' 260 a r6) 259 a = r4 := by
            simp only [z_hI_sI, z_hL_sI, z_hR_sI, z_hA_sI, z_hB_sI, z_hC_sI, z_hT_sI, z_hN_sI, z_hZ_sI, z_hI_sL, z_hL_sL, z_hR_sL, z_hA_sL, z_hB_sL, z_hC_sL, z_hT_sL, z_hN_sL, z_hZ_sL, z_hI_sR, z_hL_sR, z_hR_sR, z_hA_sR, z_hB_sR, z_hC_sR, z_hT_sR, z_hN_sR, z_hZ_sR, z_hI_sA, z_hL_sA, z_hR_sA, z_hA_sA, z_hB_sA, z_hC_sA, z_hT_sA, z_hN_sA, z_hZ_sA, z_hI_sB, z_hL_sB, z_hR_sB, z_hA_sB, z_hB_sB, z_hC_sB, z_hT_sB, z_hN_sB, z_hZ_sB, z_hI_sC, z_hL_sC, z_hR_sC, z_hA_sC, z_hB_sC, z_hC_sC, z_hT_sC, z_hN_sC, z_hZ_sC, z_hI_sY, z_hL_sY, z_hR_sY, z_hA_sY, z_hB_sY, z_hC_sY, z_hT_sY, z_hN_sY, z_hZ_sY, z_hI_nO, z_hL_nO, z_hR_nO, z_hA_nO, z_hB_nO, z_hC_nO, z_hT_nO, z_hN_nO, z_hZ_nO, z_hI_nA, z_hL_nA, z_hR_nA, z_hA_nA, z_hB_nA, z_hC_nA, z_hT_nA, z_hN_nA, z_hZ_nA, if_true, if_false, and_false, false_and, and_true, true_and, and_self, decide_true, decide_false, reduceCtorEq, not_false_eq_true, not_true_eq_false, Nat.reduceEqDiff, Nat.reduceAdd, Nat.reduceMul, Nat.add_zero, Nat.zero_add]
            rw [T6.I _ _ n23]
            simp only [z_hI_sI, z_hL_sI, z_hR_sI, z_hA_sI, z_hB_sI, z_hC_sI, z_hT_sI, z_hN_sI, z_hZ_sI, z_hI_sL, z_hL_sL, z_hR_sL, z_hA_sL, z_hB_sL, z_hC_sL, z_hT_sL, z_hN_sL, z_hZ_sL, z_hI_sR, z_hL_sR, z_hR_sR, z_hA_sR, z_hB_sR, z_hC_sR, z_hT_sR, z_hN_sR, z_hZ_sR, z_hI_sA, z_hL_sA, z_hR_sA, z_hA_sA, z_hB_sA, z_hC_sA, z_hT_sA, z_hN_sA, z_hZ_sA, z_hI_sB, z_hL_sB, z_hR_sB, z_hA_sB, z_hB_sB, z_hC_sB, z_hT_sB, z_hN_sB, z_hZ_sB, z_hI_sC, z_hL_sC, z_hR_sC, z_hA_sC, z_hB_sC, z_hC_sC, z_hT_sC, z_hN_sC, z_hZ_sC, z_hI_sY, z_hL_sY, z_hR_sY, z_hA_sY, z_hB_sY, z_hC_sY, z_hT_sY, z_hN_sY, z_hZ_sY, z_hI_nO, z_hL_nO, z_hR_nO, z_hA_nO, z_hB_nO, z_hC_nO, z_hT_nO, z_hN_nO, z_hZ_nO, z_hI_nA, z_hL_nA, z_hR_nA, z_hA_nA, z_hB_nA, z_hC_nA, z_hT_nA, z_hN_nA, z_hZ_nA, if_true, if_false, and_false, false_and, and_true, true_and, and_self, decide_true, decide_false, reduceCtorEq, not_false_eq_true, not_true_eq_false, Nat.reduceEqDiff, Nat.reduceAdd, Nat.reduceMul, Nat.add_zero, Nat.zero_add]
          have g260 : hI (sI h6' 260 a r6) 260 a = r6 := by simp only [z_hI_sI, z_hL_sI, z_hR_sI, z_hA_sI, z_hB_sI, z_hC_sI, z_hT_sI, z_hN_sI, z_hZ_sI, z_hI_sL, z_hL_sL, z_hR_sL, z_hA_sL, z_hB_sL, z_hC_sL, z_hT_sL, z_hN_sL, z_hZ_sL, z_hI_sR, z_hL_sR, z_hR_sR, z_hA_sR, z_hB_sR, z_hC_sR, z_hT_sR, z_hN_sR, z_hZ_sR, z_hI_sA, z_hL_sA, z_hR_sA, z_hA_sA, z_hB_sA, z_hC_sA, z_hT_sA, z_hN_sA, z_hZ_sA, z_hI_sB, z_hL_sB, z_hR_sB, z_hA_sB, z_hB_sB, z_hC_sB, z_hT_sB, z_hN_sB, z_hZ_sB, z_hI_sC, z_hL_sC, z_hR_sC, z_hA_sC, z_hB_sC, z_hC_sC, z_hT_sC, z_hN_sC, z_hZ_sC, z_hI_sY, z_hL_sY, z_hR_sY, z_hA_sY, z_hB_sY, z_hC_sY, z_hT_sY, z_hN_sY, z_hZ_sY, z_hI_nO, z_hL_nO, z_hR_nO, z_hA_nO, z_hB_nO, z_hC_nO, z_hT_nO, z_hN_nO, z_hZ_nO, z_hI_nA, z_hL_nA, z_hR_nA, z_hA_nA, z_hB_nA, z_hC_nA, z_hT_nA, z_hN_nA, z_hZ_nA, if_true, if_false, and_false, false_and, and_true, true_and, and_self, decide_true, decide_false, reduceCtorEq, not_false_eq_true, not_true_eq_false, Nat.reduceEqDiff, Nat.reduceAdd, Nat.reduceMul, Nat.add_zero, Nat.zero_add]
          have m51 : mA (mSA u6 55 (6 * w + k) r6') 51 (6 * w + k) = if kw = 32 then 1 else 2 := by
            simp only [z_mI_mSI, z_mL_mSI, z_mA_mSI, z_mB_mSI, z_mI_mSL, z_mL_mSL, z_mA_mSL, z_mB_mSL, z_mI_mSA, z_mL_mSA, z_mA_mSA, z_mB_mSA, z_mI_mSB, z_mL_mSB, z_mA_mSB, z_mB_mSB, if_true, if_false, and_false, false_and, and_true, true_and, and_self, decide_true, decide_false, reduceCtorEq, not_false_eq_true, not_true_eq_false, Nat.reduceEqDiff, Nat.reduceAdd, Nat.reduceMul, Nat.add_zero, Nat.zero_add]
            rw [T6.ma 51 _ (by omega) (by omega)]
            simp only [z_mI_mSI, z_mL_mSI, z_mA_mSI, z_mB_mSI, z_mI_mSL, z_mL_mSL, z_mA_mSL, z_mB_mSL, z_mI_mSA, z_mL_mSA, z_mA_mSA, z_mB_mSA, z_mI_mSB, z_mL_mSB, z_mA_mSB, z_mB_mSB, if_true, if_false, and_false, false_and, and_true, true_and, and_self, decide_true, decide_false, reduceCtorEq, not_false_eq_true, not_true_eq_false, Nat.reduceEqDiff, Nat.reduceAdd, Nat.reduceMul, Nat.add_zero, Nat.zero_add]
            rw [T4.ma 51 _ (by omega) (by omega), W3.A]
            simp only [z_mI_mSI, z_mL_mSI, z_mA_mSI, z_mB_mSI, z_mI_mSL, z_mL_mSL, z_mA_mSL, z_mB_mSL, z_mI_mSA, z_mL_mSA, z_mA_mSA, z_mB_mSA, z_mI_mSB, z_mL_mSB, z_mA_mSB, z_mB_mSB, if_true, if_false, and_false, false_and, and_true, true_and, and_self, decide_true, decide_false, reduceCtorEq, not_false_eq_true, not_true_eq_false, Nat.reduceEqDiff, Nat.reduceAdd, Nat.reduceMul, Nat.add_zero, Nat.zero_add]
          have m54 : mA (mSA u6 55 (6 * w + k) r6') 54 (6 * w + k) = r4' := by
            simp only [z_mI_mSI, z_mL_mSI, z_mA_mSI, z_mB_mSI, z_mI_mSL, z_mL_mSL, z_mA_mSL, z_mB_mSL, z_mI_mSA, z_mL_mSA, z_mA_mSA, z_mB_mSA, z_mI_mSB, z_mL_mSB, z_mA_mSB, z_mB_mSB, if_true, if_false, and_false, false_and, and_true, true_and, and_self, decide_true, decide_false, reduceCtorEq, not_false_eq_true, not_true_eq_false, Nat.reduceEqDiff, Nat.reduceAdd, Nat.reduceMul, Nat.add_zero, Nat.zero_add]
            rw [T6.ma 54 _ (by omega) (by omega)]
            simp only [z_mI_mSI, z_mL_mSI, z_mA_mSI, z_mB_mSI, z_mI_mSL, z_mL_mSL, z_mA_mSL, z_mB_mSL, z_mI_mSA, z_mL_mSA, z_mA_mSA, z_mB_mSA, z_mI_mSB, z_mL_mSB, z_mA_mSB, z_mB_mSB, if_true, if_false, and_false, false_and, and_true, true_and, and_self, decide_true, decide_false, reduceCtorEq, not_false_eq_true, not_true_eq_false, Nat.reduceEqDiff, Nat.reduceAdd, Nat.reduceMul, Nat.add_zero, Nat.zero_add]
          have m55 : mA (mSA u6 55 (6 * w + k) r6') 55 (6 * w + k) = r6' := by simp only [z_mI_mSI, z_mL_mSI, z_mA_mSI, z_mB_mSI, z_mI_mSL, z_mL_mSL, z_mA_mSL, z_mB_mSL, z_mI_mSA, z_mL_mSA, z_mA_mSA, z_mB_mSA, z_mI_mSB, z_mL_mSB, z_mA_mSB, z_mB_mSB, if_true, if_false, and_false, false_and, and_true, true_and, and_self, decide_true, decide_false, reduceCtorEq, not_false_eq_true, not_true_eq_false, Nat.reduceEqDiff, Nat.reduceAdd, Nat.reduceMul, Nat.add_zero, Nat.zero_add]
          have TA : TmR (c.wC pc rc) v6 (hI (sI h6' 260 a r6) 259 a) (mA (mSA u6 55 (6 * w + k) r6') 54 (6 * w + k)) := by
            rw [g259, m54]
            exact ⟨tt, by show okTm v6 c.np tt; unfold okTm at *; omega, er, er'⟩
          have TB : TmR (c.wC pc rc) v6 (hI (sI h6' 260 a r6) 260 a) (mA (mSA u6 55 (6 * w + k) r6') 55 (6 * w + k)) := by
            rw [g260, m55]
            exact ⟨tt2, ot2, er2, er2'⟩
          rcases b with q | q
          · refine .inr (.inl ⟨by rw [g256, ← ekw, q]; rfl, by rw [m51, if_pos (by omega)], TA, TB⟩)
          · refine .inr (.inr (.inl ⟨by rw [g256, ← ekw, q]; rfl, by rw [m51, if_neg (by omega)], TA, TB⟩)))
        have nn : hN (sI h6' 260 a r6) = hN h1 := T6.N.trans (T4.N.trans Q3.N)
        have D6 : DD h1 u (sI h6' 260 a r6) (mSA u6 55 (6 * w + k) r6') G1 G1 z w := (D0.trans D4).trans (((RD.ld S5 (L6.trans L7) pc rc).dd S5 (.inr ob) w3 zs.2.1 zs.2.2).trans (Mm.dd (h := sI h6' 260 a r6) S6))
        have fmu : FM u (mSA u 51 (6 * w + k) (if kw = 32 then 1 else 2)) := FM.of rfl rfl
        have fm4' : FM u4 (mSA u4 54 (6 * w + k) r4') := FM.of rfl rfl
        have fm6' : FM u6 (mSA (mSA u6 55 (6 * w + k) r6') 41 w (nI (k + 1))) := FM.of rfl rfl
        exact ⟨sI h6' 260 a r6, G1, i1, j1, _, by rw [hM, e4, oB_v, M6], C1.trans ((RC.n (G := G1) nn).x 0 0), gr, fun f p q => (D6.g f p q).trans (g23 f), .inl ⟨t + 1 + 1 + 1, v6, pc, rc, hF C6, by omega, by omega, Nat.le_refl _, Nat.le_refl _, X8, ((fmu.trans fm3).trans (fm4.trans fm4')).trans (fm6.trans fm6')⟩⟩
      · refine fin C6 (D4.trans ((((RD.ld S5 (L6.trans L7) pc rc).dd S5 (.inr ob) w3 zs.2.1 zs.2.2).trans (Mm.dd (h := sI h6' 260 a r6) S6)).trans (DD.of41 (h := sI h6' 260 a r6) S6 (nI (k + 1))))) (T6.N.trans T4.N) ?_ ((((Xd6.setC S6 ob w3 260 r6).a2 55 _ _)).a2 41 _ _) (by rw [hM, e4, oB_v, M6])
        simp only [z_hI_sI, z_hL_sI, z_hR_sI, z_hA_sI, z_hB_sI, z_hC_sI, z_hT_sI, z_hN_sI, z_hZ_sI, z_hI_sL, z_hL_sL, z_hR_sL, z_hA_sL, z_hB_sL, z_hC_sL, z_hT_sL, z_hN_sL, z_hZ_sL, z_hI_sR, z_hL_sR, z_hR_sR, z_hA_sR, z_hB_sR, z_hC_sR, z_hT_sR, z_hN_sR, z_hZ_sR, z_hI_sA, z_hL_sA, z_hR_sA, z_hA_sA, z_hB_sA, z_hC_sA, z_hT_sA, z_hN_sA, z_hZ_sA, z_hI_sB, z_hL_sB, z_hR_sB, z_hA_sB, z_hB_sB, z_hC_sB, z_hT_sB, z_hN_sB, z_hZ_sB, z_hI_sC, z_hL_sC, z_hR_sC, z_hA_sC, z_hB_sC, z_hC_sC, z_hT_sC, z_hN_sC, z_hZ_sC, z_hI_sY, z_hL_sY, z_hR_sY, z_hA_sY, z_hB_sY, z_hC_sY, z_hT_sY, z_hN_sY, z_hZ_sY, z_hI_nO, z_hL_nO, z_hR_nO, z_hA_nO, z_hB_nO, z_hC_nO, z_hT_nO, z_hN_nO, z_hZ_nO, z_hI_nA, z_hL_nA, z_hR_nA, z_hA_nA, z_hB_nA, z_hC_nA, z_hT_nA, z_hN_nA, z_hZ_nA]
        rw [if_neg (fun q => a5 q.2), T6.I _ _ (by omega)]
        simp only [z_hI_sI, z_hL_sI, z_hR_sI, z_hA_sI, z_hB_sI, z_hC_sI, z_hT_sI, z_hN_sI, z_hZ_sI, z_hI_sL, z_hL_sL, z_hR_sL, z_hA_sL, z_hB_sL, z_hC_sL, z_hT_sL, z_hN_sL, z_hZ_sL, z_hI_sR, z_hL_sR, z_hR_sR, z_hA_sR, z_hB_sR, z_hC_sR, z_hT_sR, z_hN_sR, z_hZ_sR, z_hI_sA, z_hL_sA, z_hR_sA, z_hA_sA, z_hB_sA, z_hC_sA, z_hT_sA, z_hN_sA, z_hZ_sA, z_hI_sB, z_hL_sB, z_hR_sB, z_hA_sB, z_hB_sB, z_hC_sB, z_hT_sB, z_hN_sB, z_hZ_sB, z_hI_sC, z_hL_sC, z_hR_sC, z_hA_sC, z_hB_sC, z_hC_sC, z_hT_sC, z_hN_sC, z_hZ_sC, z_hI_sY, z_hL_sY, z_hR_sY, z_hA_sY, z_hB_sY, z_hC_sY, z_hT_sY, z_hN_sY, z_hZ_sY, z_hI_nO, z_hL_nO, z_hR_nO, z_hA_nO, z_hB_nO, z_hC_nO, z_hT_nO, z_hN_nO, z_hZ_nO, z_hI_nA, z_hL_nA, z_hR_nA, z_hA_nA, z_hB_nA, z_hC_nA, z_hT_nA, z_hN_nA, z_hZ_nA]
        rw [if_neg (fun q => a5 q.2), T4.I _ _ (by omega)]
    · obtain ⟨h5, f1, f2, f3⟩ := lkC2_d (h := sI h4 259 a r4) S5 (Xd4.setC S4 ob w3 259 r4) ⟨c.np, X.ok.1, e6 (L4.trans L5)⟩ ta4 ob w3
      have m65' : mI (mSA u4 54 (6 * w + k) r4') 65 = nI w := m654
      have g1 := lkM2_d (Xd4.a2 54 (6 * w + k) r4') m65' w3 h6
      have Mm : RMs (mSA u4 54 (6 * w + k) r4') (mSA (mSA u4 54 (6 * w + k) r4') 55 (6 * w + k) (-1)) w k := (RMs.refl _ w k).sA (.inl ⟨by omega, by omega, rfl⟩)
      have S6 := (RD.ld S5 f2 pc rc).sx
      have LL : LD (sI h4 259 a r4) (mSA u4 54 (6 * w + k) r4') h5 (mSA u4 54 (6 * w + k) r4') G1 w a := ⟨f2.cd, fun zz _ => MD.refl _ zz, f2.I, f2.g, f2.N, fun _ _ => rfl, fun _ _ _ _ => rfl, f2.A, f2.B, rfl, f2.T, fun q => q⟩
      refine fin (C4.trans f1) (D4.trans ((((RD.ld S5 LL pc rc).dd S5 (.inr ob) w3 zs.2.1 zs.2.2).trans (Mm.dd S6)).trans (DD.of41 S6 (mA (mSA u4 54 (6 * w + k) r4') 41 w + 1)))) (f2.N.trans T4.N) ?_ (((f3.a2 54 (6 * w + k) r4').a2 55 (6 * w + k) (-1)).a2 41 w (mA (mSA u4 54 (6 * w + k) r4') 41 w + 1)) (by rw [hM, e4, oB_v, MM4, g1])
      rw [f2.I _ _ (by omega) a5]
      simp only [z_hI_sI, z_hL_sI, z_hR_sI, z_hA_sI, z_hB_sI, z_hC_sI, z_hT_sI, z_hN_sI, z_hZ_sI, z_hI_sL, z_hL_sL, z_hR_sL, z_hA_sL, z_hB_sL, z_hC_sL, z_hT_sL, z_hN_sL, z_hZ_sL, z_hI_sR, z_hL_sR, z_hR_sR, z_hA_sR, z_hB_sR, z_hC_sR, z_hT_sR, z_hN_sR, z_hZ_sR, z_hI_sA, z_hL_sA, z_hR_sA, z_hA_sA, z_hB_sA, z_hC_sA, z_hT_sA, z_hN_sA, z_hZ_sA, z_hI_sB, z_hL_sB, z_hR_sB, z_hA_sB, z_hB_sB, z_hC_sB, z_hT_sB, z_hN_sB, z_hZ_sB, z_hI_sC, z_hL_sC, z_hR_sC, z_hA_sC, z_hB_sC, z_hC_sC, z_hT_sC, z_hN_sC, z_hZ_sC, z_hI_sY, z_hL_sY, z_hR_sY, z_hA_sY, z_hB_sY, z_hC_sY, z_hT_sY, z_hN_sY, z_hZ_sY, z_hI_nO, z_hL_nO, z_hR_nO, z_hA_nO, z_hB_nO, z_hC_nO, z_hT_nO, z_hN_nO, z_hZ_nO, z_hI_nA, z_hL_nA, z_hR_nA, z_hA_nA, z_hB_nA, z_hC_nA, z_hT_nA, z_hN_nA, z_hZ_nA]
      rw [if_neg (fun q => a5 q.2), T4.I _ _ (by omega)]
  · obtain ⟨h5, f1, f2, f3⟩ := lkC1_d S3 Xd3 ⟨c.np, X.ok.1, e6 (LD.q S3 (Q.refl h3) (W'.refl u3))⟩ ta3 ob w3
    obtain ⟨u5, g1, g2, g3⟩ := lkM1_d Xd3 m653 w3 h6
    have S5 := (RD.ld S3 f2 pc rc).sx
    refine fin f1 ((((RD.ld S3 f2 pc rc).dd S3 (.inr ob) w3 zs.2.1 zs.2.2).trans (g2.dd S5)).trans (DD.of41 S5 _)) f2.N (f2.I _ _ (by omega) a5) (Ded.a2 ⟨f3.st, ?_, ?_, f3.kd, ?_⟩ 41 _ _) (by rw [hM, e4, oB_v, g1])
    · rw [g2.I]; exact f3.fa
    · rw [g2.I]; exact f3.pl
    · rw [g2.I]; exact f3.tt
end LK
