section C6
variable {h h' : PH} {u u' : MS} {G G' : Gh} {z c : Sz} {w v v' L n t t' pc rc pc' rc' y kc k a B : Nat} {D : Nat → Nat × Nat × Nat × List Nat}
theorem tc0_y (X : RX h u G z c w v L n D t pc rc y kc k) (b : cBg (D t).2.1) : fX12_tellCond u = fX12_tellCond_49 u 1 := by
  have i : ∀ kw, kw < 38 → fX12_is u (nI kw) = some (if (D t).2.1 = kw then 1 else 0) := fun kw hk => is_v X.i X.V hk
  have i32 : fX12_is u 32 = some (if (D t).2.1 = 32 then 1 else 0) := i 32 (by omega)
  have i33 : fX12_is u 33 = some (if (D t).2.1 = 33 then 1 else 0) := i 33 (by omega)
  have i34 : fX12_is u 34 = some (if (D t).2.1 = 34 then 1 else 0) := i 34 (by omega)
  have i35 : fX12_is u 35 = some (if (D t).2.1 = 35 then 1 else 0) := i 35 (by omega)
  have i1 : fX12_is u 1 = some (if (D t).2.1 = 1 then 1 else 0) := i 1 (by omega)
  unfold fX12_tellCond fX12_tellCond_0
  rw [i32, i33, i34, i35, i1]
  rcases b with q | q | q | q | q <;> rw [q] <;> rfl
theorem tc0_n (X : RX h u G z c w v L n D t pc rc y kc k) (b : ¬ cBg (D t).2.1) : fX12_tellCond u = fX12_tellCond_49 u 0 := by
  have i : ∀ kw, kw < 38 → (D t).2.1 ≠ kw → fX12_is u (nI kw) = some 0 := fun kw hk q => is_n X.i X.V hk q
  have i32 : fX12_is u 32 = some 0 := i 32 (by omega) (fun q => b (by unfold cBg; omega))
  have i33 : fX12_is u 33 = some 0 := i 33 (by omega) (fun q => b (by unfold cBg; omega))
  have i34 : fX12_is u 34 = some 0 := i 34 (by omega) (fun q => b (by unfold cBg; omega))
  have i35 : fX12_is u 35 = some 0 := i 35 (by omega) (fun q => b (by unfold cBg; omega))
  have i1 : fX12_is u 1 = some 0 := i 1 (by omega) (fun q => b (by unfold cBg; omega))
  unfold fX12_tellCond fX12_tellCond_0
  rw [i32, oB_v, if_pos rfl, i33, oB_v, if_pos rfl, i34, oB_v, if_pos rfl, i35, oB_v, if_pos rfl, i1, oB_v, if_pos rfl]
theorem cond_n (X : RX h u G z c w v L n D t pc rc y k k) (b : ¬ cBg (D t).2.1) : CO h u G z c w v L n D t pc rc y k := by
  have S := X.i.sx
  have bp := X.bp
  have b1 := X.b1
  have Xd := Ded.of X.V (by omega) (f := 1) (.inl rfl)
  have kn : ∀ kw, kw < 38 → (D t).2.1 ≠ kw → ¬ hI h 521 23 = cK kw := fun kw hk q => kd_n X.i X.V hk q
  have R : RD h u (stH h 1) (mSI (mSI u 13 1) 14 (nI (D t).1)) G G w 23 pc rc := RD.q S (Q.st h 1) (W'.fa u 1 (nI (D t).1)) 23 pc rc
  refine ⟨stH h 1, G, 0 + 0, 0 + 0, _, ?_, (RC.n (Q.st h 1).N).x 1 8, rfl, R.g, .inr ⟨pc, X.dr (R.dd S (.inl rfl) X.K.w3 X.zs.2.1 X.zs.2.2) Xd (((Q.st h 1).I _ _ (by omega)).trans X.sz) (by rw [(Q.st h 1).N]; exact X.hp) (Nat.le_refl _) (by omega), .inr fun k71 x1 x4 => ?_⟩⟩
  · rw [tc0_n X b]
    unfold fX12_tellCond_49
    rw [if_pos rfl, fail_v X.i X.V, oB_v]
  · unfold fbody fX4_startCondition fX4_startCondition_0
    rw [oC_d S.t23, oL_v, if_neg (show ¬ hI h 521 23 = 260 from kn 1 (by omega) (fun q => b (by unfold cBg; omega))), if_neg (show ¬ hI h 521 23 = 314 from kn 32 (by omega) (fun q => b (by unfold cBg; omega))), if_neg (show ¬ hI h 521 23 = 315 from kn 33 (by omega) (fun q => b (by unfold cBg; omega))), if_neg (show ¬ hI h 521 23 = 316 from kn 34 (by omega) (fun q => b (by unfold cBg; omega))), if_neg (show ¬ hI h 521 23 = 317 from kn 35 (by omega) (fun q => b (by unfold cBg; omega))), stopAt_v X.i X.V, oB_v, oB4_v, if_pos rfl, oK3_v]
theorem cond_6 (X : RX h u G z c w v L n D t pc rc y k k) (b : cBg (D t).2.1) (h6 : k = 6) : CO h u G z c w v L n D t pc rc y k := by
  have S := X.i.sx
  have bp := X.bp
  have b1 := X.b1
  have w3 := X.K.w3
  have Xd := Ded.of X.V (by omega) (f := 2) (.inr rfl)
  have t9 := S.rlT w X.wG
  have n1 : hI h 1027 (G.rl w) = 6 := by rw [X.n1, h6]; rfl
  have nc : fX8_newCondition h (G.rl w) = some (h, none, 0, 0) := by
    unfold fX8_newCondition fX8_newCondition_0
    rw [oC_d t9, n1, if_neg (by decide)]
  have R : RD h u (stH h 2) (mSI (mSI u 13 2) 14 (nI (D t).1)) G G w 23 pc rc := RD.q S (Q.st h 2) (W'.fa u 2 (nI (D t).1)) 23 pc rc
  have es : fX4_startCondition h 23 (some (G.rl w)) = some (stH h 2, none, 0 + 0, 0 + 0) := by
    have kd : hI h 521 23 = cK (D t).2.1 := X.V.kd
    unfold fX4_startCondition fX4_startCondition_0
    rw [oC_d S.t23, oL_v, kd]
    rcases b with q | q | q | q | q <;> rw [q]
    · rw [if_pos (show cK 1 = 260 from rfl), oN_v, oC_d t9, nc, oB4_v, if_pos rfl, oC_d S.t23, stopAt_v X.i X.V, oB_v, oK4_v]
    · rw [if_neg (show ¬ cK 35 = 260 by decide), if_neg (show ¬ cK 35 = 314 by decide), if_neg (show ¬ cK 35 = 315 by decide), if_neg (show ¬ cK 35 = 316 by decide), if_pos (show cK 35 = 317 from rfl), oN_v, oC_d t9, nc, oB4_v, if_pos rfl, oC_d S.t23, stopAt_v X.i X.V, oB_v, oK4_v]
    · rw [if_neg (show ¬ cK 32 = 260 by decide), if_pos (show cK 32 = 314 from rfl), oN_v, oC_d t9, nc, oB4_v, if_pos rfl, oC_d S.t23, stopAt_v X.i X.V, oB_v, oK4_v]
    · rw [if_neg (show ¬ cK 33 = 260 by decide), if_neg (show ¬ cK 33 = 314 by decide), if_pos (show cK 33 = 315 from rfl), oN_v, oC_d t9, nc, oB4_v, if_pos rfl, oC_d S.t23, stopAt_v X.i X.V, oB_v, oK4_v]
    · rw [if_neg (show ¬ cK 34 = 260 by decide), if_neg (show ¬ cK 34 = 314 by decide), if_neg (show ¬ cK 34 = 315 by decide), if_pos (show cK 34 = 316 from rfl), oN_v, oC_d t9, nc, oB4_v, if_pos rfl, oC_d S.t23, stopAt_v X.i X.V, oB_v, oK4_v]
  refine ⟨stH h 2, G, 0 + 0 + 0, 0 + 0 + 0, _, ?_, (RC.n (Q.st h 2).N).x 1 8, rfl, R.g, .inr ⟨pc, X.dr (R.dd S (.inl rfl) w3 X.zs.2.1 X.zs.2.2) Xd (((Q.st h 2).I _ _ (by omega)).trans X.sz) (by rw [(Q.st h 2).N]; exact X.hp) (Nat.le_refl _) (by omega), .inr fun k71 x1 x4 => ?_⟩⟩
  · have m41 : mA u 41 w = 6 := by rw [X.n2, h6]; rfl
    rw [tc0_y X b]
    unfold fX12_tellCond_49
    rw [if_neg (by decide), X.K.m65, oC_t (ix_n (show w < mlen 41 from w3) (by decide)), nI_clamp (show w < 2147483648 by omega), m41, if_pos rfl, fail_v X.i X.V, oB_v]
  · unfold fbody
    rw [es, oB4_v, if_pos rfl, oK3_v]
/-- where the reference goes on with a condition -/
theorem tc49_v (X : RX h u G z c w v L n D t pc rc y k k) (h6 : k < 6) : 6 * mI u 65 + mA u 41 w = nI (6 * w + k) ∧ mA u 41 w ≠ 6 := by
  refine ⟨?_, ?_⟩
  · rw [X.K.m65, X.n2, show (6 : Int32) = nI 6 from rfl, nI_mul, nI_add]
  · rw [X.n2]
    exact fun q => by have := (nI_eq (b := 6) (by omega) (by omega)).mp q; omega
theorem i6 {j : Nat} (w3 : w < 30) (h6 : k < 6) (hj : mlen j = 180) : ix (nI (6 * w + k)) (mlen j) = true := ix_n (by rw [hj]; omega) (by rw [hj]; omega)
/-- a literal as a condition -/
theorem cond_lit (X : RX h u G z c w v L n D t pc rc y k k) (b : (D t).2.1 = 1 ∨ (D t).2.1 = 35) (h6 : k < 6) : CO h u G z c w v L n D t pc rc y k := by
  have S := X.i.sx
  have bp := X.bp
  have b1 := X.b1
  have w3 := X.K.w3
  have bg : cBg (D t).2.1 := by unfold cBg; omega
  obtain ⟨h1, G1, i1, j1, es, C1, X1, g23, gr, ta, oo⟩ := start_y X bg h6
  have S1 := X1.i.sx
  have ob : OB G1 w (G1.cd w k) := .inr ⟨k, h6, oo⟩
  have oa : OA G1 w k (G1.cd w k) := .inr (.inr ⟨k, Nat.le_refl _, h6, oo⟩)
  have n23 := ob.n23 S1 w3
  obtain ⟨h2, u2, e1, e2, T, s67, o⟩ := literal_v (X1.lx ob ta)
  have R2 : RD h1 u h2 u2 G1 G1 w (G1.cd w k) pc rc := RD.ld S1 T pc rc
  have kd1 : hI h1 521 23 = cK (D t).2.1 := X1.V.kd
  have hF : ∀ k71 x1 x4, fbody k71 h x1 (some (G.rl w)) x4 = oK3 i1 j1 (fX4_tellRule_148 k71 h2 23 x1 (some (G.rl w)) x4) := fun k71 x1 x4 => by
    unfold fbody
    rw [es, oB4_v, if_neg (by simp), oC_d S1.t23, oL_v, kd1]
    rcases b with q | q <;> rw [q]
    · rw [if_neg (show ¬ cK 1 = 314 by decide), if_neg (show ¬ cK 1 = 315 by decide), if_neg (show ¬ cK 1 = 316 by decide), e1, oB_v]
    · rw [if_neg (show ¬ cK 35 = 314 by decide), if_neg (show ¬ cK 35 = 315 by decide), if_neg (show ¬ cK 35 = 316 by decide), e1, oB_v]
  obtain ⟨ey, n6⟩ := tc49_v X h6
  have i32 : fX12_is u 32 = some 0 := is_n X.i X.V (kw := 32) (by omega) (by omega)
  have i33 : fX12_is u 33 = some 0 := is_n X.i X.V (kw := 33) (by omega) (by omega)
  have i34 : fX12_is u 34 = some 0 := is_n X.i X.V (kw := 34) (by omega) (by omega)
  have cl : (nI (6 * w + k)).toNatClampNeg = 6 * w + k := nI_clamp (show 6 * w + k < 2147483648 by omega)
  let u3 : MS := mSA (mSA (mSA (mSA (mSA u2 51 (6 * w + k) 0) 52 (6 * w + k) (mI u2 66)) 53 (6 * w + k) (mI u2 67)) 54 (6 * w + k) (mI u2 68)) 55 (6 * w + k) (mI u2 69)
  have M3 : RMs u2 u3 w k := (((((RMs.refl u2 w k).sA (.inl ⟨by omega, by omega, rfl⟩)).sA (.inl ⟨by omega, by omega, rfl⟩)).sA (.inl ⟨by omega, by omega, rfl⟩)).sA (.inl ⟨by omega, by omega, rfl⟩)).sA (.inl ⟨by omega, by omega, rfl⟩)
  have m65 : mI u2 65 = nI w := (T.mi 65 (by omega)).trans X.K.m65
  have hM : fX12_tellCond u = some (mSA u3 41 w (mA u3 41 w + 1)) := by
    have t3 : fX12_tellCond_356 u3 = some (mSA u3 41 w (mA u3 41 w + 1)) := t356_v (u := u3) m65 w3
    have hb : isB (mI u2 67) = true := by rcases s67 with q | q <;> rw [q] <;> decide
    rw [tc0_y X bg]
    unfold fX12_tellCond_49
    rw [if_neg (by decide), X.K.m65, oC_t (ix_n (show w < mlen 41 from w3) (by decide)), nI_clamp (show w < 2147483648 by omega), if_neg n6, oC_t (ix_n (show w < mlen 41 from w3) (by decide)), ← X.K.m65, ey, oL_v, i32, oB_v, if_pos rfl, i33, oB_v, if_pos rfl, i34, oB_v, if_pos rfl, e2, oB_v, oC_t (i6 w3 h6 (by decide)), oL_v, cl, oC_t (i6 w3 h6 (by decide)), oL_v]
    show oC (isB (mI u2 67)) _ = _
    rw [oC_t hb, oC_t (i6 w3 h6 (by decide)), oL_v, oC_t (i6 w3 h6 (by decide)), oL_v, oC_t (i6 w3 h6 (by decide)), oL_v]
    exact t3
  have gg : ∀ f, f < 520 → f ≠ 516 → hI h2 f 23 = hI h f 23 := fun f a b => (T.g f a b).trans (g23 f)
  have C2 : RCx h h2 G G1 i1 j1 1 8 := C1.trans ((RC.n (G := G1) T.N).x 0 0)
  rcases o with ⟨t2, v2, lt2, lv2, X2l, fm2, e256, LT⟩ | Xd
  · have X2 : RX h2 u2 G1 z c w v2 L n D t2 pc rc y (k + 1) k := X1.ld T oa X2l.V X2l.F fm2 X2l.K lv2 (by omega)
    have X3 := X2.am M3
    have m41 : mA u3 41 w = nI k := X3.n2
    have X4 : RX h2 (mSA u3 41 w (nI (k + 1))) G1 z c w v2 L n D t2 pc rc y (k + 1) (k + 1) := X3.done (fun e0 => by
      have LT' := LT e0
      refine .inl ⟨e256, ?_, ?_⟩
      · simp only [u3, z_mI_mSI, z_mL_mSI, z_mA_mSI, z_mB_mSI, z_mI_mSL, z_mL_mSL, z_mA_mSL, z_mB_mSL, z_mI_mSA, z_mL_mSA, z_mA_mSA, z_mB_mSA, z_mI_mSB, z_mL_mSB, z_mA_mSB, z_mB_mSB, if_true, if_false, and_false, false_and, and_true, true_and, and_self, decide_true, decide_false, reduceCtorEq, not_false_eq_true, not_true_eq_false, Nat.reduceEqDiff, Nat.reduceAdd, Nat.reduceMul, Nat.add_zero, Nat.zero_add]
      · have := LT'.x (c := c) (u' := u3) (c' := c.wC pc rc) (nv' := v2) (fun j hj => M3.A 28 j (by omega)) ⟨Nat.le_refl _, Nat.le_refl _, Nat.le_refl _, Nat.le_refl _, Nat.le_refl _, Nat.le_refl _, X.p0, X.r0⟩ (Nat.le_refl _)
        have a1 : mA u3 52 (6 * w + k) = mI u2 66 := by simp only [u3, z_mI_mSI, z_mL_mSI, z_mA_mSI, z_mB_mSI, z_mI_mSL, z_mL_mSL, z_mA_mSL, z_mB_mSL, z_mI_mSA, z_mL_mSA, z_mA_mSA, z_mB_mSA, z_mI_mSB, z_mL_mSB, z_mA_mSB, z_mB_mSB, if_true, if_false, and_false, false_and, and_true, true_and, and_self, decide_true, decide_false, reduceCtorEq, not_false_eq_true, not_true_eq_false, Nat.reduceEqDiff, Nat.reduceAdd, Nat.reduceMul, Nat.add_zero, Nat.zero_add]
        have a2 : mA u3 53 (6 * w + k) = mI u2 67 := by simp only [u3, z_mI_mSI, z_mL_mSI, z_mA_mSI, z_mB_mSI, z_mI_mSL, z_mL_mSL, z_mA_mSL, z_mB_mSL, z_mI_mSA, z_mL_mSA, z_mA_mSA, z_mB_mSA, z_mI_mSB, z_mL_mSB, z_mA_mSB, z_mB_mSB, if_true, if_false, and_false, false_and, and_true, true_and, and_self, decide_true, decide_false, reduceCtorEq, not_false_eq_true, not_true_eq_false, Nat.reduceEqDiff, Nat.reduceAdd, Nat.reduceMul, Nat.add_zero, Nat.zero_add]
        have a3 : mA u3 54 (6 * w + k) = mI u2 68 := by simp only [u3, z_mI_mSI, z_mL_mSI, z_mA_mSI, z_mB_mSI, z_mI_mSL, z_mL_mSL, z_mA_mSL, z_mB_mSL, z_mI_mSA, z_mL_mSA, z_mA_mSA, z_mB_mSA, z_mI_mSB, z_mL_mSB, z_mA_mSB, z_mB_mSB, if_true, if_false, and_false, false_and, and_true, true_and, and_self, decide_true, decide_false, reduceCtorEq, not_false_eq_true, not_true_eq_false, Nat.reduceEqDiff, Nat.reduceAdd, Nat.reduceMul, Nat.add_zero, Nat.zero_add]
        have a4 : mA u3 55 (6 * w + k) = mI u2 69 := by simp only [u3, z_mI_mSI, z_mL_mSI, z_mA_mSI, z_mB_mSI, z_mI_mSL, z_mL_mSL, z_mA_mSL, z_mB_mSL, z_mI_mSA, z_mL_mSA, z_mA_mSA, z_mB_mSA, z_mI_mSB, z_mL_mSB, z_mA_mSB, z_mB_mSB, if_true, if_false, and_false, false_and, and_true, true_and, and_self, decide_true, decide_false, reduceCtorEq, not_false_eq_true, not_true_eq_false, Nat.reduceEqDiff, Nat.reduceAdd, Nat.reduceMul, Nat.add_zero, Nat.zero_add]
        rw [a1, a2, a3, a4]
        exact this)
    rw [m41, nI_1] at hM
    exact ⟨h2, G1, i1, j1, _, hM, C2, gr, gg, .inl ⟨t2, v2, pc, rc, hF, lt2, lv2, Nat.le_refl _, Nat.le_refl _, X4, fm2⟩⟩
  · refine ⟨h2, G1, i1, j1, _, hM, C2, gr, gg, .inr ⟨pc, X1.dr (((R2.dd S1 (.inr ob) w3 X.zs.2.1 X.zs.2.2).trans (M3.dd R2.sx)).trans (DD.of41 R2.sx _)) ?_ ((T.I _ _ (by omega) (ob.ne w3 S1.o5 (by omega))).trans X1.sz) (by rw [T.N]; exact X1.hp) (Nat.le_refl _) (by omega), .inl hF⟩⟩
    exact (((((Xd.a2 51 _ _).a2 52 _ _).a2 53 _ _).a2 54 _ _).a2 55 _ _).a2 41 _ _
end C6
