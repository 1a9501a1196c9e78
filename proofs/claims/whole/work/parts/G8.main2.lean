section MN
variable {z : Sz} {L n : Nat} {D : Nat → Nat × Nat × Nat × List Nat} {x1 x2 x3 x4 x5 x6 x7 : Int32}
theorem SO.eo {h : PH} {u : MS} {G : Gh} {c : Sz} {t i g f : Nat} {F : Option PH} {M : Option MS} (so : SO h u G z L n D t c.nr F M) (z9 : hI h 519 23 = 0) (hi : i ≤ t) (ih : ∀ (h' : PH) (u' : MS) (t' : Nat) (c' : Sz), t < t' → c'.nr = c.nr → PI h' u' G z L n D → Liv h' u' D n t' → FL h' u' → LR h' u' G z c' n D t' → hI h' 519 23 = 0 → EO h' G z L n D (10 * (31 - c.nr)) (76 * (31 - c.nr)) x1 x2 x3 x4 x5 x6 x7 (fX11_read_17 (g + 1) h' 0 (nI (i + 1))) (fX12_read_109 (f + 1) u' x1 x2 x3 x4 x5 x6 x7)) : EO h G z L n D (10 * (31 - c.nr)) (76 * (31 - c.nr)) x1 x2 x3 x4 x5 x6 x7 (oB F (fun h29 => fX11_read_17 (g + 1) h29 0 (nI (i + 1)))) (oB M (fun h24 => fX12_read_109 (f + 1) h24 x1 x2 x3 x4 x5 x6 x7)) := by
  obtain ⟨h', u', e1, e2, I', hn, _, g9, o⟩ := so
  rw [e1, oB_v, e2, oB_v]
  rcases o with ⟨t', c', lt, en, V', F', R'⟩ | X
  · exact EO.q hn (ih h' u' t' c' lt en I' V' F' R' (g9.trans z9)) (Nat.le_refl _) (Nat.le_refl _)
  · exact EO.q hn (EO.dead I' X _ _ _ _ _) (Nat.le_refl _) (Nat.le_refl _)
theorem main_v : ∀ N : Nat, (∀ (h : PH) (u : MS) (G : Gh) (c : Sz) (t i g f : Nat), 1301 ≤ N + t → PI h u G z L n D → Liv h u D n t → FL h u → LR h u G z c n D t → hI h 519 23 = 0 → i ≤ t → 2000 ≤ g + t → 2000 ≤ f + t → EO h G z L n D (10 * (31 - c.nr)) (76 * (31 - c.nr)) x1 x2 x3 x4 x5 x6 x7 (fX11_read_17 g h 0 (nI i)) (fX12_read_109 f u x1 x2 x3 x4 x5 x6 x7)) ∧ (∀ (h : PH) (u : MS) (G : Gh) (c : Sz) (t i g f f2 : Nat), 1301 ≤ N + t → PI h u G z L n D → Liv h u D n t → FL h u → LR h u G z c n D t → hI h 519 23 = 1 → z.nl < c.nl → i ≤ t → 2000 ≤ g + t → 2000 ≤ f + t → 2000 ≤ f2 + t → EO h G z L n D (10 * (31 - c.nr)) (76 * (31 - c.nr)) x1 x2 x3 x4 x5 x6 x7 (fX11_read_17 g h 0 (nI i)) (oB (fX12_tellLaw_199 f2 u (nI (c.nl - 1))) (fun h24 => fX12_read_109 f h24 x1 x2 x3 x4 x5 x6 x7))) := by
  intro N
  induction N with
  | zero =>
    refine ⟨?_, ?_⟩
    · intro h u G c t i g f hN' I V
      have := V.lt
      have := I.ts.n2
      omega
    · intro h u G c t i g f f2 hN' I V
      have := V.lt
      have := I.ts.n2
      omega
  | succ N ih =>
    refine ⟨?_, ?_⟩
    · intro h u G c t i g f hN' I V F R z9 hi hg hf
      have lt := V.lt
      have n2 := I.ts.n2
      obtain ⟨g1, rfl⟩ : ∃ g1, g = g1 + 1 + 1 := ⟨g - 2, by omega⟩
      obtain ⟨f1, rfl⟩ : ∃ f1, f = f1 + 1 + 1 := ⟨f - 2, by omega⟩
      rw [r17_v I V hi]
      by_cases c0 : (D t).2.1 = 0
      · rw [if_pos ⟨z9, c0⟩]
        have is0 : fX12_is u 0 = some 1 := is_y I V (kw := 0) (by omega) c0
        refine ⟨h, G, 0, 0, u, by rw [oK4_0], ?_, (RC.refl h G).x _ _, I, .inl ⟨t, c, V, F, R⟩⟩
        show fX12_read_109F (fX12_read_109 (f1 + 1)) u x1 x2 x3 x4 x5 x6 x7 = _
        unfold fX12_read_109F
        rw [if_pos V.f0, is0, oB_v, if_neg (by decide)]
      · have is0 : fX12_is u 0 = some 0 := is_n I V (kw := 0) (by omega) c0
        have hM : fX12_read_109 (f1 + 1 + 1) u x1 x2 x3 x4 x5 x6 x7 = oB (fX12_tell u) (fun h24 => fX12_read_109 (f1 + 1) h24 x1 x2 x3 x4 x5 x6 x7) := by
          show fX12_read_109F (fX12_read_109 (f1 + 1)) u x1 x2 x3 x4 x5 x6 x7 = _
          unfold fX12_read_109F
          rw [if_pos V.f0, is0, oB_v, if_pos rfl]
        rw [if_neg (fun q => c0 q.2), if_neg (fun q => q.1 z9), hM, tellC_v I V z9, tellM_v I V]
        have ih' : ∀ (h' : PH) (u' : MS) (t' : Nat) (c' : Sz), t < t' → c'.nr = c.nr → PI h' u' G z L n D → Liv h' u' D n t' → FL h' u' → LR h' u' G z c' n D t' → hI h' 519 23 = 0 → EO h' G z L n D (10 * (31 - c.nr)) (76 * (31 - c.nr)) x1 x2 x3 x4 x5 x6 x7 (fX11_read_17 (g1 + 1) h' 0 (nI (i + 1))) (fX12_read_109 (f1 + 1) u' x1 x2 x3 x4 x5 x6 x7) := fun h' u' t' c' q1 q2 q3 q4 q5 q6 q7 => by
          rw [← q2]
          exact ih.1 h' u' G c' t' (i + 1) (g1 + 1) (f1 + 1) (by omega) q3 q4 q5 q6 q7 (by omega) (by omega) (by omega)
        by_cases c20 : (D t).2.1 = 20
        · rw [if_pos c20, if_pos c20]
          exact (person_v I V F R c20).eo z9 hi ih'
        rw [if_neg c20, if_neg c20]
        by_cases c21 : (D t).2.1 = 21
        · rw [if_pos c21, if_pos c21]
          exact (word_v I V F R c21).eo z9 hi ih'
        rw [if_neg c21, if_neg c21]
        by_cases c22 : (D t).2.1 = 22
        · rw [if_pos c22, if_pos c22]
          exact (sum_v I V F R c22).eo z9 hi ih'
        rw [if_neg c22, if_neg c22]
        by_cases c23 : (D t).2.1 = 23
        · rw [if_pos c23, if_pos c23, oB_some]
          obtain ⟨h', e1, hn, g8, o⟩ := law_v I V F R I.d8 c23
          rw [e1, oB_v]
          rcases o with ⟨u', t', e2, I', g9, lt', V', F', R'⟩ | ⟨u', e2, I', X⟩
          · have le := R.le.2.2.2.1
            rw [e2]
            exact EO.q hn (ih.2 h' u' G c.wL t' (i + 1) (g1 + 1) (f1 + 1) FU (by omega) I' V' F' R' g9 (show z.nl < c.nl + 1 by omega) (by omega) (by omega) (by omega) (by rw [FU_v]; omega)) (Nat.le_refl _) (Nat.le_refl _)
          · rw [e2, oB_v]
            exact EO.q hn (EO.dead I' X _ _ _ _ _) (Nat.le_refl _) (Nat.le_refl _)
        rw [if_neg c23, if_neg c23]
        by_cases c28 : (D t).2.1 = 28
        · rw [if_pos c28, if_pos c28]
          exact (over_v I V F R c28).eo z9 hi ih'
        rw [if_neg c28, if_neg c28, oB_v, oB_v]
        exact EO.q (Q.st h 1).N (EO.dead (I.q (Q.st h 1) (W'.fa u 1 (nI (D t).1))) (Ded.of V (by omega) (.inl rfl)) _ _ _ _ _) (Nat.le_refl _) (Nat.le_refl _)
    · intro h u G c t i g f f2 hN' I V F R z9 hl hi hg hf hf2
      have S := I.sx
      have lt := V.lt
      have n2 := I.ts.n2
      have n9 : ¬ hI h 519 23 = 0 := by rw [z9]; decide
      have l10 := R.ok.2.2.2.1
      have r30 := R.ok.2.2.2.2.1
      obtain ⟨g1, rfl⟩ : ∃ g1, g = g1 + 1 + 1 := ⟨g - 2, by omega⟩
      obtain ⟨f1, rfl⟩ : ∃ f1, f = f1 + 1 := ⟨f - 1, by omega⟩
      obtain ⟨f3, rfl⟩ : ∃ f3, f2 = f3 + 1 + 1 := ⟨f2 - 2, by omega⟩
      rw [r17_v I V hi, if_neg (fun q => n9 q.1)]
      by_cases cr : (D t).2.1 = 29 ∨ (D t).2.1 = 30 ∨ (D t).2.1 = 31
      · rw [if_pos ⟨n9, cr⟩]
        obtain ⟨y, y2, ey⟩ : ∃ y, y ≤ 2 ∧ (D t).2.1 = 29 + y := by
          rcases cr with q | q | q
          · exact ⟨0, by omega, by omega⟩
          · exact ⟨1, by omega, by omega⟩
          · exact ⟨2, by omega, by omega⟩
        have hM : fX12_tellLaw_199 (f3 + 1 + 1) u (nI (c.nl - 1)) = fX12_tellLaw_226 (fX12_tellLaw_199 (f3 + 1)) u (nI (c.nl - 1)) := by
          have i29 : fX12_is u 29 = some (if (D t).2.1 = 29 then 1 else 0) := is_v I V (k := 29) (by omega)
          have i30 : fX12_is u 30 = some (if (D t).2.1 = 30 then 1 else 0) := is_v I V (k := 30) (by omega)
          have i31 : fX12_is u 31 = some (if (D t).2.1 = 31 then 1 else 0) := is_v I V (k := 31) (by omega)
          show fX12_tellLaw_199F (fX12_tellLaw_199 (f3 + 1)) u (nI (c.nl - 1)) = _
          unfold fX12_tellLaw_199F
          rw [i29, i30, i31]
          rcases cr with q | q | q <;> rw [q] <;> rfl
        obtain ⟨h', G', ci, cj, u', e1, e2, C, g9, o⟩ := rule_v I V F R hl y2 ey
        rw [e1, oB3_v, hM]
        unfold fX12_tellLaw_226
        rw [e2, oB_v]
        rcases o with ⟨t', pc', rc', lt', f0, I', V', F', R'⟩ | ⟨I', X⟩
        · have cl : (nI (c.nl - 1)).toNatClampNeg = c.nl - 1 := nI_clamp (show c.nl - 1 < 2147483648 by omega)
          have i35 : ix (nI (c.nl - 1)) (mlen 35) = true := ix_n (show c.nl - 1 < mlen 35 by show c.nl - 1 < 10; omega) (by decide)
          rw [if_pos f0, oC_t i35, oC_t i35, oL_v, cl]
          have rk := R'.ok.2.2.2.2.1
          have rk' : c.nr + 1 ≤ 30 := rk
          refine EO.pre C (ih.2 h' (inL u' (c.nl - 1)) G' (c.wN pc' rc') t' (i + 1) (g1 + 1) (f1 + 1) (f3 + 1) (by omega) I' V' F' R' ?_ hl (by omega) (by omega) (by omega) (by omega)) ?_ ?_
          · exact (g9 519 (by omega) (by omega)).trans z9
          · show 10 + 10 * (31 - (c.nr + 1)) ≤ _
            omega
          · show 76 + 76 * (31 - (c.nr + 1)) ≤ _
            omega
        · rw [if_neg X.f.1, law199_d X, oB_v]
          exact EO.pre C (EO.dead I' X 0 0 g1 f1 _) (by omega) (by omega)
      · rw [if_neg (fun q => cr q.2)]
        have i29 : fX12_is u 29 = some 0 := is_n I V (kw := 29) (by omega) (fun q => cr (.inl q))
        have i30 : fX12_is u 30 = some 0 := is_n I V (kw := 30) (by omega) (fun q => cr (.inr (.inl q)))
        have i31 : fX12_is u 31 = some 0 := is_n I V (kw := 31) (by omega) (fun q => cr (.inr (.inr q)))
        obtain ⟨h1, u1, r1, e1, e2, Q1, W1, o1⟩ := want_v I V F (k := 27) (by omega) (by omega) (by omega)
        have e1' : fX4_expect h 23 307 = some (h1, r1) := e1
        have e2' : fX12_must u 27 = some u1 := e2
        have I1 := I.q Q1 W1
        have S1 := I1.sx
        have hM : fX12_tellLaw_199 (f3 + 1 + 1) u (nI (c.nl - 1)) = some u1 := by
          show fX12_tellLaw_199F (fX12_tellLaw_199 (f3 + 1)) u (nI (c.nl - 1)) = _
          unfold fX12_tellLaw_199F
          rw [i29, oB_v, if_pos rfl, i30, oB_v, if_pos rfl, i31, oB_v, if_pos rfl, e2', oB_v]
        have hC : fX4_tell h 23 = some (sI h1 519 23 0) := by
          unfold fX4_tell fX4_tell_0
          rw [oC_d S.t23, if_neg n9, e1', oB2_v, oC_d S1.t23, oL_v]
        rw [hC, oB_v, hM, oB_v]
        have I2 : PI (sI h1 519 23 0) u1 G z L n D := I1.cq (CD.s23 S1 I1.kr.nrG 519 0)
        have i2 : ∀ f b, ¬ (f = 519 ∧ b = 23) → hI (sI h1 519 23 0) f b = hI h1 f b := fun f b q => by simp only [z_hI_sI, z_hL_sI, z_hR_sI, z_hA_sI, z_hB_sI, z_hC_sI, z_hT_sI, z_hN_sI, z_hZ_sI, z_hI_sL, z_hL_sL, z_hR_sL, z_hA_sL, z_hB_sL, z_hC_sL, z_hT_sL, z_hN_sL, z_hZ_sL, z_hI_sR, z_hL_sR, z_hR_sR, z_hA_sR, z_hB_sR, z_hC_sR, z_hT_sR, z_hN_sR, z_hZ_sR, z_hI_sA, z_hL_sA, z_hR_sA, z_hA_sA, z_hB_sA, z_hC_sA, z_hT_sA, z_hN_sA, z_hZ_sA, z_hI_sB, z_hL_sB, z_hR_sB, z_hA_sB, z_hB_sB, z_hC_sB, z_hT_sB, z_hN_sB, z_hZ_sB, z_hI_sC, z_hL_sC, z_hR_sC, z_hA_sC, z_hB_sC, z_hC_sC, z_hT_sC, z_hN_sC, z_hZ_sC, z_hI_sY, z_hL_sY, z_hR_sY, z_hA_sY, z_hB_sY, z_hC_sY, z_hT_sY, z_hN_sY, z_hZ_sY, z_hI_nO, z_hL_nO, z_hR_nO, z_hA_nO, z_hB_nO, z_hC_nO, z_hT_nO, z_hN_nO, z_hZ_nO, z_hI_nA, z_hL_nA, z_hR_nA, z_hA_nA, z_hB_nA, z_hC_nA, z_hT_nA, z_hN_nA, z_hZ_nA]; rw [if_neg q]
        rcases o1 with ⟨_, _, c1, V1, F1, M1⟩ | ⟨_, X1⟩
        · have hD : (D t).1 ≤ (D (t + 1)).1 := I.ts.le (by omega) V1.lt
          have R1 := R.q (t' := t + 1) S F Q1 W1 M1 (by omega) hD
          have V2 : Liv (sI h1 519 23 0) u1 D n (t + 1) := ⟨V1.lt, (i2 _ _ (by omega)).trans V1.at_, (i2 _ _ (by omega)).trans V1.kd, (i2 _ _ (by omega)).trans V1.pl, V1.vl, (i2 _ _ (by omega)).trans V1.st, V1.f0, V1.t0⟩
          have F2 : FL (sI h1 519 23 0) u1 := F1.fr (i2 _ _ (by omega)) (i2 _ _ (by omega)) rfl rfl
          exact EO.q (h1 := sI h1 519 23 0) Q1.N (ih.1 (sI h1 519 23 0) u1 G c (t + 1) (i + 1) (g1 + 1) (f1 + 1) (by omega) I2 V2 F2 (R1.sg S1 F1 (.inr rfl) 0) (by simp only [z_hI_sI, z_hL_sI, z_hR_sI, z_hA_sI, z_hB_sI, z_hC_sI, z_hT_sI, z_hN_sI, z_hZ_sI, z_hI_sL, z_hL_sL, z_hR_sL, z_hA_sL, z_hB_sL, z_hC_sL, z_hT_sL, z_hN_sL, z_hZ_sL, z_hI_sR, z_hL_sR, z_hR_sR, z_hA_sR, z_hB_sR, z_hC_sR, z_hT_sR, z_hN_sR, z_hZ_sR, z_hI_sA, z_hL_sA, z_hR_sA, z_hA_sA, z_hB_sA, z_hC_sA, z_hT_sA, z_hN_sA, z_hZ_sA, z_hI_sB, z_hL_sB, z_hR_sB, z_hA_sB, z_hB_sB, z_hC_sB, z_hT_sB, z_hN_sB, z_hZ_sB, z_hI_sC, z_hL_sC, z_hR_sC, z_hA_sC, z_hB_sC, z_hC_sC, z_hT_sC, z_hN_sC, z_hZ_sC, z_hI_sY, z_hL_sY, z_hR_sY, z_hA_sY, z_hB_sY, z_hC_sY, z_hT_sY, z_hN_sY, z_hZ_sY, z_hI_nO, z_hL_nO, z_hR_nO, z_hA_nO, z_hB_nO, z_hC_nO, z_hT_nO, z_hN_nO, z_hZ_nO, z_hI_nA, z_hL_nA, z_hR_nA, z_hA_nA, z_hB_nA, z_hC_nA, z_hT_nA, z_hN_nA, z_hZ_nA, if_true, if_false, and_false, false_and, and_true, true_and, and_self, decide_true, decide_false, reduceCtorEq, not_false_eq_true, not_true_eq_false, Nat.reduceEqDiff, Nat.reduceAdd, Nat.reduceMul, Nat.add_zero, Nat.zero_add]) (by omega) (by omega) (by omega)) (Nat.le_refl _) (Nat.le_refl _)
        · have X2 : Ded (sI h1 519 23 0) u1 := ⟨by rw [i2 _ _ (by omega)]; exact X1.st, by rw [i2 _ _ (by omega)]; exact X1.fa, by rw [i2 _ _ (by omega)]; exact X1.pl, by rw [i2 _ _ (by omega)]; exact X1.kd, X1.tt⟩
          exact EO.q (h1 := sI h1 519 23 0) Q1.N (EO.dead I2 X2 _ _ g1 f1 _) (Nat.le_refl _) (Nat.le_refl _)
end MN
