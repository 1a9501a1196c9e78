theorem g67 {h : PH} {G : Gh} {z : Sz} {r v : Nat} {s0 : Int32} (zo : z.ok) (J : G.jj = true) (S : SX h G) (hr : r < G.nr) (e26 : hI h 1026 (G.rl r) = nI v) (hv : v ≤ 3) (m2 : hI h 642 (G.jd 0) = nI z.np) : ∀ m j f, j + m = v → fX5_gather_67 (f + (m + 1)) h (G.jd 0) s0 (some (G.rl r)) (nI (z.np ^ j)) (nI j) = fX5_gather_95 FU h (G.jd 0) s0 (some (G.rl r)) (nI (z.np ^ v)) (nI 0)
  | 0, j, f, e => by
    have ej : j = v := e
    subst ej
    have ul : fX5_gather_67 (f + (0 + 1)) h (G.jd 0) s0 (some (G.rl r)) (nI (z.np ^ j)) (nI j) = fX5_gather_67F (fX5_gather_67 f) h (G.jd 0) s0 (some (G.rl r)) (nI (z.np ^ j)) (nI j) := rfl
    rw [ul, fX5_gather_67F, oN_v, oC_d (S.rlT r hr), e26, if_pos (Int32.le_refl _)]
    rfl
  | m + 1, j, f, e => by
    have ul : fX5_gather_67 (f + (m + 1 + 1)) h (G.jd 0) s0 (some (G.rl r)) (nI (z.np ^ j)) (nI j) = fX5_gather_67F (fX5_gather_67 (f + (m + 1))) h (G.jd 0) s0 (some (G.rl r)) (nI (z.np ^ j)) (nI j) := rfl
    rw [ul, fX5_gather_67F, oN_v, oC_d (S.rlT r hr), e26, if_neg (nI_ge (by omega) (by omega)), oC_d (S.jt0 J), m2, nI_mul, oL_v, oL_v, show nI j + 1 = nI (j + 1) from nI_add j 1, show z.np ^ j * z.np = z.np ^ (j + 1) from rfl]
    exact g67 zo J S hr e26 hv m2 m (j + 1) f (by omega)
theorem hoL_skip {u0 : MS} {nu : Nat → Int32} {E1 E2 : Nat → List Tok} {d1 d2 : Int32} {np r : Nat} (h5 : np ^ vN u0 r ≤ 125) (hf : ¬ inf u0 d1 d2 r) : hoL u0 nu E1 E2 d1 d2 np (dn np (vN u0) (r + 1) 0) = hoL u0 nu E1 E2 d1 d2 np (dn np (vN u0) r 0) := by
  rw [dn_zero, dn_zero, insL_succ]
  unfold hoL
  rw [List.filter_append]
  have nil : ((List.range (np ^ vN u0 r)).map fun b => 125 * r + b).filter (cd (hox u0 nu E1 E2 d1 d2 np)) = [] := by
    rw [List.filter_eq_nil_iff]
    intro x hx hc
    obtain ⟨b, hb, e⟩ := List.mem_map.mp hx
    have hb' := List.mem_range.mp hb
    have hh := (cd_t.mp hc).1
    rw [← e, (inst_n (r := r) (b := b) (by omega)).1] at hh
    exact hf hh
  rw [nil, List.append_nil]
theorem gather50 {h : PH} {G : Gh} {z : Sz} {u0 : MS} {nu : Nat → Int32} {E1 E2 E3 : Nat → List Tok} {d1 d2 : Int32} {r : Nat} (zo : z.ok) (M0 : SzM u0 z) (hc : z.pc < 99000) (hr : r < z.nr) (hf : inf u0 d1 d2 r) (W : CEv h G z u0 nu E1 E2 E3) (m2 : hI h 642 (G.jd 0) = nI z.np) (m34 : hI h 643 (G.jd 0) = nI z.nw ∧ hI h 644 (G.jd 0) = nI z.ns) (l : LSt h G (hoL u0 nu E1 E2 d1 d2 z.np (dn z.np (vN u0) r 0)) (hdx u0 z.np)) (sm' : ∃ m, hI h 651 (G.jd 0) = nI m ∧ m < 2 ^ 30 ∧ ∀ t, Nat.testBit m t = true ↔ t < r + 1 ∧ inf u0 d1 d2 t ∧ mA u0 40 t = 0) (bm : ∀ s, s < r → inf u0 d1 d2 s → ∃ m, hA h (G.jd 14) s = nI m ∧ m < 2 ^ 30 ∧ ∀ t, Nat.testBit m t = true ↔ t < z.nr ∧ hix u0 (125 * t) (125 * s)) : ∃ h' G' ci cj, fX5_gather_50 h (G.jd 0) (nI r) (some (G.rl r)) = some (h', ci, cj) ∧ GSt h' G' z u0 nu E1 E2 E3 d1 d2 (r + 1) (r + 1) 0 ∧ GJ pGa h h' G G' ∧ ci + jp3 h G ≤ jp3 h' G' ∧ cj + 3 * jp3 h G ≤ 3 * jp3 h' G' := by
  have S := W.s
  have J := W.j
  have nr := zo.2.2.2.2.1
  have kn := W.k.nrG
  have v14 : vj 14 := by unfold vj; omega
  have v0 : vj 0 := by unfold vj; omega
  have v15 : vj 15 := by unfold vj; omega
  have v16 : vj 16 := by unfold vj; omega
  have v17 : vj 17 := by unfold vj; omega
  obtain ⟨m, b1, b2, b3⟩ := bettersC W M0 zo hr
  have c1 : CH G (fun i => i = 14) h (sA h (G.jd 14) r (nI m)) := (CH.refl G (fun i => i = 14) h).sA v14 rfl
  have W1 := W.ch2 c1 (by decide)
  have o0 := (c1.own S J v0 (by decide)).1
  have o15 := (c1.own S J v15 (by decide)).2.2.1
  have o16 := (c1.own S J v16 (by decide)).2.2.1
  have o17 := (c1.own S J v17 (by decide)).2.2.1
  have Q : GSt (sA h (G.jd 14) r (nI m)) G z u0 nu E1 E2 E3 d1 d2 (r + 1) r 0 := by
    apply GSt.mk
    · exact W1
    · rw [o0]; exact m2
    · rw [o0, o0]; exact m34
    · apply LSt.mk
      · rw [o0]; exact l.n
      · intro i hi; rw [o15, o16, o17]; exact l.a i hi
      · exact l.le
      · exact l.k1
      · exact l.k2
      · exact l.k3
      · exact l.k4
      · intro i; rw [o17]; exact l.bt i
    · rw [o0]; exact sm'
    · intro s hs hi
      simp only [z_hI_sI, z_hL_sI, z_hR_sI, z_hA_sI, z_hB_sI, z_hC_sI, z_hT_sI, z_hN_sI, z_hZ_sI, z_hI_sL, z_hL_sL, z_hR_sL, z_hA_sL, z_hB_sL, z_hC_sL, z_hT_sL, z_hN_sL, z_hZ_sL, z_hI_sR, z_hL_sR, z_hR_sR, z_hA_sR, z_hB_sR, z_hC_sR, z_hT_sR, z_hN_sR, z_hZ_sR, z_hI_sA, z_hL_sA, z_hR_sA, z_hA_sA, z_hB_sA, z_hC_sA, z_hT_sA, z_hN_sA, z_hZ_sA, z_hI_sB, z_hL_sB, z_hR_sB, z_hA_sB, z_hB_sB, z_hC_sB, z_hT_sB, z_hN_sB, z_hZ_sB, z_hI_sC, z_hL_sC, z_hR_sC, z_hA_sC, z_hB_sC, z_hC_sC, z_hT_sC, z_hN_sC, z_hZ_sC, z_hI_sY, z_hL_sY, z_hR_sY, z_hA_sY, z_hB_sY, z_hC_sY, z_hT_sY, z_hN_sY, z_hZ_sY, z_hI_nO, z_hL_nO, z_hR_nO, z_hA_nO, z_hB_nO, z_hC_nO, z_hT_nO, z_hN_nO, z_hZ_nO, z_hI_nA, z_hL_nA, z_hR_nA, z_hA_nA, z_hB_nA, z_hC_nA, z_hT_nA, z_hN_nA, z_hZ_nA, if_true, if_false, and_false, false_and, and_true, true_and, and_self, decide_true, decide_false, reduceCtorEq, not_false_eq_true, not_true_eq_false, Nat.reduceEqDiff, Nat.reduceAdd, Nat.reduceMul, Nat.add_zero, Nat.zero_add]
      by_cases c : s = r
      · rw [if_pos c, c]; exact ⟨m, rfl, b2, b3⟩
      · rw [if_neg c]; exact bm s (by omega) hi
  obtain ⟨l', kk, n, v, q1, q2, q3, q4, q5, q6, q7, q8, q9, qa, qb, qc, qd, qe, qf⟩ := W1.k.ru r hr
  have ev : vN u0 r = v := by unfold vN; rw [qd, nI_clamp (by omega)]
  have h125 := pow_le zo.1 (show vN u0 r ≤ 3 by omega)
  obtain ⟨f1, hf1⟩ : ∃ f', FU = f' + (v + 1) := ⟨FU - (v + 1), by have : FU = 100000 := rfl; omega⟩
  obtain ⟨f2, hf2⟩ : ∃ f', FU = f' + (z.np ^ vN u0 r + 1) := ⟨FU - (z.np ^ vN u0 r + 1), by have : FU = 100000 := rfl; omega⟩
  have e67 := g67 (s0 := nI r) zo J W1.s (show r < G.nr by omega) qc q5 (by rw [o0]; exact m2) v 0 f1 (by omega)
  obtain ⟨h', G', ci, cj, t1, t2, t3, t4, t5⟩ := g95 zo hc hr hf (z.np ^ vN u0 r) 0 f2 _ G (by omega) Q
  refine ⟨h', G', ci, cj, ?_, t2, (GJ.of (c1.mono fun i e => by unfold pGa; omega)).trans t3, ?_, ?_⟩
  · rw [fX5_gather_50, oC_d (S.jt0 J), b1, oB_v, S.jr650 J, oN_v, oC_d (S.jt14 J), S.jn14 J, oC_t (ix_n (show r < 30 by omega) (by decide)), nI_clamp (show r < 2147483648 by omega), oL_v, hf1, show (1 : Int32) = nI (z.np ^ 0) from rfl, show (0 : Int32) = nI 0 from rfl, e67, ← ev, hf2]
    exact t1
  · exact t4
  · exact t5
theorem gatherC {h : PH} {G : Gh} {z : Sz} {u0 : MS} {nu : Nat → Int32} {E1 E2 E3 : Nat → List Tok} {d1 d2 : Int32} {r : Nat} (zo : z.ok) (M0 : SzM u0 z) (hc : z.pc < 99000) (hr : r < z.nr) (Q : GSt h G z u0 nu E1 E2 E3 d1 d2 r r 0) : ∃ h' G' ci cj, fX5_gather h (G.jd 0) (nI r) d1 d2 = some (h', ci, cj) ∧ GSt h' G' z u0 nu E1 E2 E3 d1 d2 (r + 1) (r + 1) 0 ∧ GJ pGa h h' G G' ∧ ci + jp3 h G ≤ jp3 h' G' ∧ cj + 3 * jp3 h G ≤ 3 * jp3 h' G' := by
  have W := Q.W
  have S := W.s
  have J := W.j
  have nr := zo.2.2.2.2.1
  have kn := W.k.nrG
  have v0 : vj 0 := by unfold vj; omega
  have v14 : vj 14 := by unfold vj; omega
  have v15 : vj 15 := by unfold vj; omega
  have v16 : vj 16 := by unfold vj; omega
  have v17 : vj 17 := by unfold vj; omega
  obtain ⟨x, x1, x2⟩ := forceC (d1 := d1) (d2 := d2) S W.c W.k zo hr
  have ra : fX1_ruleAt h 5 (nI r) = some (some (G.rl r)) := ruleAt_v S W.c.2.2.2.2.1 kn hr
  obtain ⟨m42, v3, m41, c6⟩ := ruV W.k hr
  have h125 := pow_le zo.1 v3
  rw [fX5_gather, fX5_gather_0, oC_d (S.jt0 J), S.jr640 J, oN_v, oC_d S.t5, ra, oB_v, if_neg (by simp), x1, oB_v]
  rcases x2.cases with ⟨_, g2, g3⟩ | ⟨g1, g2⟩
  · obtain ⟨l', kk, n, v, q1, q2, q3, q4, q5, q6, q7, q8, q9, qa, qb, qc, qd, qe, qf⟩ := W.k.ru r hr
    obtain ⟨m, w1, w2, w3⟩ := Q.sm'
    rw [if_neg g2, oN_v, oC_d (S.rlT r (by omega)), q8, ← q9]
    by_cases c0 : mA u0 40 r = 0
    · have c1 : CH G (fun i => i = 0) h (sI h 651 (G.jd 0) (nI (m ||| 2 ^ r))) := (CH.refl G (fun i => i = 0) h).sI v0 rfl
      have o14 := (c1.own S J v14 (by decide)).2.2.1
      have o15 := (c1.own S J v15 (by decide)).2.2.1
      have o16 := (c1.own S J v16 (by decide)).2.2.1
      have o17 := (c1.own S J v17 (by decide)).2.2.1
      have i655 : ∀ f, f ≠ 651 → hI (sI h 651 (G.jd 0) (nI (m ||| 2 ^ r))) f (G.jd 0) = hI h f (G.jd 0) := fun f hf => by
        simp only [z_hI_sI, z_hL_sI, z_hR_sI, z_hA_sI, z_hB_sI, z_hC_sI, z_hT_sI, z_hN_sI, z_hZ_sI, z_hI_sL, z_hL_sL, z_hR_sL, z_hA_sL, z_hB_sL, z_hC_sL, z_hT_sL, z_hN_sL, z_hZ_sL, z_hI_sR, z_hL_sR, z_hR_sR, z_hA_sR, z_hB_sR, z_hC_sR, z_hT_sR, z_hN_sR, z_hZ_sR, z_hI_sA, z_hL_sA, z_hR_sA, z_hA_sA, z_hB_sA, z_hC_sA, z_hT_sA, z_hN_sA, z_hZ_sA, z_hI_sB, z_hL_sB, z_hR_sB, z_hA_sB, z_hB_sB, z_hC_sB, z_hT_sB, z_hN_sB, z_hZ_sB, z_hI_sC, z_hL_sC, z_hR_sC, z_hA_sC, z_hB_sC, z_hC_sC, z_hT_sC, z_hN_sC, z_hZ_sC, z_hI_sY, z_hL_sY, z_hR_sY, z_hA_sY, z_hB_sY, z_hC_sY, z_hT_sY, z_hN_sY, z_hZ_sY, z_hI_nO, z_hL_nO, z_hR_nO, z_hA_nO, z_hB_nO, z_hC_nO, z_hT_nO, z_hN_nO, z_hZ_nO, z_hI_nA, z_hL_nA, z_hR_nA, z_hA_nA, z_hB_nA, z_hC_nA, z_hT_nA, z_hN_nA, z_hZ_nA]; rw [if_neg (fun e => hf e.1)]
      obtain ⟨h', G', ci, cj, t1, t2, t3, t4, t5⟩ := gather50 zo M0 hc hr g3 (W.ch2 c1 (by decide)) (by rw [i655 642 (by decide)]; exact Q.m2) (by rw [i655 643 (by decide), i655 644 (by decide)]; exact Q.m34) (LSt.mk (by rw [i655 655 (by decide)]; exact Q.l.n) (fun i hi => by rw [o15, o16, o17]; exact Q.l.a i hi) Q.l.le Q.l.k1 Q.l.k2 Q.l.k3 Q.l.k4 (fun i => by rw [o17]; exact Q.l.bt i)) ⟨m ||| 2 ^ r, by simp only [z_hI_sI, z_hL_sI, z_hR_sI, z_hA_sI, z_hB_sI, z_hC_sI, z_hT_sI, z_hN_sI, z_hZ_sI, z_hI_sL, z_hL_sL, z_hR_sL, z_hA_sL, z_hB_sL, z_hC_sL, z_hT_sL, z_hN_sL, z_hZ_sL, z_hI_sR, z_hL_sR, z_hR_sR, z_hA_sR, z_hB_sR, z_hC_sR, z_hT_sR, z_hN_sR, z_hZ_sR, z_hI_sA, z_hL_sA, z_hR_sA, z_hA_sA, z_hB_sA, z_hC_sA, z_hT_sA, z_hN_sA, z_hZ_sA, z_hI_sB, z_hL_sB, z_hR_sB, z_hA_sB, z_hB_sB, z_hC_sB, z_hT_sB, z_hN_sB, z_hZ_sB, z_hI_sC, z_hL_sC, z_hR_sC, z_hA_sC, z_hB_sC, z_hC_sC, z_hT_sC, z_hN_sC, z_hZ_sC, z_hI_sY, z_hL_sY, z_hR_sY, z_hA_sY, z_hB_sY, z_hC_sY, z_hT_sY, z_hN_sY, z_hZ_sY, z_hI_nO, z_hL_nO, z_hR_nO, z_hA_nO, z_hB_nO, z_hC_nO, z_hT_nO, z_hN_nO, z_hZ_nO, z_hI_nA, z_hL_nA, z_hR_nA, z_hA_nA, z_hB_nA, z_hC_nA, z_hT_nA, z_hN_nA, z_hZ_nA, if_true, if_false, and_false, false_and, and_true, true_and, and_self, decide_true, decide_false, reduceCtorEq, not_false_eq_true, not_true_eq_false, Nat.reduceEqDiff, Nat.reduceAdd, Nat.reduceMul, Nat.add_zero, Nat.zero_add], or_lt2 w2 (by omega), fun t => or_bit.trans ⟨fun a => by
          rcases a with a | a
          · have := (w3 t).mp a
            exact ⟨by omega, this.2⟩
          · rw [a]; exact ⟨by omega, g3, c0⟩, fun a => by
          by_cases c : t = r
          · exact .inr c
          · exact .inl ((w3 t).mpr ⟨by omega, a.2⟩)⟩⟩ (fun s hs hi => by rw [o14]; exact Q.bm s hs hi)
      refine ⟨h', G', ci, cj, ?_, t2, (GJ.of (c1.mono fun i e => by unfold pGa; omega)).trans t3, t4, t5⟩
      rw [if_pos c0, w1, nI_shl1 r (by omega), nI_or (lt30 w2) (lt30 (Nat.pow_lt_pow_right (by decide) (show r < 30 by omega))), oL_v]
      exact t1
    · obtain ⟨h', G', ci, cj, t1, t2, t3, t4, t5⟩ := gather50 zo M0 hc hr g3 W Q.m2 Q.m34 Q.l ⟨m, w1, w2, fun t => (w3 t).trans ⟨fun a => ⟨by omega, a.2⟩, fun a => by
          by_cases c : t = r
          · rw [c] at a; exact absurd a.2.2 c0
          · exact ⟨by omega, a.2⟩⟩⟩ Q.bm
      exact ⟨h', G', ci, cj, by rw [if_neg c0]; exact t1, t2, t3, t4, t5⟩
  · rw [if_pos g1]
    refine ⟨h, G, 0, 0, rfl, GSt.mk W Q.m2 Q.m34 ?_ ?_ ?_, GJ.of (CH.refl G _ h), by omega, by omega⟩
    · rw [hoL_skip h125 g2]; exact Q.l
    · obtain ⟨m, w1, w2, w3⟩ := Q.sm'
      refine ⟨m, w1, w2, fun t => (w3 t).trans ⟨fun a => ⟨by omega, a.2⟩, fun a => ?_⟩⟩
      by_cases c : t = r
      · rw [c] at a; exact absurd a.2.1 g2
      · exact ⟨by omega, a.2⟩
    · intro s hs hi
      by_cases c : s = r
      · rw [c] at hi; exact absurd hi g2
      · exact Q.bm s (by omega) hi
theorem gatherL {z : Sz} {u0 : MS} {nu : Nat → Int32} {E1 E2 E3 : Nat → List Tok} {d1 d2 : Int32} (zo : z.ok) (M0 : SzM u0 z) (hc : z.pc < 99000) : ∀ m r f h G, r + m = z.nr → GSt h G z u0 nu E1 E2 E3 d1 d2 r r 0 → ∃ h' G' ci cj, (∀ hh rr kc ks, fX11_judge_124 FU h' (some (G'.jd 0)) 1 0 = some (hh, rr, kc, ks) → fX11_judge_89 (f + (m + 1)) h 0 d1 d2 (some (G.jd 0)) (nI r) = some (hh, rr, ci + kc, cj + ks)) ∧ GSt h' G' z u0 nu E1 E2 E3 d1 d2 z.nr z.nr 0 ∧ GJ pGa h h' G G' ∧ ci + jp3 h G ≤ jp3 h' G' ∧ cj + 3 * jp3 h G ≤ 3 * jp3 h' G' := by
  intro m
  induction m with
  | zero =>
    intro r f h G e Q
    have S := Q.W.s
    have er : r = z.nr := e
    subst er
    have ul : fX11_judge_89 (f + (0 + 1)) h 0 d1 d2 (some (G.jd 0)) (nI z.nr) = fX11_judge_89F (fX11_judge_89 f) h 0 d1 d2 (some (G.jd 0)) (nI z.nr) := rfl
    refine ⟨h, G, 0, 0, fun hh rr kc ks hk => ?_, Q, GJ.of (CH.refl G _ h), by omega, by omega⟩
    rw [ul, fX11_judge_89F, oC_d S.t0, S.r1410_0, oN_v, oC_d S.t5, S.r132_5, oN_v, oC_d S.t14, Q.W.c.2.2.2.2.1, if_pos (Int32.le_refl _), hk, Nat.zero_add, Nat.zero_add]
  | succ m ih =>
    intro r f h G e Q
    have S := Q.W.s
    have J := Q.W.j
    have nr := zo.2.2.2.2.1
    have ul : fX11_judge_89 (f + (m + 1 + 1)) h 0 d1 d2 (some (G.jd 0)) (nI r) = fX11_judge_89F (fX11_judge_89 (f + (m + 1))) h 0 d1 d2 (some (G.jd 0)) (nI r) := rfl
    obtain ⟨h1, G1, ci, cj, t1, t2, t3, t4, t5⟩ := gatherC zo M0 hc (show r < z.nr by omega) Q
    obtain ⟨h2, G2, ci', cj', y1, y2, y3, y4, y5⟩ := ih (r + 1) f h1 G1 (by omega) t2
    have j0 : G1.jd 0 = G.jd 0 := by
      rcases t3.jd 0 with k | k
      · exact k
      · exact absurd k.1 (by decide)
    refine ⟨h2, G2, ci + ci', cj + cj', fun hh rr kc ks hk => ?_, y2, t3.trans y3, by omega, by omega⟩
    have y := y1 hh rr kc ks hk
    rw [j0] at y
    rw [ul, fX11_judge_89F, oC_d S.t0, S.r1410_0, oN_v, oC_d S.t5, S.r132_5, oN_v, oC_d S.t14, Q.W.c.2.2.2.2.1, if_neg (nI_ge (by omega) (by omega)), oN_v, oC_d (S.jt0 J), t1, oB3_v, oL_v, show nI r + 1 = nI (r + 1) from nI_add r 1, y, oK4_v, Nat.add_assoc, Nat.add_assoc]
