theorem beginSumC {h : PH} {G : Gh} (S : SX h G) (J : G.jj = true) : ∃ h', fX6_beginSum h (G.jd 1) = some h' ∧ CH G pTk h h' ∧ CKs h' G sS := by
  have v1 : vj 1 := by unfold vj; omega
  have v5 : vj 5 := by unfold vj; omega
  have v6 : vj 6 := by unfold vj; omega
  have b1 := become_v (h := h) (a := G.jd 5) (n := 0) (d := 1) (S.jt5 J) (okND_q okQ_01)
  have c1 : CH G (fun j => j = 5) h (hbe h (G.jd 5) 0 1) := (CH.refl G (fun j => j = 5) h).be v5 rfl
  have S1 := c1.sx S
  have b2 := become_v (h := hbe h (G.jd 5) 0 1) (a := G.jd 6) (n := 1) (d := 1) (S1.jt6 J) (okND_q okQ_11)
  have c2 : CH G (fun j => j = 6) (hbe h (G.jd 5) 0 1) (hbe (hbe h (G.jd 5) 0 1) (G.jd 6) 1 1) := (CH.refl G (fun j => j = 6) _).be v6 rfl
  have S2 := c2.sx S1
  have f5 : FrV (hbe h (G.jd 5) 0 1) (G.jd 5) (some (0, 1)) := by
    have := FrV.be (h := h) (a := G.jd 5) (n := 0) (d := 1)
    rw [low_self okQ_01] at this; exact this
  have f6 : FrV (hbe (hbe h (G.jd 5) 0 1) (G.jd 6) 1 1) (G.jd 6) (some (1, 1)) := by
    have := FrV.be (h := hbe h (G.jd 5) 0 1) (a := G.jd 6) (n := 1) (d := 1)
    rw [low_self okQ_11] at this; exact this
  have f5' := f5.ch c2 S1 J v5 (by decide)
  have e : fX6_beginSum h (G.jd 1) = some (sI (sI (hbe (hbe h (G.jd 5) 0 1) (G.jd 6) 1 1) 776 (G.jd 1) 0) 777 (G.jd 1) 0) := by
    rw [fX6_beginSum, fX6_beginSum_0, oC_d (S.jt1 J), S.jr772 J, oN_v, oC_d (S.jt5 J), b1, oB_v, oC_d (S1.jt1 J), S1.jr773 J, oN_v, oC_d (S1.jt6 J), b2, oB_v, oC_d (S2.jt1 J), oL_v, oL_v]
  have cc : CH G pTk h (hbe (hbe h (G.jd 5) 0 1) (G.jd 6) 1 1) := (c1.mono fun i e => by unfold pTk; omega).trans (c2.mono fun i e => by unfold pTk; omega)
  generalize hbe (hbe h (G.jd 5) 0 1) (G.jd 6) 1 1 = w at cc f5' f6 S2 e
  have c3 : CH G (fun j => j = 1) w (sI (sI w 776 (G.jd 1) 0) 777 (G.jd 1) 0) := ((CH.refl G (fun j => j = 1) w).sI v1 rfl).sI v1 rfl
  refine ⟨_, e, cc.trans (c3.mono fun i e => by unfold pTk; omega), f5'.ch c3 S2 J v5 (by decide), f6.ch c3 S2 J v6 (by decide), ?_, ?_⟩
  · show hI _ 776 _ = 0
    simp only [z_hI_sI, z_hL_sI, z_hR_sI, z_hA_sI, z_hB_sI, z_hC_sI, z_hT_sI, z_hN_sI, z_hZ_sI, z_hI_sL, z_hL_sL, z_hR_sL, z_hA_sL, z_hB_sL, z_hC_sL, z_hT_sL, z_hN_sL, z_hZ_sL, z_hI_sR, z_hL_sR, z_hR_sR, z_hA_sR, z_hB_sR, z_hC_sR, z_hT_sR, z_hN_sR, z_hZ_sR, z_hI_sA, z_hL_sA, z_hR_sA, z_hA_sA, z_hB_sA, z_hC_sA, z_hT_sA, z_hN_sA, z_hZ_sA, z_hI_sB, z_hL_sB, z_hR_sB, z_hA_sB, z_hB_sB, z_hC_sB, z_hT_sB, z_hN_sB, z_hZ_sB, z_hI_sC, z_hL_sC, z_hR_sC, z_hA_sC, z_hB_sC, z_hC_sC, z_hT_sC, z_hN_sC, z_hZ_sC, z_hI_sY, z_hL_sY, z_hR_sY, z_hA_sY, z_hB_sY, z_hC_sY, z_hT_sY, z_hN_sY, z_hZ_sY, z_hI_nO, z_hL_nO, z_hR_nO, z_hA_nO, z_hB_nO, z_hC_nO, z_hT_nO, z_hN_nO, z_hZ_nO, z_hI_nA, z_hL_nA, z_hR_nA, z_hA_nA, z_hB_nA, z_hC_nA, z_hT_nA, z_hN_nA, z_hZ_nA, if_true, if_false, and_false, false_and, and_true, true_and, and_self, decide_true, decide_false, reduceCtorEq, not_false_eq_true, not_true_eq_false, Nat.reduceEqDiff, Nat.reduceAdd, Nat.reduceMul, Nat.add_zero, Nat.zero_add]
  · show hI _ 777 _ = 0
    simp only [z_hI_sI, z_hL_sI, z_hR_sI, z_hA_sI, z_hB_sI, z_hC_sI, z_hT_sI, z_hN_sI, z_hZ_sI, z_hI_sL, z_hL_sL, z_hR_sL, z_hA_sL, z_hB_sL, z_hC_sL, z_hT_sL, z_hN_sL, z_hZ_sL, z_hI_sR, z_hL_sR, z_hR_sR, z_hA_sR, z_hB_sR, z_hC_sR, z_hT_sR, z_hN_sR, z_hZ_sR, z_hI_sA, z_hL_sA, z_hR_sA, z_hA_sA, z_hB_sA, z_hC_sA, z_hT_sA, z_hN_sA, z_hZ_sA, z_hI_sB, z_hL_sB, z_hR_sB, z_hA_sB, z_hB_sB, z_hC_sB, z_hT_sB, z_hN_sB, z_hZ_sB, z_hI_sC, z_hL_sC, z_hR_sC, z_hA_sC, z_hB_sC, z_hC_sC, z_hT_sC, z_hN_sC, z_hZ_sC, z_hI_sY, z_hL_sY, z_hR_sY, z_hA_sY, z_hB_sY, z_hC_sY, z_hT_sY, z_hN_sY, z_hZ_sY, z_hI_nO, z_hL_nO, z_hR_nO, z_hA_nO, z_hB_nO, z_hC_nO, z_hT_nO, z_hN_nO, z_hZ_nO, z_hI_nA, z_hL_nA, z_hR_nA, z_hA_nA, z_hB_nA, z_hC_nA, z_hT_nA, z_hN_nA, z_hZ_nA, if_true, if_false, and_false, false_and, and_true, true_and, and_self, decide_true, decide_false, reduceCtorEq, not_false_eq_true, not_true_eq_false, Nat.reduceEqDiff, Nat.reduceAdd, Nat.reduceMul, Nat.add_zero, Nat.zero_add]
theorem fin70 {h : PH} {G : Gh} {t : Qq} {fl : Option Qq} (S : SX h G) (J : G.jj = true) (f5 : FrV h (G.jd 5) (some t)) (k : capC h G 8 777 fl) : ∃ h', fX6_finishSum_70 h (G.jd 1) = some (h', some (G.jd 5)) ∧ CH G (fun i => i = 5) h h' ∧ FrV h' (G.jd 5) (some (flrT t fl)) := by
  have v5 : vj 5 := by unfold vj; omega
  have v8 : vj 8 := by unfold vj; omega
  have e112 : ∀ w, CH G (fun i => i = 5) h w → fX6_finishSum_112 w (G.jd 1) = some (w, some (G.jd 5)) := fun w c => by
    have Sw := c.sx S
    rw [fX6_finishSum_112, oC_d (Sw.jt1 J), Sw.jr772 J]
  rw [fX6_finishSum_70, oC_d (S.jt1 J), S.jr772 J, oN_v, oC_d (S.jt5 J), f5.1, if_pos rfl]
  cases fl with
  | none =>
    have k0 : hI h 777 (G.jd 1) = 0 := k
    rw [if_pos k0, e112 h (CH.refl G _ h)]
    exact ⟨h, rfl, CH.refl G _ h, f5⟩
  | some q =>
    rw [if_neg (by rw [k.1]; decide), S.jr775 J, against_v (S.jt5 J) (S.jt8 J) f5 k.2, oB_v]
    unfold flrT
    simp only
    by_cases d : 0 ≤ cmpQ t q
    · rw [if_pos d, if_pos d, e112 h (CH.refl G _ h)]
      exact ⟨h, rfl, CH.refl G _ h, f5⟩
    · obtain ⟨h1, a1, a2, a3⟩ := fcopy_v (S.jt5 J) (S.jt8 J) (jd_ne S J v8 v5 (by decide)) k.2
      have c1 := cpCH v5 a3
      rw [if_neg d, if_neg d, a1, oB_v, e112 h1 c1]
      exact ⟨h1, rfl, c1, a2⟩
theorem finishC {h : PH} {G : Gh} {s : Option SSm} (S : SX h G) (J : G.jj = true) (K : CKs h G s) (os : okSm s) : ∃ h', fX6_finishSum h (G.jd 1) = some (h', some (G.jd 5)) ∧ CH G (fun i => i = 5) h h' ∧ FrV h' (G.jd 5) (finS s) := by
  have v1 : vj 1 := by unfold vj; omega
  have v5 : vj 5 := by unfold vj; omega
  have v6 : vj 6 := by unfold vj; omega
  have v7 : vj 7 := by unfold vj; omega
  have v8 : vj 8 := by unfold vj; omega
  have argv : ∀ {v : Option Qq}, FrV h (G.jd 6) v → Arg (hL h 384 (G.jd 6)) (hL h 385 (G.jd 6)) (hI h 386 (G.jd 6)) v := fun {v} k => by cases v <;> exact k
  have bad : ∀ h1, CH G (fun i => i = 5) h h1 → FrV h1 (G.jd 5) none → (oC (decide (hT h1 (G.jd 1) = 7)) (oN (hR h1 772 (G.jd 1)) (fun a20 => oC (decide (hT h1 a20 = 4)) (if (hI h1 386 a20) = 0 then (if (hI h1 776 (G.jd 1)) = 0 then (fX6_finishSum_70 h1 (G.jd 1)) else (oB (fX3_against h1 a20 (hR h1 774 (G.jd 1))) (fun r25 => if r25 ≤ 0 then (fX6_finishSum_70 h1 (G.jd 1)) else (oB (fX3_copy h1 a20 (hR h1 774 (G.jd 1))) (fun h28 => fX6_finishSum_70 h28 (G.jd 1)))))) else (fX6_finishSum_70 h1 (G.jd 1)))))) = some (h1, some (G.jd 5)) := fun h1 c1 f => by
    have S1 := c1.sx S
    have f1 : hI h1 386 (G.jd 5) = 1 := f
    rw [oC_d (S1.jt1 J), S1.jr772 J, oN_v, oC_d (S1.jt5 J), f1, if_neg (by decide), fX6_finishSum_70, oC_d (S1.jt1 J), S1.jr772 J, oN_v, oC_d (S1.jt5 J), f1, if_neg (by decide), fX6_finishSum_112, oC_d (S1.jt1 J), S1.jr772 J]
  rw [fX6_finishSum, fX6_finishSum_0, oC_d (S.jt1 J), S.jr773 J, oN_v, oC_d (S.jt6 J), S.jr772 J, oN_v, oC_d (S.jt5 J)]
  rcases s with _ | ⟨a, m, c, fl⟩
  · obtain ⟨vs, vp, k1, k2, k3, k4, k5⟩ := K
    obtain ⟨h1, a1, a2, a3⟩ := multiply_v (S.jt5 J) k1 (argv k3) k2 k4
    have c1 := opCH v5 a3
    have f5 : FrV h1 (G.jd 5) none := by
      rcases k5 with k5 | k5
      · rw [k5] at a2; exact a2
      · rw [k5] at a2
        cases vs <;> exact a2
    rw [a1, oB_v, bad h1 c1 f5]
    exact ⟨h1, rfl, c1, f5⟩
  · obtain ⟨k1, k2, k3, k4⟩ := K
    obtain ⟨o1, o2, o3, o4⟩ := os _ rfl
    obtain ⟨h1, a1, a2, a3⟩ := multiply_v (S.jt5 J) k1 (argv k2) (okV_some o1) (okV_some o2)
    have c1 := opCH v5 a3
    have S1 := c1.sx S
    have a2' : FrV h1 (G.jd 5) (fmul a m) := a2
    rw [a1, oB_v]
    unfold finS
    simp only
    cases hm : fmul a m with
    | none =>
      rw [hm] at a2'
      rw [bad h1 c1 a2', Option.map_none]
      exact ⟨h1, rfl, c1, a2'⟩
    | some t =>
      rw [hm] at a2'
      have p1 := (c1.own S J v1 (by decide)).1
      have p7 := c1.own S J v7 (by decide)
      have p8 := c1.own S J v8 (by decide)
      have k3' : capC h1 G 7 776 c := k3.ch (p1 _) p7.1 p7.2.1
      have k4' : capC h1 G 8 777 fl := k4.ch (p1 _) p8.1 p8.2.1
      rw [Option.map_some, oC_d (S1.jt1 J), S1.jr772 J, oN_v, oC_d (S1.jt5 J), a2'.1, if_pos rfl]
      cases c with
      | none =>
        have k0 : hI h1 776 (G.jd 1) = 0 := k3'
        obtain ⟨h2, b1, b2, b3⟩ := fin70 S1 J a2' k4'
        rw [if_pos k0, b1]
        exact ⟨h2, rfl, c1.trans b2, b3⟩
      | some q =>
        rw [if_neg (by rw [k3'.1]; decide), S1.jr774 J, against_v (S1.jt5 J) (S1.jt7 J) a2' k3'.2, oB_v]
        unfold capT
        simp only
        by_cases d : cmpQ t q ≤ 0
        · obtain ⟨h2, b1, b2, b3⟩ := fin70 S1 J a2' k4'
          rw [if_pos d, if_pos d, b1]
          exact ⟨h2, rfl, c1.trans b2, b3⟩
        · obtain ⟨h2, e1, e2, e3⟩ := fcopy_v (S1.jt5 J) (S1.jt7 J) (jd_ne S1 J v7 v5 (by decide)) k3'.2
          have c2 := cpCH v5 e3
          have S2 := c2.sx S1
          have r1 := (c2.own S1 J v1 (by decide)).1
          have r8 := c2.own S1 J v8 (by decide)
          obtain ⟨h3, b1, b2, b3⟩ := fin70 S2 J e2 (k4'.ch (r1 _) r8.1 r8.2.1)
          rw [if_neg d, if_neg d, e1, oB_v, b1]
          exact ⟨h3, rfl, (c1.trans c2).trans b2, b3⟩
