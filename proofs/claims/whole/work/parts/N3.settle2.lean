def apx (u : MS) (np : Nat) (P : Nat → Prop) (x : Nat) : Prop := ∀ l, ltx u np x l → P l
def blx (u : MS) (np : Nat) (R : Nat → Prop) (x : Nat) : Prop := ∃ l, ltx u np x l ∧ R l
theorem ap_bl {u : MS} {np x : Nat} {h : PH} {G : Gh} (a : apx u np (cPr h G) x) (b : blx u np (cRf h G) x) : False := by
  obtain ⟨l, h1, h2⟩ := b
  have := (a l h1).2
  rw [h2.2] at this
  exact absurd this (by decide)
theorem by_s {s : Int32} (h : s = 2 ∨ s = 1 ∨ s = 0) : Int8.toInt32 (Int32.toInt8 (Int8.toInt32 (Int32.toInt8 s))) = s ∧ isBy s := by
  rcases h with h | h | h <;> subst h <;> unfold isBy <;> decide
theorem seL {G : Gh} {z : Sz} {u0 : MS} {nu : Nat → Int32} {E1 E2 E3 : Nat → List Tok} {d1 d2 : Int32} {L : List Nat} {P R : Nat → Prop} (zo : z.ok) : ∀ m i f h, i + m = L.length → CSt h G z u0 nu E1 E2 E3 d1 d2 L → MkS h G u0 z → cPr h G = P → cRf h G = R → MkI h G L (hdx u0 z.np) (apx u0 z.np P) (blx u0 z.np R) i → (∀ j, j < i → T3 (hA h (G.jd 17) j) (apx u0 z.np P (L.getD j 0)) (blx u0 z.np R (L.getD j 0))) → (∀ j, j < L.length → hA h (G.jd 17) j = 0 ∨ T3 (hA h (G.jd 17) j) (apx u0 z.np P (L.getD j 0)) (blx u0 z.np R (L.getD j 0))) → (∀ q, isBy (hA h (G.jd 17) q)) → ∃ h', fX5_settleInstances_18 (f + (m + 1)) h (G.jd 0) (nI i) = some h' ∧ CH G (fun k => k = 2 ∨ k = 12 ∨ k = 13 ∨ k = 17) h h' ∧ CSt h' G z u0 nu E1 E2 E3 d1 d2 L ∧ MkI h' G L (hdx u0 z.np) (apx u0 z.np P) (blx u0 z.np R) L.length ∧ (∀ j, j < L.length → T3 (hA h' (G.jd 17) j) (apx u0 z.np P (L.getD j 0)) (blx u0 z.np R (L.getD j 0))) ∧ ∀ q, isBy (hA h' (G.jd 17) q) := by
  intro m
  induction m with
  | zero =>
    intro i f h e Q mk eP eR M t1 t2 bt
    have S := Q.W.s
    have J := Q.W.j
    have ei : i = L.length := e
    subst ei
    have ul : fX5_settleInstances_18 (f + (0 + 1)) h (G.jd 0) (nI L.length) = fX5_settleInstances_18F (fX5_settleInstances_18 f) h (G.jd 0) (nI L.length) := rfl
    exact ⟨h, by rw [ul, fX5_settleInstances_18F, oC_d (S.jt0 J), Q.n, if_pos (Int32.le_refl _)], CH.refl G _ h, Q, M, t1, bt⟩
  | succ m ih =>
    intro i f h e Q mk eP eR M t1 t2 bt
    have S := Q.W.s
    have J := Q.W.j
    have k4 := Q.k4
    have le := Q.le
    have hi : i < L.length := by omega
    have v10 : vj 10 := by unfold vj; omega
    have v12 : vj 12 := by unfold vj; omega
    have v13 : vj 13 := by unfold vj; omega
    have v17 : vj 17 := by unfold vj; omega
    have x5 : ix (nI i) (hN h (G.jd 15)) = true := ix_n (show i < hN h (G.jd 15) by omega) (by omega)
    have ci : Int32.toNatClampNeg (nI i) = i := nI_clamp (by omega)
    have ul : fX5_settleInstances_18 (f + (m + 1 + 1)) h (G.jd 0) (nI i) = fX5_settleInstances_18F (fX5_settleInstances_18 (f + (m + 1))) h (G.jd 0) (nI i) := rfl
    have go : ∀ h1, CH G (fun k => k = 2 ∨ k = 17) h h1 → CSt h1 G z u0 nu E1 E2 E3 d1 d2 L → (∀ j, j ≠ i → hA h1 (G.jd 17) j = hA h (G.jd 17) j) → T3 (hA h1 (G.jd 17) i) (apx u0 z.np P (L.getD i 0)) (blx u0 z.np R (L.getD i 0)) → isBy (hA h1 (G.jd 17) i) → ∃ h', fX5_settleInstances_52 (fX5_settleInstances_18 (f + (m + 1))) h1 (G.jd 0) (nI i) = some h' ∧ CH G (fun k => k = 2 ∨ k = 12 ∨ k = 13 ∨ k = 17) h h' ∧ CSt h' G z u0 nu E1 E2 E3 d1 d2 L ∧ MkI h' G L (hdx u0 z.np) (apx u0 z.np P) (blx u0 z.np R) L.length ∧ (∀ j, j < L.length → T3 (hA h' (G.jd 17) j) (apx u0 z.np P (L.getD j 0)) (blx u0 z.np R (L.getD j 0))) ∧ ∀ q, isBy (hA h' (G.jd 17) q) := by
      intro h1 c1 Q1 o17 ti bi
      have S1 := Q1.W.s
      have o10 := (c1.own S J v10 (by decide)).2.2.1
      have o12 := (c1.own S J v12 (by decide)).2.2.1
      have o13 := (c1.own S J v13 (by decide)).2.2.1
      have M1 : MkI h1 G L (hdx u0 z.np) (apx u0 z.np P) (blx u0 z.np R) i := fun p hp => by rw [o12, o13]; exact M p hp
      obtain ⟨h2, a1, a2, a3⟩ := se52 (k18 := fX5_settleInstances_18 (f + (m + 1))) Q1 zo hi ti M1
      have Q2 := Q1.ch a2 (fun i hi => by omega) (Q1.W.ch2 a2 (by decide))
      have p10 := (a2.own S1 J v10 (by decide)).2.2.1
      have p17 := (a2.own S1 J v17 (by decide)).2.2.1
      obtain ⟨h3, b1, b2, b3, b4, b5, b6⟩ := ih (i + 1) f h2 (by omega) Q2 (fun p hp => by rw [p10, o10]; exact mk p hp) (by rw [← eP]; funext p; unfold cPr; rw [p10, o10]) (by rw [← eR]; funext p; unfold cRf; rw [p10, o10]) a3 (fun j hj => by
        rw [p17]
        by_cases c : j = i
        · rw [c]; exact ti
        · rw [o17 j c]; exact t1 j (by omega)) (fun j hj => by
        rw [p17]
        by_cases c : j = i
        · rw [c]; exact .inr ti
        · rw [o17 j c]; exact t2 j hj) (fun q => by
        rw [p17]
        by_cases c : q = i
        · rw [c]; exact bi
        · rw [o17 q c]; exact bt q)
      exact ⟨h3, a1.trans b1, ((c1.mono fun k e => by omega).trans (a2.mono fun k e => by omega)).trans b2, b3, b4, b5, b6⟩
    rw [ul, fX5_settleInstances_18F, oC_d (S.jt0 J), Q.n, if_neg (nI_ge hi (by omega)), S.jr654 J, oN_v, oC_d (S.jt17 J), Q.k2, oC_t x5, ci]
    by_cases c0 : hA h (G.jd 17) i = 0
    · obtain ⟨h1, s, s1, s2, s3, s4⟩ := stateC Q.W zo Q.m2 mk (Q.li i hi)
      have S1 := s3.s
      have o17 := (s2.own S J v17 (by decide)).2.2.1
      have k2' : hN h1 (G.jd 17) = hN h (G.jd 15) := by rw [s2.1.2.2.2.1]; exact Q.k2
      have sv : s = 2 ∨ s = 1 ∨ s = 0 := by rcases s4 with a | a | a <;> simp [a.1]
      obtain ⟨y1, y2⟩ := by_s sv
      have c1 : CH G (fun k => k = 2 ∨ k = 17) h (sA h1 (G.jd 17) i s) := (s2.mono fun k e => .inl e).sA v17 (.inr rfl)
      have c1' : CH G (fun k => k = 17) h1 (sA h1 (G.jd 17) i s) := (CH.refl G (fun k => k = 17) h1).sA v17 rfl
      have Q1 : CSt h1 G z u0 nu E1 E2 E3 d1 d2 L := Q.ch s2 (fun i hi => by omega) s3
      have Q1' : CSt (sA h1 (G.jd 17) i s) G z u0 nu E1 E2 E3 d1 d2 L := Q1.ch c1' (fun i hi => by omega) (s3.ch2 c1' (by decide))
      rw [if_pos c0, S.jr652 J, oN_v, oC_d (S.jt15 J), oC_t x5, Q.a5 i hi, s1, oB2_v, oC_d (S1.jt17 J), k2', oC_t x5, y1, oL_v]
      have vi : hA (sA h1 (G.jd 17) i s) (G.jd 17) i = s := by simp only [z_hI_sI, z_hL_sI, z_hR_sI, z_hA_sI, z_hB_sI, z_hC_sI, z_hT_sI, z_hN_sI, z_hZ_sI, z_hI_sL, z_hL_sL, z_hR_sL, z_hA_sL, z_hB_sL, z_hC_sL, z_hT_sL, z_hN_sL, z_hZ_sL, z_hI_sR, z_hL_sR, z_hR_sR, z_hA_sR, z_hB_sR, z_hC_sR, z_hT_sR, z_hN_sR, z_hZ_sR, z_hI_sA, z_hL_sA, z_hR_sA, z_hA_sA, z_hB_sA, z_hC_sA, z_hT_sA, z_hN_sA, z_hZ_sA, z_hI_sB, z_hL_sB, z_hR_sB, z_hA_sB, z_hB_sB, z_hC_sB, z_hT_sB, z_hN_sB, z_hZ_sB, z_hI_sC, z_hL_sC, z_hR_sC, z_hA_sC, z_hB_sC, z_hC_sC, z_hT_sC, z_hN_sC, z_hZ_sC, z_hI_sY, z_hL_sY, z_hR_sY, z_hA_sY, z_hB_sY, z_hC_sY, z_hT_sY, z_hN_sY, z_hZ_sY, z_hI_nO, z_hL_nO, z_hR_nO, z_hA_nO, z_hB_nO, z_hC_nO, z_hT_nO, z_hN_nO, z_hZ_nO, z_hI_nA, z_hL_nA, z_hR_nA, z_hA_nA, z_hB_nA, z_hC_nA, z_hT_nA, z_hN_nA, z_hZ_nA, if_true, if_false, and_false, false_and, and_true, true_and, and_self, decide_true, decide_false, reduceCtorEq, not_false_eq_true, not_true_eq_false, Nat.reduceEqDiff, Nat.reduceAdd, Nat.reduceMul, Nat.add_zero, Nat.zero_add]
      refine go _ c1 Q1' (fun j hj => by simp only [z_hI_sI, z_hL_sI, z_hR_sI, z_hA_sI, z_hB_sI, z_hC_sI, z_hT_sI, z_hN_sI, z_hZ_sI, z_hI_sL, z_hL_sL, z_hR_sL, z_hA_sL, z_hB_sL, z_hC_sL, z_hT_sL, z_hN_sL, z_hZ_sL, z_hI_sR, z_hL_sR, z_hR_sR, z_hA_sR, z_hB_sR, z_hC_sR, z_hT_sR, z_hN_sR, z_hZ_sR, z_hI_sA, z_hL_sA, z_hR_sA, z_hA_sA, z_hB_sA, z_hC_sA, z_hT_sA, z_hN_sA, z_hZ_sA, z_hI_sB, z_hL_sB, z_hR_sB, z_hA_sB, z_hB_sB, z_hC_sB, z_hT_sB, z_hN_sB, z_hZ_sB, z_hI_sC, z_hL_sC, z_hR_sC, z_hA_sC, z_hB_sC, z_hC_sC, z_hT_sC, z_hN_sC, z_hZ_sC, z_hI_sY, z_hL_sY, z_hR_sY, z_hA_sY, z_hB_sY, z_hC_sY, z_hT_sY, z_hN_sY, z_hZ_sY, z_hI_nO, z_hL_nO, z_hR_nO, z_hA_nO, z_hB_nO, z_hC_nO, z_hT_nO, z_hN_nO, z_hZ_nO, z_hI_nA, z_hL_nA, z_hR_nA, z_hA_nA, z_hB_nA, z_hC_nA, z_hT_nA, z_hN_nA, z_hZ_nA, if_true, if_false, and_false, false_and, and_true, true_and, and_self, decide_true, decide_false, reduceCtorEq, not_false_eq_true, not_true_eq_false, Nat.reduceEqDiff, Nat.reduceAdd, Nat.reduceMul, Nat.add_zero, Nat.zero_add]; rw [if_neg hj, o17]) ?_ (by rw [vi]; exact y2)
      rw [vi]
      rw [eP, eR] at s4
      have exc : ∀ x, apx u0 z.np P x → blx u0 z.np R x → False := by rw [← eP, ← eR]; exact fun x => ap_bl
      rcases s4 with ⟨a, b⟩ | ⟨a, b, c⟩ | ⟨a, b, c⟩
      · exact .inl ⟨a, b, fun q => exc _ q b⟩
      · exact .inr (.inl ⟨a, b, c⟩)
      · exact .inr (.inr ⟨a, b, c⟩)
    · rw [if_neg c0]
      refine go h (CH.refl G _ h) Q (fun _ _ => rfl) ?_ (bt i)
      rcases t2 i hi with a | a
      · exact absurd a c0
      · exact a
theorem settleC {h : PH} {G : Gh} {z : Sz} {u0 : MS} {nu : Nat → Int32} {E1 E2 E3 : Nat → List Tok} {d1 d2 : Int32} {L : List Nat} (zo : z.ok) (Q : CSt h G z u0 nu E1 E2 E3 d1 d2 L) (mk : MkS h G u0 z) (ll : L.length ≤ 3750) (t2 : ∀ j, j < L.length → hA h (G.jd 17) j = 0 ∨ T3 (hA h (G.jd 17) j) (apx u0 z.np (cPr h G) (L.getD j 0)) (blx u0 z.np (cRf h G) (L.getD j 0))) (bt : ∀ q, isBy (hA h (G.jd 17) q)) : ∃ h', fX5_settleInstances h (G.jd 0) = some h' ∧ CH G (fun k => k = 2 ∨ k = 12 ∨ k = 13 ∨ k = 17) h h' ∧ CSt h' G z u0 nu E1 E2 E3 d1 d2 L ∧ MkI h' G L (hdx u0 z.np) (apx u0 z.np (cPr h G)) (blx u0 z.np (cRf h G)) L.length ∧ (∀ j, j < L.length → T3 (hA h' (G.jd 17) j) (apx u0 z.np (cPr h G) (L.getD j 0)) (blx u0 z.np (cRf h G) (L.getD j 0))) ∧ ∀ q, isBy (hA h' (G.jd 17) q) := by
  have S := Q.W.s
  have J := Q.W.j
  have v10 : vj 10 := by unfold vj; omega
  have v12 : vj 12 := by unfold vj; omega
  have v13 : vj 13 := by unfold vj; omega
  have v17 : vj 17 := by unfold vj; omega
  obtain ⟨h1, a1, a2, a3⟩ := fillC (v := 0) v12 (by decide) (S.jt12 J) (S.jn12 J)
  have S1 := a2.sx S
  obtain ⟨h2, b1, b2, b3⟩ := fillC (v := 0) v13 (by decide) (S1.jt13 J) (S1.jn13 J)
  have c : CH G (fun k => k = 12 ∨ k = 13) h h2 := (a2.mono fun k e => .inl e).trans (b2.mono fun k e => .inr e)
  have Q2 := Q.ch c (fun i hi => by omega) (Q.W.ch2 c (by decide))
  have o10 := (c.own S J v10 (by decide)).2.2.1
  have o17 := (c.own S J v17 (by decide)).2.2.1
  obtain ⟨f, hf⟩ : ∃ f', FU = f' + (L.length + 1) := ⟨FU - (L.length + 1), by have : FU = 100000 := rfl; omega⟩
  have M0 : MkI h2 G L (hdx u0 z.np) (apx u0 z.np (cPr h G)) (blx u0 z.np (cRf h G)) 0 := by
    intro p hp
    exact ⟨⟨0, b3 p hp, by decide, fun t => by rw [Nat.zero_testBit]; exact ⟨fun h => absurd h (by decide), fun ⟨j, h, _⟩ => absurd h (by omega)⟩⟩, ⟨0, by rw [(b2.own S1 J v12 (by decide)).2.2.1]; exact a3 p hp, by decide, fun t => by rw [Nat.zero_testBit]; exact ⟨fun h => absurd h (by decide), fun ⟨j, h, _⟩ => absurd h (by omega)⟩⟩⟩
  obtain ⟨h3, d1', d2', d3, d4, d5, d6⟩ := seL (P := cPr h G) (R := cRf h G) zo L.length 0 f h2 (by omega) Q2 (fun p hp => by rw [o10]; exact mk p hp) (by funext p; unfold cPr; rw [o10]) (by funext p; unfold cRf; rw [o10]) M0 (fun j hj => by omega) (fun j hj => by rw [o17]; exact t2 j hj) (fun q => by rw [o17]; exact bt q)
  refine ⟨h3, ?_, (c.mono fun k e => by omega).trans d2', d3, d4, d5, d6⟩
  rw [fX5_settleInstances, fX5_settleInstances_0, oC_d (S.jt0 J), S.jr648 J, a1, oB_v, oC_d (S1.jt0 J), S1.jr649 J, b1, oB_v, hf]
  exact d1'
