theorem take_s {L : List Nat} {i : Nat} (h : i < L.length) : L.take (i + 1) = L.take i ++ [L.getD i 0] := by
  rw [List.getD_eq_getElem?_getD, List.getElem?_eq_getElem h, List.take_succ, List.getElem?_eq_getElem h]
  rfl
theorem find_app {P : Nat → Prop} {l : List Nat} {x : Nat} : (l ++ [x]).find? (cd P) = @ite _ (l.find? (cd P) = none ∧ P x) (Classical.propDecidable _) (some x) (l.find? (cd P)) := by
  rw [List.find?_append]
  cases e : l.find? (cd P) with
  | some y => rw [if_neg (fun k => by cases k.1)]; rfl
  | none =>
    by_cases p : P x
    · rw [if_pos ⟨rfl, p⟩, find_y p]; rfl
    · rw [if_neg (fun k => p k.2), find_n p]; rfl
def ExS (h0 : PH) (h : PH) (G : Gh) (L : List Nat) (A : Nat → Nat → Prop) (ap : Nat → Prop) (i : Nat) : Prop := (∀ q, q < 600 → hA h (G.jd 11) q = if hA h0 (G.jd 11) q = -1 then oi ((L.take i).find? (cd (A q))) else hA h0 (G.jd 11) q) ∧ (hA h (G.jd 18) 3 = nI ((L.take i).countP (cd ap))) ∧ (∀ k, k < 3 → hA h (G.jd 18) k = 0)
theorem ExS.rs {h0 : PH} {h : PH} {G : Gh} {L : List Nat} {A : Nat → Nat → Prop} {ap : Nat → Prop} {i : Nat} (X_ : ExS h0 h G L A ap i) : ∀ q, q < 600 → hA h (G.jd 11) q = if hA h0 (G.jd 11) q = -1 then oi ((L.take i).find? (cd (A q))) else hA h0 (G.jd 11) q := X_.1
theorem ExS.c3 {h0 : PH} {h : PH} {G : Gh} {L : List Nat} {A : Nat → Nat → Prop} {ap : Nat → Prop} {i : Nat} (X_ : ExS h0 h G L A ap i) : hA h (G.jd 18) 3 = nI ((L.take i).countP (cd ap)) := X_.2.1
theorem ExS.c0 {h0 : PH} {h : PH} {G : Gh} {L : List Nat} {A : Nat → Nat → Prop} {ap : Nat → Prop} {i : Nat} (X_ : ExS h0 h G L A ap i) : ∀ k, k < 3 → hA h (G.jd 18) k = 0 := X_.2.2
theorem ExS.mk {h0 : PH} {h : PH} {G : Gh} {L : List Nat} {A : Nat → Nat → Prop} {ap : Nat → Prop} {i : Nat} (rs_ : ∀ q, q < 600 → hA h (G.jd 11) q = if hA h0 (G.jd 11) q = -1 then oi ((L.take i).find? (cd (A q))) else hA h0 (G.jd 11) q) (c3_ : hA h (G.jd 18) 3 = nI ((L.take i).countP (cd ap))) (c0_ : ∀ k, k < 3 → hA h (G.jd 18) k = 0) : ExS h0 h G L A ap i := ⟨rs_, c3_, c0_⟩
theorem exp2 {h0 : PH} {G : Gh} {z : Sz} {u0 : MS} {nu : Nat → Int32} {E1 E2 E3 : Nat → List Tok} {d1 d2 : Int32} {fa : Nat → Prop} {L : List Nat} (zo : z.ok) (F : RF h0 G z u0 nu E1 E2 E3 d1 d2 fa L) (mem : ∀ i, i < L.length → hox u0 nu E1 E2 d1 d2 z.np (L.getD i 0)) : ∀ m i f h, i + m = L.length → CH G (fun k => k = 11 ∨ k = 18) h0 h → ExS h0 h G L (fun q x => apx u0 z.np (cPr h0 G) x ∧ Cx h0 G (mkD u0 z nu E1 E2 d1 d2 fa) (cRf h0 G) q x) (apx u0 z.np (cPr h0 G)) i → ∃ h', fX5_explain_2 (f + (m + 1)) h (G.jd 0) (nI i) = fX5_explain_54 FU h' (G.jd 0) (nI 0) ∧ CH G (fun k => k = 11 ∨ k = 18) h0 h' ∧ ExS h0 h' G L (fun q x => apx u0 z.np (cPr h0 G) x ∧ Cx h0 G (mkD u0 z nu E1 E2 d1 d2 fa) (cRf h0 G) q x) (apx u0 z.np (cPr h0 G)) L.length := by
  have S0 := F.Q.W.s
  have J := F.Q.W.j
  have v0 : vj 0 := by unfold vj; omega
  have v10 : vj 10 := by unfold vj; omega
  have v11 : vj 11 := by unfold vj; omega
  have v15 : vj 15 := by unfold vj; omega
  have v16 : vj 16 := by unfold vj; omega
  have v17 : vj 17 := by unfold vj; omega
  have v18 : vj 18 := by unfold vj; omega
  intro m
  induction m with
  | zero =>
    intro i f h e c X
    have ei : i = L.length := e
    subst ei
    have S := c.sx S0
    have n := (c.own S0 J v0 (by decide)).1 655
    have ul : fX5_explain_2 (f + (0 + 1)) h (G.jd 0) (nI L.length) = fX5_explain_2F (fX5_explain_2 f) h (G.jd 0) (nI L.length) := rfl
    refine ⟨h, ?_, c, X⟩
    rw [ul, fX5_explain_2F, oC_d (S.jt0 J), n, F.Q.n, if_pos (Int32.le_refl _)]
    rfl
  | succ m ih =>
    intro i f h e c X
    have hi : i < L.length := by omega
    have S := c.sx S0
    have k4 := F.Q.k4
    have le := F.Q.le
    have n := (c.own S0 J v0 (by decide)).1 655
    have o10 := (c.own S0 J v10 (by decide)).2.2.1
    have o15 := (c.own S0 J v15 (by decide)).2.2.1
    have o16 := (c.own S0 J v16 (by decide)).2.2.1
    have o17 := (c.own S0 J v17 (by decide)).2.2.1
    have eN : hN h = hN h0 := c.1.2.2.2.1
    have x5 : ix (nI i) (hN h0 (G.jd 15)) = true := ix_n (show i < hN h0 (G.jd 15) by omega) (by omega)
    have ci : Int32.toNatClampNeg (nI i) = i := nI_clamp (by omega)
    have e1 : nI i + 1 = nI (i + 1) := nI_add i 1
    have ul : fX5_explain_2 (f + (m + 1 + 1)) h (G.jd 0) (nI i) = fX5_explain_2F (fX5_explain_2 (f + (m + 1))) h (G.jd 0) (nI i) := rfl
    have st := F.t3 i hi
    have lmem := F.Q.li i hi
    have hom := mem i hi
    rw [ul, fX5_explain_2F, oC_d (S.jt0 J), n, F.Q.n, if_neg (nI_ge hi (by omega)), S.jr654 J, oN_v, oC_d (S.jt17 J), eN, F.Q.k2, oC_t x5, ci, o17]
    by_cases s1 : hA h0 (G.jd 17) i = 1
    · have apI : apx u0 z.np (cPr h0 G) (L.getD i 0) := by
        rcases st with a | a | a
        · have := a.1; rw [s1] at this; exact absurd this (by decide)
        · exact a.2.1
        · have := a.1; rw [s1] at this; exact absurd this (by decide)
      have cA : CH G (fun k => k = 11 ∨ k = 18) h0 (sA h (G.jd 18) 3 (nI ((L.take i).countP (cd (apx u0 z.np (cPr h0 G)))) + 1)) := c.sA v18 (.inr rfl)
      have cA' : CH G (fun k => k = 18) h (sA h (G.jd 18) 3 (nI ((L.take i).countP (cd (apx u0 z.np (cPr h0 G)))) + 1)) := (CH.refl G (fun k => k = 18) h).sA v18 rfl
      have SA := cA.sx S0
      have MA := F.B.ch cA (fun i hi => by omega)
      have n811 := jd_ne S J v11 v18 (by decide)
      have pA : ∀ q, hA (sA h (G.jd 18) 3 (nI ((L.take i).countP (cd (apx u0 z.np (cPr h0 G)))) + 1)) (G.jd 11) q = hA h (G.jd 11) q := fun q => by simp only [z_hI_sI, z_hL_sI, z_hR_sI, z_hA_sI, z_hB_sI, z_hC_sI, z_hT_sI, z_hN_sI, z_hZ_sI, z_hI_sL, z_hL_sL, z_hR_sL, z_hA_sL, z_hB_sL, z_hC_sL, z_hT_sL, z_hN_sL, z_hZ_sL, z_hI_sR, z_hL_sR, z_hR_sR, z_hA_sR, z_hB_sR, z_hC_sR, z_hT_sR, z_hN_sR, z_hZ_sR, z_hI_sA, z_hL_sA, z_hR_sA, z_hA_sA, z_hB_sA, z_hC_sA, z_hT_sA, z_hN_sA, z_hZ_sA, z_hI_sB, z_hL_sB, z_hR_sB, z_hA_sB, z_hB_sB, z_hC_sB, z_hT_sB, z_hN_sB, z_hZ_sB, z_hI_sC, z_hL_sC, z_hR_sC, z_hA_sC, z_hB_sC, z_hC_sC, z_hT_sC, z_hN_sC, z_hZ_sC, z_hI_sY, z_hL_sY, z_hR_sY, z_hA_sY, z_hB_sY, z_hC_sY, z_hT_sY, z_hN_sY, z_hZ_sY, z_hI_nO, z_hL_nO, z_hR_nO, z_hA_nO, z_hB_nO, z_hC_nO, z_hT_nO, z_hN_nO, z_hZ_nO, z_hI_nA, z_hL_nA, z_hR_nA, z_hA_nA, z_hB_nA, z_hC_nA, z_hT_nA, z_hN_nA, z_hZ_nA, if_true, if_false, and_false, false_and, and_true, true_and, and_self, decide_true, decide_false, reduceCtorEq, not_false_eq_true, not_true_eq_false, Nat.reduceEqDiff, Nat.reduceAdd, Nat.reduceMul, Nat.add_zero, Nat.zero_add, n811]
      have m10 := (cA.own S0 J v10 (by decide)).2.2.1
      have m15 := (cA.own S0 J v15 (by decide)).2.2.1
      have m16 := (cA.own S0 J v16 (by decide)).2.2.1
      have q18 : ∀ k, hA (sA h (G.jd 18) 3 (nI ((L.take i).countP (cd (apx u0 z.np (cPr h0 G)))) + 1)) (G.jd 18) k = if k = 3 then nI ((L.take i).countP (cd (apx u0 z.np (cPr h0 G)))) + 1 else hA h (G.jd 18) k := fun k => by simp only [z_hI_sI, z_hL_sI, z_hR_sI, z_hA_sI, z_hB_sI, z_hC_sI, z_hT_sI, z_hN_sI, z_hZ_sI, z_hI_sL, z_hL_sL, z_hR_sL, z_hA_sL, z_hB_sL, z_hC_sL, z_hT_sL, z_hN_sL, z_hZ_sL, z_hI_sR, z_hL_sR, z_hR_sR, z_hA_sR, z_hB_sR, z_hC_sR, z_hT_sR, z_hN_sR, z_hZ_sR, z_hI_sA, z_hL_sA, z_hR_sA, z_hA_sA, z_hB_sA, z_hC_sA, z_hT_sA, z_hN_sA, z_hZ_sA, z_hI_sB, z_hL_sB, z_hR_sB, z_hA_sB, z_hB_sB, z_hC_sB, z_hT_sB, z_hN_sB, z_hZ_sB, z_hI_sC, z_hL_sC, z_hR_sC, z_hA_sC, z_hB_sC, z_hC_sC, z_hT_sC, z_hN_sC, z_hZ_sC, z_hI_sY, z_hL_sY, z_hR_sY, z_hA_sY, z_hB_sY, z_hC_sY, z_hT_sY, z_hN_sY, z_hZ_sY, z_hI_nO, z_hL_nO, z_hR_nO, z_hA_nO, z_hB_nO, z_hC_nO, z_hT_nO, z_hN_nO, z_hZ_nO, z_hI_nA, z_hL_nA, z_hR_nA, z_hA_nA, z_hB_nA, z_hC_nA, z_hT_nA, z_hN_nA, z_hZ_nA, if_true, if_false, and_false, false_and, and_true, true_and, and_self, decide_true, decide_false, reduceCtorEq, not_false_eq_true, not_true_eq_false, Nat.reduceEqDiff, Nat.reduceAdd, Nat.reduceMul, Nat.add_zero, Nat.zero_add]
      obtain ⟨r, b, hr, hb, ex⟩ := mem_insL.mp lmem
      have h125 := pow_le zo.1 (ruV F.Q.W.k hr).2.1
      have nr := zo.2.2.2.2.1
      have hdl : hdx u0 z.np (L.getD i 0) < 2147483648 := by
        obtain ⟨l', kk, n, v, q1, q2, q3, q4, q5, q6, q7, q8, q9, qa, qb, qc, qd, qe, qf⟩ := F.Q.W.k.ru r hr
        have ev : vN u0 r = v := by unfold vN; rw [qd, nI_clamp (by omega)]
        have bl' : ∀ j, j < v → bt z.np (vN u0 r) b j < z.np := fun j hj => bt_lt (by rcases pow_pos' hb with c | c <;> omega)
        rw [ex, hdx_v (by omega)]
        rcases qe with q | q
        · rw [if_neg q.1]
          have := (q.2.lit (β := bt z.np (vN u0 r) b) zo bl').2
          omega
        · obtain ⟨c2, ⟨s, s1, s2, s3⟩, _, _, ⟨t, t1, t2, t3⟩, _⟩ := q
          rw [if_pos c2, s3, nI_clamp (by have := zo.2.2.1; omega), t3, pM_tm t1]
          have := pe_lt bl' t1
          have := zo.1
          have := zo.2.2.1
          omega
      obtain ⟨h1, r1, r2, r3⟩ := reasonC (x := L.getD i 0) MA nr lmem (by omega) hom hdl
      have c1 : CH G (fun k => k = 11 ∨ k = 18) h0 h1 := cA.trans (r2.mono fun k e => .inl e)
      have r18 := (r2.own SA J v18 (by decide)).2.2.1
      have CxE : ∀ q x, Cx (sA h (G.jd 18) 3 (nI ((L.take i).countP (cd (apx u0 z.np (cPr h0 G)))) + 1)) G (mkD u0 z nu E1 E2 d1 d2 fa) (cRf h0 G) q x ↔ Cx h0 G (mkD u0 z nu E1 E2 d1 d2 fa) (cRf h0 G) q x := fun q x => by
        unfold Cx
        rw [m10]
      obtain ⟨h2, z1, z2, z3⟩ := ih (i + 1) f h1 (by omega) c1 (by
        apply ExS.mk
        · intro q hq
          rw [r3 q hq, pA, X.rs q hq, CxE]
          by_cases i1 : hA h0 (G.jd 11) q = -1
          · rw [if_pos i1, if_pos i1, take_s hi, find_app]
            cases ef : (L.take i).find? (cd (fun x => apx u0 z.np (cPr h0 G) x ∧ Cx h0 G (mkD u0 z nu E1 E2 d1 d2 fa) (cRf h0 G) q x)) with
            | none =>
              by_cases cx : Cx h0 G (mkD u0 z nu E1 E2 d1 d2 fa) (cRf h0 G) q (L.getD i 0)
              · rw [if_pos ⟨rfl, cx⟩, if_pos ⟨rfl, apI, cx⟩]; rfl
              · rw [if_neg (fun k => cx k.2), if_neg (fun k => cx k.2.2)]
            | some y =>
              have ym := List.mem_of_find?_eq_some ef
              have yL : y ∈ L := List.mem_of_mem_take ym
              have y3 : y < 3750 := by
                obtain ⟨j, hj, e'⟩ := List.mem_iff_getElem.mp yL
                have := F.Q.li j hj
                rw [List.getD_eq_getElem?_getD, List.getElem?_eq_getElem hj, Option.getD_some, e'] at this
                obtain ⟨r', b', hr', hb', ex'⟩ := mem_insL.mp this
                have := pow_le zo.1 (ruV F.Q.W.k hr').2.1
                omega
              rw [if_neg (fun k => nI_m1 (show y < 2147483648 by omega) k.1), if_neg (fun k => by cases k.1)]
          · rw [if_neg i1, if_neg i1, if_neg (fun k => i1 k.1)]
        · rw [r18, q18, if_pos rfl, take_s hi, count_y apI]
          exact nI_add _ 1
        · intro k hk
          rw [r18, q18, if_neg (by omega)]; exact X.c0 k hk)
      refine ⟨h2, ?_, z2, z3⟩
      have x4 : ix 3 4 = true := rfl
      have c3' : Int32.toNatClampNeg 3 = 3 := rfl
      have eNA : hN (sA h (G.jd 18) 3 (nI ((L.take i).countP (cd (apx u0 z.np (cPr h0 G)))) + 1)) = hN h0 := cA.1.2.2.2.1
      have r1' : fX5_giveReason (sA h (G.jd 18) 3 (nI ((L.take i).countP (cd (apx u0 z.np (cPr h0 G)))) + 1)) (G.jd 0) (nI (L.getD i 0)) (nI (hdx u0 z.np (L.getD i 0))) = some h1 := r1
      rw [if_pos s1, S.jr656 J, oN_v, oC_d (S.jt18 J), S0.jn18 J, oC_t x4, oC_t x4, c3', X.c3, oL_v, SA.jr652 J, oN_v, oC_d (SA.jt15 J), eNA, oC_t x5, SA.jr653 J, oN_v, oC_d (SA.jt16 J), F.Q.k1, oC_t x5, m15, m16, F.Q.a5 i hi, F.Q.a6 i hi, r1', oB_v, fX5_explain_46, oL_v, e1]
      exact z1
    · have nap : ¬ apx u0 z.np (cPr h0 G) (L.getD i 0) := by
        rcases st with a | a | a
        · exact a.2.2
        · exact absurd a.1 s1
        · exact a.2.1
      obtain ⟨h2, z1, z2, z3⟩ := ih (i + 1) f h (by omega) c (by
        apply ExS.mk
        · intro q hq
          rw [X.rs q hq, take_s hi, find_app]
          by_cases i1 : hA h0 (G.jd 11) q = -1
          · rw [if_pos i1, if_pos i1, if_neg (fun k => nap k.2.1)]
          · rw [if_neg i1, if_neg i1]
        · rw [take_s hi, count_n nap]; exact X.c3
        · exact X.c0)
      refine ⟨h2, ?_, z2, z3⟩
      rw [if_neg s1, fX5_explain_46, oL_v, e1]
      exact z1
