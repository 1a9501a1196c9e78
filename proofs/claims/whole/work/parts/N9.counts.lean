theorem exp54 {h0 : PH} {G : Gh} {z : Sz} {u0 : MS} (S0 : SX h0 G) (J : G.jj = true) (mk : MkS h0 G u0 z) : ∀ m p f h, p + m = 600 → CH G (fun k => k = 11 ∨ k = 18) h0 h → (∀ k, k < 3 → hA h (G.jd 18) k = nI ((List.range p).countP (cd fun q => hA h0 (G.jd 10) q = nI k))) → ∃ h', fX5_explain_54 (f + (m + 1)) h (G.jd 0) (nI p) = some h' ∧ CH G (fun k => k = 18) h h' ∧ (∀ k, k < 3 → hA h' (G.jd 18) k = nI ((List.range 600).countP (cd fun q => hA h0 (G.jd 10) q = nI k))) ∧ hA h' (G.jd 18) 3 = hA h (G.jd 18) 3 := by
  have v10 : vj 10 := by unfold vj; omega
  have v18 : vj 18 := by unfold vj; omega
  intro m
  induction m with
  | zero =>
    intro p f h e c X
    have ep : p = 600 := e
    subst ep
    have ul : fX5_explain_54 (f + (0 + 1)) h (G.jd 0) (nI 600) = fX5_explain_54F (fX5_explain_54 f) h (G.jd 0) (nI 600) := rfl
    exact ⟨h, by rw [ul, fX5_explain_54F, if_pos (show (600 : Int32) ≤ nI 600 from Int32.le_refl _)], CH.refl G _ h, X, rfl⟩
  | succ m ih =>
    intro p f h e c X
    have S := c.sx S0
    have hp : p < 600 := by omega
    have o10 := (c.own S0 J v10 (by decide)).2.2.1
    have cp : Int32.toNatClampNeg (nI p) = p := nI_clamp (by omega)
    have e1 : nI p + 1 = nI (p + 1) := nI_add p 1
    have x6 : ix (nI p) 600 = true := ix_n hp (by decide)
    have ul : fX5_explain_54 (f + (m + 1 + 1)) h (G.jd 0) (nI p) = fX5_explain_54F (fX5_explain_54 (f + (m + 1))) h (G.jd 0) (nI p) := rfl
    rw [ul, fX5_explain_54F, if_neg (show ¬ (600 : Int32) ≤ nI p from nI_ge (b := 600) hp (by decide)), oC_d (S.jt0 J), S.jr646 J, oN_v, oC_d (S.jt10 J), S.jn10 J, oC_t x6, cp, o10]
    have yes : ∀ v, v < 3 → hA h0 (G.jd 10) p = nI v → ∃ h', (if hA h0 (G.jd 10) p = -1 then fX5_explain_86 (fX5_explain_54 (f + (m + 1))) h (G.jd 0) (nI p) else oC (ix (nI p) 600) (oN (hR h 656 (G.jd 0)) fun a9 => oC (decide (hT h a9 = 101)) (oC (ix (hA h0 (G.jd 10) p) (hN h a9)) (oC (ix (hA h0 (G.jd 10) p) (hN h a9)) (oL (sA h a9 (Int32.toNatClampNeg (hA h0 (G.jd 10) p)) ((hA h a9 (Int32.toNatClampNeg (hA h0 (G.jd 10) p))) + 1)) (fun h13 => fX5_explain_86 (fX5_explain_54 (f + (m + 1))) h13 (G.jd 0) (nI p))))))) = some h' ∧ CH G (fun k => k = 18) h h' ∧ (∀ k, k < 3 → hA h' (G.jd 18) k = nI ((List.range 600).countP (cd fun q => hA h0 (G.jd 10) q = nI k))) ∧ hA h' (G.jd 18) 3 = hA h (G.jd 18) 3 := by
      intro v hv ev
      have x4 : ix (nI v) 4 = true := ix_n (show v < 4 by omega) (by decide)
      have cv : Int32.toNatClampNeg (nI v) = v := nI_clamp (by omega)
      rw [ev, if_neg (nI_m1 (by omega)), oC_t x6, S.jr656 J, oN_v, oC_d (S.jt18 J), S.jn18 J, oC_t x4, oC_t x4, cv, oL_v, fX5_explain_86, oL_v, e1]
      have cA : CH G (fun k => k = 18) h (sA h (G.jd 18) v (hA h (G.jd 18) v + 1)) := (CH.refl G (fun k => k = 18) h).sA v18 rfl
      have vA : ∀ k, hA (sA h (G.jd 18) v (hA h (G.jd 18) v + 1)) (G.jd 18) k = if k = v then hA h (G.jd 18) v + 1 else hA h (G.jd 18) k := fun k => by simp only [z_hI_sI, z_hL_sI, z_hR_sI, z_hA_sI, z_hB_sI, z_hC_sI, z_hT_sI, z_hN_sI, z_hZ_sI, z_hI_sL, z_hL_sL, z_hR_sL, z_hA_sL, z_hB_sL, z_hC_sL, z_hT_sL, z_hN_sL, z_hZ_sL, z_hI_sR, z_hL_sR, z_hR_sR, z_hA_sR, z_hB_sR, z_hC_sR, z_hT_sR, z_hN_sR, z_hZ_sR, z_hI_sA, z_hL_sA, z_hR_sA, z_hA_sA, z_hB_sA, z_hC_sA, z_hT_sA, z_hN_sA, z_hZ_sA, z_hI_sB, z_hL_sB, z_hR_sB, z_hA_sB, z_hB_sB, z_hC_sB, z_hT_sB, z_hN_sB, z_hZ_sB, z_hI_sC, z_hL_sC, z_hR_sC, z_hA_sC, z_hB_sC, z_hC_sC, z_hT_sC, z_hN_sC, z_hZ_sC, z_hI_sY, z_hL_sY, z_hR_sY, z_hA_sY, z_hB_sY, z_hC_sY, z_hT_sY, z_hN_sY, z_hZ_sY, z_hI_nO, z_hL_nO, z_hR_nO, z_hA_nO, z_hB_nO, z_hC_nO, z_hT_nO, z_hN_nO, z_hZ_nO, z_hI_nA, z_hL_nA, z_hR_nA, z_hA_nA, z_hB_nA, z_hC_nA, z_hT_nA, z_hN_nA, z_hZ_nA, if_true, if_false, and_false, false_and, and_true, true_and, and_self, decide_true, decide_false, reduceCtorEq, not_false_eq_true, not_true_eq_false, Nat.reduceEqDiff, Nat.reduceAdd, Nat.reduceMul, Nat.add_zero, Nat.zero_add]
      obtain ⟨h', z1, z2, z3, z4⟩ := ih (p + 1) f _ (by omega) (c.trans (cA.mono fun k e => .inr e)) (fun k hk => by
        rw [vA, List.range_succ]
        by_cases e : k = v
        · rw [if_pos e, X v hv, count_y (P := fun q => hA h0 (G.jd 10) q = nI k) (by rw [e]; exact ev), e]
          exact nI_add _ 1
        · rw [if_neg e, X k hk, count_n (P := fun q => hA h0 (G.jd 10) q = nI k) (fun q => e ((nI_eq (by omega) (by omega)).mp (q.symm.trans ev)))])
      exact ⟨h', z1, cA.trans z2, z3, by rw [z4, vA, if_neg (by omega)]⟩
    rcases mk p hp with ⟨_, a | a | a⟩ | ⟨_, a⟩
    · exact yes 0 (by decide) a
    · exact yes 1 (by decide) a
    · exact yes 2 (by decide) a
    · rw [if_pos a, fX5_explain_86, oL_v, e1]
      refine ih (p + 1) f h (by omega) c (fun k hk => ?_)
      rw [X k hk, List.range_succ, count_n (P := fun q => hA h0 (G.jd 10) q = nI k) (fun q => nI_m1 (show k < 2147483648 by omega) (q.symm.trans a))]
def EXp (h : PH) (h' : PH) (G : Gh) (L : List Nat) (A : Nat → Nat → Prop) (ap : Nat → Prop) : Prop := (CH G (fun k => k = 11 ∨ k = 18) h h') ∧ (∀ q, q < 600 → hA h' (G.jd 11) q = if hA h (G.jd 11) q = -1 then oi (L.find? (cd (A q))) else hA h (G.jd 11) q) ∧ (∀ k, k < 3 → hA h' (G.jd 18) k = nI ((List.range 600).countP (cd fun q => hA h (G.jd 10) q = nI k))) ∧ (hA h' (G.jd 18) 3 = nI (L.countP (cd ap)))
theorem EXp.ch {h : PH} {h' : PH} {G : Gh} {L : List Nat} {A : Nat → Nat → Prop} {ap : Nat → Prop} (X_ : EXp h h' G L A ap) : CH G (fun k => k = 11 ∨ k = 18) h h' := X_.1
theorem EXp.rs {h : PH} {h' : PH} {G : Gh} {L : List Nat} {A : Nat → Nat → Prop} {ap : Nat → Prop} (X_ : EXp h h' G L A ap) : ∀ q, q < 600 → hA h' (G.jd 11) q = if hA h (G.jd 11) q = -1 then oi (L.find? (cd (A q))) else hA h (G.jd 11) q := X_.2.1
theorem EXp.c0 {h : PH} {h' : PH} {G : Gh} {L : List Nat} {A : Nat → Nat → Prop} {ap : Nat → Prop} (X_ : EXp h h' G L A ap) : ∀ k, k < 3 → hA h' (G.jd 18) k = nI ((List.range 600).countP (cd fun q => hA h (G.jd 10) q = nI k)) := X_.2.2.1
theorem EXp.c3 {h : PH} {h' : PH} {G : Gh} {L : List Nat} {A : Nat → Nat → Prop} {ap : Nat → Prop} (X_ : EXp h h' G L A ap) : hA h' (G.jd 18) 3 = nI (L.countP (cd ap)) := X_.2.2.2
theorem EXp.mk {h : PH} {h' : PH} {G : Gh} {L : List Nat} {A : Nat → Nat → Prop} {ap : Nat → Prop} (ch_ : CH G (fun k => k = 11 ∨ k = 18) h h') (rs_ : ∀ q, q < 600 → hA h' (G.jd 11) q = if hA h (G.jd 11) q = -1 then oi (L.find? (cd (A q))) else hA h (G.jd 11) q) (c0_ : ∀ k, k < 3 → hA h' (G.jd 18) k = nI ((List.range 600).countP (cd fun q => hA h (G.jd 10) q = nI k))) (c3_ : hA h' (G.jd 18) 3 = nI (L.countP (cd ap))) : EXp h h' G L A ap := ⟨ch_, rs_, c0_, c3_⟩
theorem explainC {h : PH} {G : Gh} {z : Sz} {u0 : MS} {nu : Nat → Int32} {E1 E2 E3 : Nat → List Tok} {d1 d2 : Int32} {fa : Nat → Prop} {L : List Nat} (zo : z.ok) (F : RF h G z u0 nu E1 E2 E3 d1 d2 fa L) (ll : L.length ≤ 3750) (mem : ∀ i, i < L.length → hox u0 nu E1 E2 d1 d2 z.np (L.getD i 0)) (z18 : ∀ k, k < 4 → hA h (G.jd 18) k = 0) (r11 : ∀ q, q < 600 → hA h (G.jd 11) q = -1 ∨ hA h (G.jd 11) q = -2) : ∃ h', fX5_explain h (G.jd 0) = some h' ∧ EXp h h' G L (fun q x => apx u0 z.np (cPr h G) x ∧ Cx h G (mkD u0 z nu E1 E2 d1 d2 fa) (cRf h G) q x) (apx u0 z.np (cPr h G)) := by
  have S := F.Q.W.s
  have J := F.Q.W.j
  have v11 : vj 11 := by unfold vj; omega
  obtain ⟨f, hf⟩ : ∃ f', FU = f' + (L.length + 1) := ⟨FU - (L.length + 1), by have : FU = 100000 := rfl; omega⟩
  obtain ⟨h1, a1, a2, a3⟩ := exp2 zo F mem L.length 0 f h (by omega) (CH.refl G _ h) (by
    apply ExS.mk
    · intro q hq
      rw [List.take_zero, List.find?_nil]
      by_cases c : hA h (G.jd 11) q = -1
      · rw [if_pos c, c]; rfl
      · rw [if_neg c]
    · rw [z18 3 (by decide), List.take_zero]; rfl
    · exact fun k hk => z18 k (by omega))
  obtain ⟨h2, b1, b2, b3, b4⟩ := exp54 S J F.mk' 600 0 99399 h1 rfl a2 (fun k hk => by rw [a3.c0 k hk]; rfl)
  have S1 := a2.sx S
  refine ⟨h2, ?_, EXp.mk (a2.trans (b2.mono fun k e => .inr e)) ?_ b3 ?_⟩
  · rw [fX5_explain, fX5_explain_0, hf, show (0 : Int32) = nI 0 from rfl, a1, show FU = 99399 + (600 + 1) from rfl]
    exact b1
  · intro q hq
    have := a3.rs q hq
    rw [List.take_length] at this
    rw [(b2.own S1 J v11 (by decide)).2.2.1]; exact this
  · have := a3.c3
    rw [List.take_length] at this
    rw [b4]; exact this
