/-! the reference's judgment -/
theorem sums309 {h0 : PH} {u0 : MS} {G : Gh} {z : Sz} {nu : Nat → Int32} {E1 E2 E3 : Nat → List Tok} {A : Nat → Prop} {s : Nat} {k297 : MS → Int32 → Option (MS × Int32)} (mo : Mo h0 u0 G z E1 E2 E3) (K : KR h0 u0 G z) (zo : z.ok) (hc : z.rc ≤ 37000) (hs : s < z.ns) : ∀ m w f u, w + m = z.np → SBn u0 u z nu → (∀ x, x ∈ insL z.nr z.np (vN u0) → Tf (mA u 89 x) (A x)) → (∀ s' w', (s' < s ∧ w' < z.np) ∨ (s' = s ∧ w' < w) → SmR u (5 * s' + w') (flS u0 z.np A (5 * s' + w') (insL z.nr z.np (vN u0))).length (finS (smS (kdx u0) (vlx u0 z.np nu E3) (flS u0 z.np A (5 * s' + w') (insL z.nr z.np (vN u0))))) ∧ okSm (smS (kdx u0) (vlx u0 z.np nu E3) (flS u0 z.np A (5 * s' + w') (insL z.nr z.np (vN u0))))) → ∃ u', fX12_judge_309 k297 (f + (m + 1)) u (nI s) (nI w) = k297 u' (nI (s + 1)) ∧ MAg gRe u u' ∧ (∀ s' w', s' < s + 1 → w' < z.np → SmR u' (5 * s' + w') (flS u0 z.np A (5 * s' + w') (insL z.nr z.np (vN u0))).length (finS (smS (kdx u0) (vlx u0 z.np nu E3) (flS u0 z.np A (5 * s' + w') (insL z.nr z.np (vN u0))))) ∧ okSm (smS (kdx u0) (vlx u0 z.np nu E3) (flS u0 z.np A (5 * s' + w') (insL z.nr z.np (vN u0)))))
  | 0, w, f, u, e, B, ha, hz => by
    have np := zo.1
    have ew : w = z.np := e
    have ul : fX12_judge_309 k297 (f + (0 + 1)) u (nI s) (nI w) = fX12_judge_309F k297 (fX12_judge_309 k297 f) u (nI s) (nI w) := rfl
    refine ⟨u, ?_, MAg.refl u, fun s' w' h1 h2 => hz s' w' (by omega)⟩
    rw [ul, fX12_judge_309F, B.m18, if_pos (nI_le (by omega) (by omega)), oL_v, show nI s + 1 = nI (s + 1) from nI_add s 1]
  | m + 1, w, f, u, e, B, ha, hz => by
    have np := zo.1
    have ns := zo.2.2.1
    have hw : w < z.np := by omega
    have ul : fX12_judge_309 k297 (f + (m + 1 + 1)) u (nI s) (nI w) = fX12_judge_309F k297 (fX12_judge_309 k297 (f + (m + 1))) u (nI s) (nI w) := rfl
    obtain ⟨u1, a1, a2, a3⟩ := reckonsM (A := A) mo K zo hc (show s < 4 by omega) (show w < 5 by omega) B ha
    obtain ⟨u2, b1, b2, b3⟩ := sums309 (k297 := k297) (A := A) mo K zo hc hs m (w + 1) f u1 (by omega) (B.fr a2.ag (fun q hq => by unfold gRe wk9; omega)) (fun x hx => by rw [(a2.ag 89 (by unfold gRe wk9; omega)).2.2.1]; exact ha x hx) (fun s' w' h => by
      by_cases c : 5 * s' + w' = 5 * s + w
      · have w5 : w' < 5 := by omega
        have e1 : s' = s := by omega
        have e2 : w' = w := by omega
        rw [e1, e2]; exact ⟨a2.sm', a3⟩
      · obtain ⟨o1, o2, o3, o4⟩ := a2.ot _ c
        have := hz s' w' (by omega)
        refine ⟨?_, this.2⟩
        have k := this.1
        generalize finS (smS (kdx u0) (vlx u0 z.np nu E3) (flS u0 z.np A (5 * s' + w') (insL z.nr z.np (vN u0)))) = t at k ⊢
        cases t <;> unfold SmR at * <;> rw [o1, o2, o3, o4] <;> exact k)
    refine ⟨u2, ?_, a2.ag.trans b2, b3⟩
    rw [ul, fX12_judge_309F, B.m18, if_neg (nI_ge hw (by omega)), a1, oB_v, oL_v, show nI w + 1 = nI (w + 1) from nI_add w 1]
    exact b1
theorem sums297 {h0 : PH} {u0 : MS} {G : Gh} {z : Sz} {nu : Nat → Int32} {E1 E2 E3 : Nat → List Tok} {A : Nat → Prop} (mo : Mo h0 u0 G z E1 E2 E3) (K : KR h0 u0 G z) (zo : z.ok) (hc : z.rc ≤ 37000) : ∀ m s f u, s + m = z.ns → SBn u0 u z nu → (∀ x, x ∈ insL z.nr z.np (vN u0) → Tf (mA u 89 x) (A x)) → (∀ s' w', s' < s → w' < z.np → SmR u (5 * s' + w') (flS u0 z.np A (5 * s' + w') (insL z.nr z.np (vN u0))).length (finS (smS (kdx u0) (vlx u0 z.np nu E3) (flS u0 z.np A (5 * s' + w') (insL z.nr z.np (vN u0))))) ∧ okSm (smS (kdx u0) (vlx u0 z.np nu E3) (flS u0 z.np A (5 * s' + w') (insL z.nr z.np (vN u0))))) → ∃ u', fX12_judge_297 (f + (m + 1)) u (nI s) = some (u', mI u' 100) ∧ MAg gRe u u' ∧ (∀ s' w', s' < z.ns → w' < z.np → SmR u' (5 * s' + w') (flS u0 z.np A (5 * s' + w') (insL z.nr z.np (vN u0))).length (finS (smS (kdx u0) (vlx u0 z.np nu E3) (flS u0 z.np A (5 * s' + w') (insL z.nr z.np (vN u0))))) ∧ okSm (smS (kdx u0) (vlx u0 z.np nu E3) (flS u0 z.np A (5 * s' + w') (insL z.nr z.np (vN u0)))))
  | 0, s, f, u, e, B, ha, hz => by
    have es : s = z.ns := e
    subst es
    have ul : fX12_judge_297 (f + (0 + 1)) u (nI z.ns) = fX12_judge_297F (fX12_judge_297 f) u (nI z.ns) := rfl
    exact ⟨u, by rw [ul, fX12_judge_297F, B.m20, if_pos (Int32.le_refl _)], MAg.refl u, hz⟩
  | m + 1, s, f, u, e, B, ha, hz => by
    have np := zo.1
    have ns := zo.2.2.1
    have hs : s < z.ns := by omega
    have ul : fX12_judge_297 (f + (m + 1 + 1)) u (nI s) = fX12_judge_297F (fX12_judge_297 (f + (m + 1))) u (nI s) := rfl
    obtain ⟨f2, hf2⟩ : ∃ f', FU = f' + (z.np + 1) := ⟨FU - (z.np + 1), by have : FU = 100000 := rfl; omega⟩
    obtain ⟨u1, a1, a2, a3⟩ := sums309 (k297 := fX12_judge_297 (f + (m + 1))) (A := A) mo K zo hc hs z.np 0 f2 u (by omega) B ha (fun s' w' h => hz s' w' (by omega) (by omega))
    obtain ⟨u2, b1, b2, b3⟩ := sums297 (A := A) mo K zo hc m (s + 1) f u1 (by omega) (B.fr a2 (fun q hq => by unfold gRe wk9; omega)) (fun x hx => by rw [(a2 89 (by unfold gRe wk9; omega)).2.2.1]; exact ha x hx) a3
    refine ⟨u2, ?_, a2.trans b2, b3⟩
    rw [ul, fX12_judge_297F, B.m20, if_neg (nI_ge hs (by omega)), hf2, show (0 : Int32) = nI 0 from rfl, a1]
    exact b1
def JE (u0 : MS) (u' : MS) (z : Sz) (D : Mdl) (nu : Nat → Int32) (E3 : Nat → List Tok) : Prop := (MAg (fun k => k ≤ 78 ∨ 113 ≤ k) u0 u') ∧ (mI u' 96 = 1) ∧ (mI u' 97 = nI z.np) ∧ (mI u' 98 = nI z.nw) ∧ (mI u' 99 = nI z.ns) ∧ (JM u' D z.nr z.np 600) ∧ (mI u' 103 = nI (D.ins.countP (cd (apl D (LfP D))))) ∧ (∀ s w, s < z.ns → w < z.np → SmR u' (5 * s + w) (flS u0 z.np (apl D (LfP D)) (5 * s + w) D.ins).length (finS (smS (kdx u0) (vlx u0 z.np nu E3) (flS u0 z.np (apl D (LfP D)) (5 * s + w) D.ins))) ∧ okSm (smS (kdx u0) (vlx u0 z.np nu E3) (flS u0 z.np (apl D (LfP D)) (5 * s + w) D.ins))) ∧ (Exc (LfP D) (LfR D))
theorem JE.ag {u0 : MS} {u' : MS} {z : Sz} {D : Mdl} {nu : Nat → Int32} {E3 : Nat → List Tok} (X_ : JE u0 u' z D nu E3) : MAg (fun k => k ≤ 78 ∨ 113 ≤ k) u0 u' := X_.1
theorem JE.m96 {u0 : MS} {u' : MS} {z : Sz} {D : Mdl} {nu : Nat → Int32} {E3 : Nat → List Tok} (X_ : JE u0 u' z D nu E3) : mI u' 96 = 1 := X_.2.1
theorem JE.m97 {u0 : MS} {u' : MS} {z : Sz} {D : Mdl} {nu : Nat → Int32} {E3 : Nat → List Tok} (X_ : JE u0 u' z D nu E3) : mI u' 97 = nI z.np := X_.2.2.1
theorem JE.m98 {u0 : MS} {u' : MS} {z : Sz} {D : Mdl} {nu : Nat → Int32} {E3 : Nat → List Tok} (X_ : JE u0 u' z D nu E3) : mI u' 98 = nI z.nw := X_.2.2.2.1
theorem JE.m99 {u0 : MS} {u' : MS} {z : Sz} {D : Mdl} {nu : Nat → Int32} {E3 : Nat → List Tok} (X_ : JE u0 u' z D nu E3) : mI u' 99 = nI z.ns := X_.2.2.2.2.1
theorem JE.jm {u0 : MS} {u' : MS} {z : Sz} {D : Mdl} {nu : Nat → Int32} {E3 : Nat → List Tok} (X_ : JE u0 u' z D nu E3) : JM u' D z.nr z.np 600 := X_.2.2.2.2.2.1
theorem JE.c3 {u0 : MS} {u' : MS} {z : Sz} {D : Mdl} {nu : Nat → Int32} {E3 : Nat → List Tok} (X_ : JE u0 u' z D nu E3) : mI u' 103 = nI (D.ins.countP (cd (apl D (LfP D)))) := X_.2.2.2.2.2.2.1
theorem JE.su {u0 : MS} {u' : MS} {z : Sz} {D : Mdl} {nu : Nat → Int32} {E3 : Nat → List Tok} (X_ : JE u0 u' z D nu E3) : ∀ s w, s < z.ns → w < z.np → SmR u' (5 * s + w) (flS u0 z.np (apl D (LfP D)) (5 * s + w) D.ins).length (finS (smS (kdx u0) (vlx u0 z.np nu E3) (flS u0 z.np (apl D (LfP D)) (5 * s + w) D.ins))) ∧ okSm (smS (kdx u0) (vlx u0 z.np nu E3) (flS u0 z.np (apl D (LfP D)) (5 * s + w) D.ins)) := X_.2.2.2.2.2.2.2.1
theorem JE.ex {u0 : MS} {u' : MS} {z : Sz} {D : Mdl} {nu : Nat → Int32} {E3 : Nat → List Tok} (X_ : JE u0 u' z D nu E3) : Exc (LfP D) (LfR D) := X_.2.2.2.2.2.2.2.2
theorem JE.mk {u0 : MS} {u' : MS} {z : Sz} {D : Mdl} {nu : Nat → Int32} {E3 : Nat → List Tok} (ag_ : MAg (fun k => k ≤ 78 ∨ 113 ≤ k) u0 u') (m96_ : mI u' 96 = 1) (m97_ : mI u' 97 = nI z.np) (m98_ : mI u' 98 = nI z.nw) (m99_ : mI u' 99 = nI z.ns) (jm_ : JM u' D z.nr z.np 600) (c3_ : mI u' 103 = nI (D.ins.countP (cd (apl D (LfP D))))) (su_ : ∀ s w, s < z.ns → w < z.np → SmR u' (5 * s + w) (flS u0 z.np (apl D (LfP D)) (5 * s + w) D.ins).length (finS (smS (kdx u0) (vlx u0 z.np nu E3) (flS u0 z.np (apl D (LfP D)) (5 * s + w) D.ins))) ∧ okSm (smS (kdx u0) (vlx u0 z.np nu E3) (flS u0 z.np (apl D (LfP D)) (5 * s + w) D.ins))) (ex_ : Exc (LfP D) (LfR D)) : JE u0 u' z D nu E3 := ⟨ag_, m96_, m97_, m98_, m99_, jm_, c3_, su_, ex_⟩
def gJ9 (k : Nat) : Prop := k ≤ 95 ∨ 104 ≤ k
theorem judgeE {h0 : PH} {u0 u : MS} {G : Gh} {z : Sz} {nu : Nat → Int32} {E1 E2 E3 : Nat → List Tok} {d1 d2 : Int32} {fa : Nat → Prop} {f : Nat} (mo : Mo h0 u0 G z E1 E2 E3) (K : KR h0 u0 G z) (zo : z.ok) (hc : z.rc ≤ 37000) (g0 : MAg (fun k => k ≤ 78 ∨ 113 ≤ k) u0 u) (E : RE u0 u z nu E1 E2 d1 d2 fa) : ∃ u', fX12_judge_38 (f + 1) u 0 = some (u', mI u' 100) ∧ JE u0 u' z (mkD u0 z nu E1 E2 d1 d2 fa) nu E3 := by
  have np := zo.1
  have ns := zo.2.2.1
  have nr := zo.2.2.2.2.1
  have ul : fX12_judge_38 (f + 1) u 0 = fX12_judge_38F (fX12_judge_38 f) u 0 := rfl
  rw [ul, fX12_judge_38F, if_pos rfl, oL_v, oL_v, oL_v, oL_v, oL_v, oL_v, oL_v, oL_v]
  have e18 := E.I.B.m18
  have e19 := E.I.B.m19
  have e20 := E.I.B.m20
  have g1 : MAg gJ9 u (mSI (mSI (mSI (mSI (mSI (mSI (mSI (mSI u 97 (mI u 18)) 98 (mI (mSI u 97 (mI u 18)) 19)) 99 (mI (mSI (mSI u 97 (mI u 18)) 98 (mI (mSI u 97 (mI u 18)) 19)) 20)) 96 1) 100 0) 101 0) 102 0) 103 0) := (((((((MAg.refl u).sI (by unfold gJ9; omega)).sI (by unfold gJ9; omega)).sI (by unfold gJ9; omega)).sI (by unfold gJ9; omega)).sI (by unfold gJ9; omega)).sI (by unfold gJ9; omega)).sI (by unfold gJ9; omega) |>.sI (by unfold gJ9; omega)
  have v97 : mI (mSI (mSI (mSI (mSI (mSI (mSI (mSI (mSI u 97 (mI u 18)) 98 (mI (mSI u 97 (mI u 18)) 19)) 99 (mI (mSI (mSI u 97 (mI u 18)) 98 (mI (mSI u 97 (mI u 18)) 19)) 20)) 96 1) 100 0) 101 0) 102 0) 103 0) 97 = nI z.np := by simp only [z_mI_mSI, z_mL_mSI, z_mA_mSI, z_mB_mSI, z_mI_mSL, z_mL_mSL, z_mA_mSL, z_mB_mSL, z_mI_mSA, z_mL_mSA, z_mA_mSA, z_mB_mSA, z_mI_mSB, z_mL_mSB, z_mA_mSB, z_mB_mSB, if_true, if_false, and_false, false_and, and_true, true_and, and_self, decide_true, decide_false, reduceCtorEq, not_false_eq_true, not_true_eq_false, Nat.reduceEqDiff, Nat.reduceAdd, Nat.reduceMul, Nat.add_zero, Nat.zero_add]; exact e18
  have v98 : mI (mSI (mSI (mSI (mSI (mSI (mSI (mSI (mSI u 97 (mI u 18)) 98 (mI (mSI u 97 (mI u 18)) 19)) 99 (mI (mSI (mSI u 97 (mI u 18)) 98 (mI (mSI u 97 (mI u 18)) 19)) 20)) 96 1) 100 0) 101 0) 102 0) 103 0) 98 = nI z.nw := by simp only [z_mI_mSI, z_mL_mSI, z_mA_mSI, z_mB_mSI, z_mI_mSL, z_mL_mSL, z_mA_mSL, z_mB_mSL, z_mI_mSA, z_mL_mSA, z_mA_mSA, z_mB_mSA, z_mI_mSB, z_mL_mSB, z_mA_mSB, z_mB_mSB, if_true, if_false, and_false, false_and, and_true, true_and, and_self, decide_true, decide_false, reduceCtorEq, not_false_eq_true, not_true_eq_false, Nat.reduceEqDiff, Nat.reduceAdd, Nat.reduceMul, Nat.add_zero, Nat.zero_add]; exact e19
  have v99 : mI (mSI (mSI (mSI (mSI (mSI (mSI (mSI (mSI u 97 (mI u 18)) 98 (mI (mSI u 97 (mI u 18)) 19)) 99 (mI (mSI (mSI u 97 (mI u 18)) 98 (mI (mSI u 97 (mI u 18)) 19)) 20)) 96 1) 100 0) 101 0) 102 0) 103 0) 99 = nI z.ns := by simp only [z_mI_mSI, z_mL_mSI, z_mA_mSI, z_mB_mSI, z_mI_mSL, z_mL_mSL, z_mA_mSL, z_mB_mSL, z_mI_mSA, z_mL_mSA, z_mA_mSA, z_mB_mSA, z_mI_mSB, z_mL_mSB, z_mA_mSB, z_mB_mSB, if_true, if_false, and_false, false_and, and_true, true_and, and_self, decide_true, decide_false, reduceCtorEq, not_false_eq_true, not_true_eq_false, Nat.reduceEqDiff, Nat.reduceAdd, Nat.reduceMul, Nat.add_zero, Nat.zero_add]; exact e20
  have v96 : mI (mSI (mSI (mSI (mSI (mSI (mSI (mSI (mSI u 97 (mI u 18)) 98 (mI (mSI u 97 (mI u 18)) 19)) 99 (mI (mSI (mSI u 97 (mI u 18)) 98 (mI (mSI u 97 (mI u 18)) 19)) 20)) 96 1) 100 0) 101 0) 102 0) 103 0) 96 = 1 := by simp only [z_mI_mSI, z_mL_mSI, z_mA_mSI, z_mB_mSI, z_mI_mSL, z_mL_mSL, z_mA_mSL, z_mB_mSL, z_mI_mSA, z_mL_mSA, z_mA_mSA, z_mB_mSA, z_mI_mSB, z_mL_mSB, z_mA_mSB, z_mB_mSB, if_true, if_false, and_false, false_and, and_true, true_and, and_self, decide_true, decide_false, reduceCtorEq, not_false_eq_true, not_true_eq_false, Nat.reduceEqDiff, Nat.reduceAdd, Nat.reduceMul, Nat.add_zero, Nat.zero_add]
  have v100 : mI (mSI (mSI (mSI (mSI (mSI (mSI (mSI (mSI u 97 (mI u 18)) 98 (mI (mSI u 97 (mI u 18)) 19)) 99 (mI (mSI (mSI u 97 (mI u 18)) 98 (mI (mSI u 97 (mI u 18)) 19)) 20)) 96 1) 100 0) 101 0) 102 0) 103 0) 100 = 0 := by simp only [z_mI_mSI, z_mL_mSI, z_mA_mSI, z_mB_mSI, z_mI_mSL, z_mL_mSL, z_mA_mSL, z_mB_mSL, z_mI_mSA, z_mL_mSA, z_mA_mSA, z_mB_mSA, z_mI_mSB, z_mL_mSB, z_mA_mSB, z_mB_mSB, if_true, if_false, and_false, false_and, and_true, true_and, and_self, decide_true, decide_false, reduceCtorEq, not_false_eq_true, not_true_eq_false, Nat.reduceEqDiff, Nat.reduceAdd, Nat.reduceMul, Nat.add_zero, Nat.zero_add]
  have v101 : mI (mSI (mSI (mSI (mSI (mSI (mSI (mSI (mSI u 97 (mI u 18)) 98 (mI (mSI u 97 (mI u 18)) 19)) 99 (mI (mSI (mSI u 97 (mI u 18)) 98 (mI (mSI u 97 (mI u 18)) 19)) 20)) 96 1) 100 0) 101 0) 102 0) 103 0) 101 = 0 := by simp only [z_mI_mSI, z_mL_mSI, z_mA_mSI, z_mB_mSI, z_mI_mSL, z_mL_mSL, z_mA_mSL, z_mB_mSL, z_mI_mSA, z_mL_mSA, z_mA_mSA, z_mB_mSA, z_mI_mSB, z_mL_mSB, z_mA_mSB, z_mB_mSB, if_true, if_false, and_false, false_and, and_true, true_and, and_self, decide_true, decide_false, reduceCtorEq, not_false_eq_true, not_true_eq_false, Nat.reduceEqDiff, Nat.reduceAdd, Nat.reduceMul, Nat.add_zero, Nat.zero_add]
  have v102 : mI (mSI (mSI (mSI (mSI (mSI (mSI (mSI (mSI u 97 (mI u 18)) 98 (mI (mSI u 97 (mI u 18)) 19)) 99 (mI (mSI (mSI u 97 (mI u 18)) 98 (mI (mSI u 97 (mI u 18)) 19)) 20)) 96 1) 100 0) 101 0) 102 0) 103 0) 102 = 0 := by simp only [z_mI_mSI, z_mL_mSI, z_mA_mSI, z_mB_mSI, z_mI_mSL, z_mL_mSL, z_mA_mSL, z_mB_mSL, z_mI_mSA, z_mL_mSA, z_mA_mSA, z_mB_mSA, z_mI_mSB, z_mL_mSB, z_mA_mSB, z_mB_mSB, if_true, if_false, and_false, false_and, and_true, true_and, and_self, decide_true, decide_false, reduceCtorEq, not_false_eq_true, not_true_eq_false, Nat.reduceEqDiff, Nat.reduceAdd, Nat.reduceMul, Nat.add_zero, Nat.zero_add]
  have v103 : mI (mSI (mSI (mSI (mSI (mSI (mSI (mSI (mSI u 97 (mI u 18)) 98 (mI (mSI u 97 (mI u 18)) 19)) 99 (mI (mSI (mSI u 97 (mI u 18)) 98 (mI (mSI u 97 (mI u 18)) 19)) 20)) 96 1) 100 0) 101 0) 102 0) 103 0) 103 = 0 := by simp only [z_mI_mSI, z_mL_mSI, z_mA_mSI, z_mB_mSI, z_mI_mSL, z_mL_mSL, z_mA_mSL, z_mB_mSL, z_mI_mSA, z_mL_mSA, z_mA_mSA, z_mB_mSA, z_mI_mSB, z_mL_mSB, z_mA_mSB, z_mB_mSB, if_true, if_false, and_false, false_and, and_true, true_and, and_self, decide_true, decide_false, reduceCtorEq, not_false_eq_true, not_true_eq_false, Nat.reduceEqDiff, Nat.reduceAdd, Nat.reduceMul, Nat.add_zero, Nat.zero_add]
  generalize mSI (mSI (mSI (mSI (mSI (mSI (mSI (mSI u 97 (mI u 18)) 98 (mI (mSI u 97 (mI u 18)) 19)) 99 (mI (mSI (mSI u 97 (mI u 18)) 98 (mI (mSI u 97 (mI u 18)) 19)) 20)) 96 1) 100 0) 101 0) 102 0) 103 0 = w at g1 v96 v97 v98 v99 v100 v101 v102 v103 ⊢
  have Ew : RE u0 w z nu E1 E2 d1 d2 fa := E.fr g1 (fun q hq => by unfold gJ9; omega)
  obtain ⟨f1, hf1⟩ : ∃ f', FU = f' + (z.nr + 1) := ⟨FU - (z.nr + 1), by have : FU = 100000 := rfl; omega⟩
  have hf2 : FU = 99399 + (600 + 1) := rfl
  obtain ⟨f3, hf3⟩ : ∃ f', FU = f' + (z.ns + 1) := ⟨FU - (z.ns + 1), by have : FU = 100000 := rfl; omega⟩
  obtain ⟨u1, a1, a2, a3⟩ := cnt106 (A := apl (mkD u0 z nu E1 E2 d1 d2 fa) (LfP (mkD u0 z nu E1 E2 d1 d2 fa))) K zo z.nr 0 f1 w (by omega) Ew.I.B (fun x hx => Ew.ql.a9 x hx) (by rw [v103, dn_zero]; rfl)
  have E1' : RE u0 u1 z nu E1 E2 d1 d2 fa := Ew.fr a2 (fun q hq => by omega)
  obtain ⟨u2, b1, b2, b3⟩ := marksM K zo 600 0 99399 u1 rfl E1' (JM.mk (fun q hq => by omega) (by rw [(a2 100 (by decide)).1, v100]; rfl) (by rw [(a2 101 (by decide)).1, v101]; rfl) (by rw [(a2 102 (by decide)).1, v102]; rfl))
  have E2' : RE u0 u2 z nu E1 E2 d1 d2 fa := E1'.fr b2 (fun q hq => .inl hq)
  obtain ⟨u3, c1, c2, c3⟩ := sums297 (A := apl (mkD u0 z nu E1 E2 d1 d2 fa) (LfP (mkD u0 z nu E1 E2 d1 d2 fa))) mo K zo hc z.ns 0 f3 u2 (by omega) E2'.I.B (fun x hx => E2'.ql.a9 x hx) (fun s w h => by omega)
  have k : ∀ q, 96 ≤ q ∧ q ≤ 99 → mI u3 q = mI w q := fun q hq => by
    rw [(c2 q (by unfold gRe wk9; omega)).1, (b2 q (by unfold gMk; omega)).1, (a2 q (by omega)).1]
  have kc : ∀ q, 100 ≤ q ∧ q ≤ 107 → mI u3 q = mI u2 q ∧ ∀ i, mA u3 q i = mA u2 q i := fun q hq => ⟨(c2 q (by unfold gRe wk9; omega)).1, (c2 q (by unfold gRe wk9; omega)).2.2.1⟩
  refine ⟨u3, ?_, JE.mk ?_ ?_ ?_ ?_ ?_ ?_ ?_ ?_ E.ex⟩
  · rw [hf1, show (0 : Int32) = nI 0 from rfl, a1, hf2, b1, hf3]
    exact c1
  · exact (((g0.trans (g1.mono fun k hk => by unfold gJ9; omega)).trans (a2.mono fun k hk => by omega)).trans (b2.mono fun k hk => by unfold gMk; omega)).trans (c2.mono fun k hk => by unfold gRe wk9; omega)
  · rw [k 96 (by omega)]; exact v96
  · rw [k 97 (by omega)]; exact v97
  · rw [k 98 (by omega)]; exact v98
  · rw [k 99 (by omega)]; exact v99
  · apply JM.mk
    · intro q hq hl
      obtain ⟨x, x1, x2⟩ := b3.mr q hq hl
      rw [(kc 104 (by omega)).2]
      exact ⟨x, x1, x2.fq (fun r => (c2 42 (by unfold gRe wk9; omega)).2.2.1 r) ((kc 105 (by omega)).2 q) ((kc 106 (by omega)).2 q) (fun w _ => (kc 107 (by omega)).2 _)⟩
    · rw [(kc 100 (by omega)).1]; exact b3.c0
    · rw [(kc 101 (by omega)).1]; exact b3.c1
    · rw [(kc 102 (by omega)).1]; exact b3.c2
  · rw [(kc 103 (by omega)).1, (b2 103 (by unfold gMk; omega)).1]; exact a3
  · exact c3
