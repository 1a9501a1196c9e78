/-! the marksM of the reference -/
def JM (u : MS) (D : Mdl) (nr : Nat) (np : Nat) (p : Nat) : Prop := (∀ q, q < p → D.li q → ∃ x, RsM D q (mA u 104 q) x ∧ RsR u nr np (mA u 104 q) x q) ∧ (mI u 100 = nI ((List.range p).countP (cd fun q => D.li q ∧ LfP D q))) ∧ (mI u 101 = nI ((List.range p).countP (cd fun q => D.li q ∧ LfR D q))) ∧ (mI u 102 = nI ((List.range p).countP (cd fun q => D.li q ∧ ¬ LfP D q ∧ ¬ LfR D q)))
theorem JM.mr {u : MS} {D : Mdl} {nr : Nat} {np : Nat} {p : Nat} (X_ : JM u D nr np p) : ∀ q, q < p → D.li q → ∃ x, RsM D q (mA u 104 q) x ∧ RsR u nr np (mA u 104 q) x q := X_.1
theorem JM.c0 {u : MS} {D : Mdl} {nr : Nat} {np : Nat} {p : Nat} (X_ : JM u D nr np p) : mI u 100 = nI ((List.range p).countP (cd fun q => D.li q ∧ LfP D q)) := X_.2.1
theorem JM.c1 {u : MS} {D : Mdl} {nr : Nat} {np : Nat} {p : Nat} (X_ : JM u D nr np p) : mI u 101 = nI ((List.range p).countP (cd fun q => D.li q ∧ LfR D q)) := X_.2.2.1
theorem JM.c2 {u : MS} {D : Mdl} {nr : Nat} {np : Nat} {p : Nat} (X_ : JM u D nr np p) : mI u 102 = nI ((List.range p).countP (cd fun q => D.li q ∧ ¬ LfP D q ∧ ¬ LfR D q)) := X_.2.2.2
theorem JM.mk {u : MS} {D : Mdl} {nr : Nat} {np : Nat} {p : Nat} (mr_ : ∀ q, q < p → D.li q → ∃ x, RsM D q (mA u 104 q) x ∧ RsR u nr np (mA u 104 q) x q) (c0_ : mI u 100 = nI ((List.range p).countP (cd fun q => D.li q ∧ LfP D q))) (c1_ : mI u 101 = nI ((List.range p).countP (cd fun q => D.li q ∧ LfR D q))) (c2_ : mI u 102 = nI ((List.range p).countP (cd fun q => D.li q ∧ ¬ LfP D q ∧ ¬ LfR D q))) : JM u D nr np p := ⟨mr_, c0_, c1_, c2_⟩
def gMk (k : Nat) : Prop := k ≤ 94 ∨ (96 ≤ k ∧ k ≤ 99) ∨ k = 103 ∨ 108 ≤ k
theorem RsR.fq {u u' : MS} {nr np q : Nat} {m x : Int32} (h : RsR u nr np m x q) (e42 : ∀ r, mA u' 42 r = mA u 42 r) (e5 : mA u' 105 q = mA u 105 q) (e6 : mA u' 106 q = mA u 106 q) (e7 : ∀ w, w < 3 → mA u' 107 (3 * q + w) = mA u 107 (3 * q + w)) : RsR u' nr np m x q := by
  rcases h with ⟨a1, a2, a3, a4, a5⟩ | ⟨a1, a2, a3, a4, a5⟩ | ⟨r, b, a1, a2, a3, a4, a5, a6, a7, a8⟩
  · exact .inl ⟨a1, a2, e5.trans a3, e6.trans a4, fun w hw => (e7 w hw).trans (a5 w hw)⟩
  · exact .inr (.inl ⟨a1, a2, e5.trans a3, e6.trans a4, fun w hw => (e7 w hw).trans (a5 w hw)⟩)
  · refine .inr (.inr ⟨r, b, a1, a2, a3, by rw [e42]; exact a4, a5, e5.trans a6, e6.trans a7, fun w hw => ?_⟩)
    rw [e7 w hw, e42]; exact a8 w hw
theorem mark1 {h0 : PH} {u0 u : MS} {G : Gh} {z : Sz} {nu : Nat → Int32} {E1 E2 : Nat → List Tok} {d1 d2 : Int32} {fa : Nat → Prop} {p : Nat} {k170 : MS → Int32 → Option (MS × Int32)} (K : KR h0 u0 G z) (zo : z.ok) (E : RE u0 u z nu E1 E2 d1 d2 fa) (J : JM u (mkD u0 z nu E1 E2 d1 d2 fa) z.nr z.np p) (hp : p < 600) : ∃ u', fX12_judge_170F k170 u (nI p) = k170 u' (nI (p + 1)) ∧ MAg gMk u u' ∧ JM u' (mkD u0 z nu E1 E2 d1 d2 fa) z.nr z.np (p + 1) := by
  have cp : Int32.toNatClampNeg (nI p) = p := nI_clamp (by omega)
  have e1 : nI p + 1 = nI (p + 1) := nI_add p 1
  have xp : ∀ s, mlen s = 600 → ix (nI p) (mlen s) = true := fun s hs => ix_n (by rw [hs]; exact hp) (by rw [hs]; decide)
  have L := E.I.B.gl (E1 := E1) (E2 := E2) (d1 := d1) (d2 := d2) (fa := fa) K zo
  obtain ⟨x, a1, a2⟩ := isLiteralM L.m18 L.m19 L.h5 L.hw L.pl hp
  rw [fX12_judge_170F, if_neg (show ¬ (600 : Int32) ≤ nI p from nI_ge (b := 600) hp (by decide)), a1, oB_v]
  rcases a2.cases with ⟨_, g2, g3⟩ | ⟨g1, g2⟩
  · have hl : (mkD u0 z nu E1 E2 d1 d2 fa).li p := (L.li p hp).mpr g3
    have key : ∀ (m : Int32) (c : Nat) (d : Int32), ((mA u 92 p = 1 ∧ m = 1) ∨ (mA u 92 p = 0 ∧ mA u 93 p = 1 ∧ m = 0) ∨ (mA u 92 p = 0 ∧ mA u 93 p = 0 ∧ m = 2)) → (c = 100 ∨ c = 101 ∨ c = 102) → ((LfP (mkD u0 z nu E1 E2 d1 d2 fa) p ∧ c = 100) ∨ (LfR (mkD u0 z nu E1 E2 d1 d2 fa) p ∧ c = 101) ∨ (¬ LfP (mkD u0 z nu E1 E2 d1 d2 fa) p ∧ ¬ LfR (mkD u0 z nu E1 E2 d1 d2 fa) p ∧ c = 102)) → ∃ u', fX12_judge_282 k170 (mSI (mSA u 104 p m) c (mI (mSA u 104 p m) c + 1)) (nI p) = k170 u' (nI (p + 1)) ∧ MAg gMk u u' ∧ JM u' (mkD u0 z nu E1 E2 d1 d2 fa) z.nr z.np (p + 1) := by
      intro m c d hm hc hcc
      have g0 : MAg (fun k => gMk k ∨ k = 95 ∨ k = 105 ∨ k = 106 ∨ k = 107) u (mSI (mSA u 104 p m) c (mI (mSA u 104 p m) c + 1)) := ((MAg.refl u).sA (by unfold gMk; omega)).sI (by unfold gMk; omega)
      have E0 := E.fr g0 (fun q hq => .inl (.inl hq))
      have i92 : ∀ q, mA (mSI (mSA u 104 p m) c (mI (mSA u 104 p m) c + 1)) 92 q = mA u 92 q := (g0 92 (.inl (.inl (by decide)))).2.2.1
      have i93 : ∀ q, mA (mSI (mSA u 104 p m) c (mI (mSA u 104 p m) c + 1)) 93 q = mA u 93 q := (g0 93 (.inl (.inl (by decide)))).2.2.1
      obtain ⟨u', k, i, v, y, b1, b2, b3, b4⟩ := becauseM (m := m) K zo E0 hp (by rw [i92, i93]; exact hm)
      have e104 : ∀ q, mA u' 104 q = if q = p then m else mA u 104 q := fun q => by
        rw [(b2.ag 104 (by decide)).2.2.1]; simp only [z_mI_mSI, z_mL_mSI, z_mA_mSI, z_mB_mSI, z_mI_mSL, z_mL_mSL, z_mA_mSL, z_mB_mSL, z_mI_mSA, z_mL_mSA, z_mA_mSA, z_mB_mSA, z_mI_mSB, z_mL_mSB, z_mA_mSB, z_mB_mSB, if_true, if_false, and_false, false_and, and_true, true_and, and_self, decide_true, decide_false, reduceCtorEq, not_false_eq_true, not_true_eq_false, Nat.reduceEqDiff, Nat.reduceAdd, Nat.reduceMul, Nat.add_zero, Nat.zero_add]
      have eC : ∀ q, q = 100 ∨ q = 101 ∨ q = 102 → mI u' q = if q = c then mI u c + 1 else mI u q := fun q hq => by
        rw [(b2.ag q (by omega)).1]; simp only [z_mI_mSI, z_mL_mSI, z_mA_mSI, z_mB_mSI, z_mI_mSL, z_mL_mSL, z_mA_mSL, z_mB_mSL, z_mI_mSA, z_mL_mSA, z_mA_mSA, z_mB_mSA, z_mI_mSB, z_mL_mSB, z_mA_mSB, z_mB_mSB, if_true, if_false, and_false, false_and, and_true, true_and, and_self, decide_true, decide_false, reduceCtorEq, not_false_eq_true, not_true_eq_false, Nat.reduceEqDiff, Nat.reduceAdd, Nat.reduceMul, Nat.add_zero, Nat.zero_add]
      refine ⟨u', ?_, ?_, JM.mk ?_ ?_ ?_ ?_⟩
      · rw [fX12_judge_282, b1, oB_v, fX12_judge_288, oL_v, e1]
      · exact (g0.mono fun k hk => .inl hk).trans (b2.ag.mono fun k hk => by unfold gMk at hk; omega)
      · intro q hq hlq
        rw [e104]
        by_cases e : q = p
        · rw [if_pos e, e]; exact ⟨y, b3, b4⟩
        · rw [if_neg e]
          obtain ⟨x', x1, x2⟩ := J.mr q (by omega) hlq
          obtain ⟨o1, o2, o3⟩ := b2.o5 q e
          have e42 : ∀ r, mA u' 42 r = mA u 42 r := fun r => by
            rw [(b2.ag 42 (by decide)).2.2.1, (g0 42 (.inl (.inl (by decide)))).2.2.1]
          refine ⟨x', x1, x2.fq e42 ?_ ?_ ?_⟩
          · rw [o1, (g0 105 (by omega)).2.2.1]
          · rw [o2, (g0 106 (by omega)).2.2.1]
          · intro w hw; rw [o3 w hw, (g0 107 (by omega)).2.2.1]
      · rw [eC 100 (by omega), List.range_succ]
        rcases hcc with ⟨h1, h2⟩ | ⟨h1, h2⟩ | ⟨h1, h1', h2⟩
        · rw [if_pos h2.symm, count_y (P := fun q => (mkD u0 z nu E1 E2 d1 d2 fa).li q ∧ LfP (mkD u0 z nu E1 E2 d1 d2 fa) q) ⟨hl, h1⟩, h2, J.c0]
          exact nI_add _ 1
        · rw [if_neg (by omega), count_n (P := fun q => (mkD u0 z nu E1 E2 d1 d2 fa).li q ∧ LfP (mkD u0 z nu E1 E2 d1 d2 fa) q) (fun h => E.ex p h.2 h1)]; exact J.c0
        · rw [if_neg (by omega), count_n (P := fun q => (mkD u0 z nu E1 E2 d1 d2 fa).li q ∧ LfP (mkD u0 z nu E1 E2 d1 d2 fa) q) (fun h => h1 h.2)]; exact J.c0
      · rw [eC 101 (by omega), List.range_succ]
        rcases hcc with ⟨h1, h2⟩ | ⟨h1, h2⟩ | ⟨h1, h1', h2⟩
        · rw [if_neg (by omega), count_n (P := fun q => (mkD u0 z nu E1 E2 d1 d2 fa).li q ∧ LfR (mkD u0 z nu E1 E2 d1 d2 fa) q) (fun h => E.ex p h1 h.2)]; exact J.c1
        · rw [if_pos h2.symm, count_y (P := fun q => (mkD u0 z nu E1 E2 d1 d2 fa).li q ∧ LfR (mkD u0 z nu E1 E2 d1 d2 fa) q) ⟨hl, h1⟩, h2, J.c1]
          exact nI_add _ 1
        · rw [if_neg (by omega), count_n (P := fun q => (mkD u0 z nu E1 E2 d1 d2 fa).li q ∧ LfR (mkD u0 z nu E1 E2 d1 d2 fa) q) (fun h => h1' h.2)]; exact J.c1
      · rw [eC 102 (by omega), List.range_succ]
        rcases hcc with ⟨h1, h2⟩ | ⟨h1, h2⟩ | ⟨h1, h1', h2⟩
        · rw [if_neg (by omega), count_n (P := fun q => (mkD u0 z nu E1 E2 d1 d2 fa).li q ∧ ¬ LfP (mkD u0 z nu E1 E2 d1 d2 fa) q ∧ ¬ LfR (mkD u0 z nu E1 E2 d1 d2 fa) q) (fun h => h.2.1 h1)]; exact J.c2
        · rw [if_neg (by omega), count_n (P := fun q => (mkD u0 z nu E1 E2 d1 d2 fa).li q ∧ ¬ LfP (mkD u0 z nu E1 E2 d1 d2 fa) q ∧ ¬ LfR (mkD u0 z nu E1 E2 d1 d2 fa) q) (fun h => h.2.2 h1)]; exact J.c2
        · rw [if_pos h2.symm, count_y (P := fun q => (mkD u0 z nu E1 E2 d1 d2 fa).li q ∧ ¬ LfP (mkD u0 z nu E1 E2 d1 d2 fa) q ∧ ¬ LfR (mkD u0 z nu E1 E2 d1 d2 fa) q) ⟨hl, h1, h1'⟩, h2, J.c2]
          exact nI_add _ 1
    obtain ⟨b2, b3⟩ := E.I.b23 p hp
    have s92 : ∀ m, mA (mSA u 104 p m) 92 p = mA u 92 p := fun m => by simp only [z_mI_mSI, z_mL_mSI, z_mA_mSI, z_mB_mSI, z_mI_mSL, z_mL_mSL, z_mA_mSL, z_mB_mSL, z_mI_mSA, z_mL_mSA, z_mA_mSA, z_mB_mSA, z_mI_mSB, z_mL_mSB, z_mA_mSB, z_mB_mSB, if_true, if_false, and_false, false_and, and_true, true_and, and_self, decide_true, decide_false, reduceCtorEq, not_false_eq_true, not_true_eq_false, Nat.reduceEqDiff, Nat.reduceAdd, Nat.reduceMul, Nat.add_zero, Nat.zero_add]
    have s93 : ∀ m, mA (mSA u 104 p m) 93 p = mA u 93 p := fun m => by simp only [z_mI_mSI, z_mL_mSI, z_mA_mSI, z_mB_mSI, z_mI_mSL, z_mL_mSL, z_mA_mSL, z_mB_mSL, z_mI_mSA, z_mL_mSA, z_mA_mSA, z_mB_mSA, z_mI_mSB, z_mL_mSB, z_mA_mSB, z_mB_mSB, if_true, if_false, and_false, false_and, and_true, true_and, and_self, decide_true, decide_false, reduceCtorEq, not_false_eq_true, not_true_eq_false, Nat.reduceEqDiff, Nat.reduceAdd, Nat.reduceMul, Nat.add_zero, Nat.zero_add]
    rw [if_neg g2, oC_t (xp 92 rfl), cp]
    by_cases h2 : mA u 92 p = 0
    · rw [if_pos h2, oC_t (xp 93 rfl)]
      have n2 : ¬ LfP (mkD u0 z nu E1 E2 d1 d2 fa) p := fun h => by
        have := ((E.lp p).mpr h).2
        rw [h2] at this; exact absurd this (by decide)
      by_cases h3 : mA u 93 p = 0
      · have n3 : ¬ LfR (mkD u0 z nu E1 E2 d1 d2 fa) p := fun h => by
          have := ((E.lr p).mpr h).2
          rw [h3] at this; exact absurd this (by decide)
        rw [if_pos h3, fX12_judge_225, oC_t (xp 104 rfl), cp, oL_v, oC_t (xp 92 rfl), s92, if_pos h2, oC_t (xp 93 rfl), s93, if_pos h3, oL_v]
        exact key 2 102 0 (.inr (.inr ⟨h2, h3, rfl⟩)) (.inr (.inr rfl)) (.inr (.inr ⟨n2, n3, rfl⟩))
      · rw [if_neg h3, fX12_judge_225, oC_t (xp 104 rfl), cp, oL_v, oC_t (xp 92 rfl), s92, if_pos h2, oC_t (xp 93 rfl), s93, if_neg h3, oL_v]
        exact key 0 101 0 (.inr (.inl ⟨h2, b3.ne h3, rfl⟩)) (.inr (.inl rfl)) (.inr (.inl ⟨(E.lr p).mp ⟨hp, b3.ne h3⟩, rfl⟩))
    · rw [if_neg h2, fX12_judge_225, oC_t (xp 104 rfl), cp, oL_v, oC_t (xp 92 rfl), s92, if_neg h2, oL_v]
      exact key 1 100 0 (.inl ⟨b2.ne h2, rfl⟩) (.inl rfl) (.inl ⟨(E.lp p).mp ⟨hp, b2.ne h2⟩, rfl⟩)
  · have hl : ¬ (mkD u0 z nu E1 E2 d1 d2 fa).li p := fun h => g2 ((L.li p hp).mp h)
    rw [if_pos g1, fX12_judge_288, oL_v, e1]
    refine ⟨u, rfl, MAg.refl u, JM.mk ?_ ?_ ?_ ?_⟩
    · intro q hq hlq
      by_cases e : q = p
      · rw [e] at hlq; exact absurd hlq hl
      · exact J.mr q (by omega) hlq
    · rw [List.range_succ, count_n (P := fun q => (mkD u0 z nu E1 E2 d1 d2 fa).li q ∧ LfP (mkD u0 z nu E1 E2 d1 d2 fa) q) (fun h => hl h.1)]; exact J.c0
    · rw [List.range_succ, count_n (P := fun q => (mkD u0 z nu E1 E2 d1 d2 fa).li q ∧ LfR (mkD u0 z nu E1 E2 d1 d2 fa) q) (fun h => hl h.1)]; exact J.c1
    · rw [List.range_succ, count_n (P := fun q => (mkD u0 z nu E1 E2 d1 d2 fa).li q ∧ ¬ LfP (mkD u0 z nu E1 E2 d1 d2 fa) q ∧ ¬ LfR (mkD u0 z nu E1 E2 d1 d2 fa) q) (fun h => hl h.1)]; exact J.c2
theorem marksM {h0 : PH} {u0 : MS} {G : Gh} {z : Sz} {nu : Nat → Int32} {E1 E2 : Nat → List Tok} {d1 d2 : Int32} {fa : Nat → Prop} (K : KR h0 u0 G z) (zo : z.ok) : ∀ m p f u, p + m = 600 → RE u0 u z nu E1 E2 d1 d2 fa → JM u (mkD u0 z nu E1 E2 d1 d2 fa) z.nr z.np p → ∃ u', fX12_judge_170 (f + (m + 1)) u (nI p) = fX12_judge_297 FU u' (nI 0) ∧ MAg gMk u u' ∧ JM u' (mkD u0 z nu E1 E2 d1 d2 fa) z.nr z.np 600
  | 0, p, f, u, e, E, J => by
    have ep : p = 600 := e
    subst ep
    have ul : fX12_judge_170 (f + (0 + 1)) u (nI 600) = fX12_judge_170F (fX12_judge_170 f) u (nI 600) := rfl
    exact ⟨u, by rw [ul, fX12_judge_170F, if_pos (show (600 : Int32) ≤ nI 600 from Int32.le_refl _)]; rfl, MAg.refl u, J⟩
  | m + 1, p, f, u, e, E, J => by
    have ul : fX12_judge_170 (f + (m + 1 + 1)) u (nI p) = fX12_judge_170F (fX12_judge_170 (f + (m + 1))) u (nI p) := rfl
    obtain ⟨u1, a1, a2, a3⟩ := mark1 (k170 := fX12_judge_170 (f + (m + 1))) K zo E J (by omega)
    obtain ⟨u2, b1, b2, b3⟩ := marksM K zo m (p + 1) f u1 (by omega) (E.fr a2 (fun q hq => .inl hq)) a3
    exact ⟨u2, by rw [ul, a1]; exact b1, a2.trans b2, b3⟩
