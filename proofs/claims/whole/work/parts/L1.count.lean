/-! the end of a judgment of the reference: what is counted -/
noncomputable def cd (P : Nat → Prop) : Nat → Bool := fun x => @decide (P x) (Classical.propDecidable _)
theorem cd_t {P : Nat → Prop} {x : Nat} : cd P x = true ↔ P x := by
  unfold cd
  exact @decide_eq_true_iff (P x) (Classical.propDecidable _)
theorem cd_y {P : Nat → Prop} {x : Nat} (h : P x) : cd P x = true := cd_t.mpr h
theorem cd_n {P : Nat → Prop} {x : Nat} (h : ¬ P x) : cd P x = false := by
  cases e : cd P x with
  | false => rfl
  | true => exact absurd (cd_t.mp e) h
theorem count_y {P : Nat → Prop} {l : List Nat} {x : Nat} (h : P x) : (l ++ [x]).countP (cd P) = l.countP (cd P) + 1 := by
  rw [List.countP_append, List.countP_singleton, cd_y h, if_pos rfl]
theorem count_n {P : Nat → Prop} {l : List Nat} {x : Nat} (h : ¬ P x) : (l ++ [x]).countP (cd P) = l.countP (cd P) := by
  rw [List.countP_append, List.countP_singleton, cd_n h, if_neg (by decide), Nat.add_zero]
theorem cnt118 {h0 : PH} {u0 : MS} {G : Gh} {z : Sz} {nu : Nat → Int32} {A : Nat → Prop} {r : Nat} {k106 : MS → Int32 → Option (MS × Int32)} (K : KR h0 u0 G z) (zo : z.ok) (hr : r < z.nr) : ∀ m b f u, b + m = z.np ^ vN u0 r → SBn u0 u z nu → (∀ b, b < z.np ^ vN u0 r → Tf (mA u 89 (125 * r + b)) (A (125 * r + b))) → mI u 103 = nI ((dn z.np (vN u0) r b).countP (cd A)) → ∃ u', fX12_judge_118 k106 (f + (m + 1)) u (nI r) (nI b) = k106 u' (nI (r + 1)) ∧ MAg (fun k => k ≠ 103) u u' ∧ mI u' 103 = nI ((dn z.np (vN u0) (r + 1) 0).countP (cd A))
  | 0, b, f, u, e, B, ha, hc => by
    have nr := zo.2.2.2.2.1
    obtain ⟨m42, v3, m41, c6⟩ := ruV K hr
    have h125 := pow_le zo.1 v3
    have m42u : mA u 42 r = nI (vN u0 r) := by rw [(B.g 42 (by unfold kS; omega)).2.2.1]; exact m42
    have ul : fX12_judge_118 k106 (f + (0 + 1)) u (nI r) (nI b) = fX12_judge_118F k106 (fX12_judge_118 k106 f) u (nI r) (nI b) := rfl
    have eb : b = z.np ^ vN u0 r := e
    refine ⟨u, ?_, MAg.refl u, ?_⟩
    · rw [ul, fX12_judge_118F, instM B.m18 m42u (by omega) zo.1 v3, oB_v, if_pos (nI_le (by omega) (by omega)), oL_v, show nI r + 1 = nI (r + 1) from nI_add r 1]
    · rw [dn_zero, ← dn_next, ← eb]; exact hc
  | m + 1, b, f, u, e, B, ha, hc => by
    have nr := zo.2.2.2.2.1
    obtain ⟨m42, v3, m41, c6⟩ := ruV K hr
    have h125 := pow_le zo.1 v3
    have hb : b < z.np ^ vN u0 r := by omega
    have m42u : mA u 42 r = nI (vN u0 r) := by rw [(B.g 42 (by unfold kS; omega)).2.2.1]; exact m42
    have ul : fX12_judge_118 k106 (f + (m + 1 + 1)) u (nI r) (nI b) = fX12_judge_118F k106 (fX12_judge_118 k106 (f + (m + 1))) u (nI r) (nI b) := rfl
    have e125 : 125 * nI r + nI b = nI (125 * r + b) := by rw [show (125 : Int32) = nI 125 from rfl, nI_mul, nI_add]
    have e1 : nI b + 1 = nI (b + 1) := nI_add b 1
    rw [ul, fX12_judge_118F, instM B.m18 m42u (by omega) zo.1 v3, oB_v, if_neg (nI_ge hb (by omega)), e125, oC_t (ix_n (show 125 * r + b < mlen 89 by show _ < 3750; omega) (by decide)), nI_clamp (show 125 * r + b < 2147483648 by omega)]
    rcases (ha b hb).cases with ⟨_, a2, a3⟩ | ⟨a1, a2⟩
    · have g : MAg (fun k => k ≠ 103) u (mSI u 103 (mI u 103 + 1)) := (MAg.refl u).sI (fun q => q rfl)
      obtain ⟨u', q1, q2, q3⟩ := cnt118 (k106 := k106) K zo hr m (b + 1) f (mSI u 103 (mI u 103 + 1)) (by omega) (B.fr g (fun q hq => by omega)) (fun c hc => ha c hc) (by
        rw [dn_succ, count_y a3, hc]
        simp only [z_mI_mSI, z_mL_mSI, z_mA_mSI, z_mB_mSI, z_mI_mSL, z_mL_mSL, z_mA_mSL, z_mB_mSL, z_mI_mSA, z_mL_mSA, z_mA_mSA, z_mB_mSA, z_mI_mSB, z_mL_mSB, z_mA_mSB, z_mB_mSB, if_true, if_false, and_false, false_and, and_true, true_and, and_self, decide_true, decide_false, reduceCtorEq, not_false_eq_true, not_true_eq_false, Nat.reduceEqDiff, Nat.reduceAdd, Nat.reduceMul, Nat.add_zero, Nat.zero_add]
        exact nI_add _ 1)
      rw [if_neg a2, oL_v, fX12_judge_155, oL_v, e1]
      exact ⟨u', q1, g.trans q2, q3⟩
    · obtain ⟨u', q1, q2, q3⟩ := cnt118 (k106 := k106) K zo hr m (b + 1) f u (by omega) B ha (by rw [dn_succ, count_n a2, hc])
      rw [if_pos a1, fX12_judge_155, oL_v, e1]
      exact ⟨u', q1, q2, q3⟩
theorem cnt106 {h0 : PH} {u0 : MS} {G : Gh} {z : Sz} {nu : Nat → Int32} {A : Nat → Prop} (K : KR h0 u0 G z) (zo : z.ok) : ∀ m r f u, r + m = z.nr → SBn u0 u z nu → (∀ x, x ∈ insL z.nr z.np (vN u0) → Tf (mA u 89 x) (A x)) → mI u 103 = nI ((dn z.np (vN u0) r 0).countP (cd A)) → ∃ u', fX12_judge_106 (f + (m + 1)) u (nI r) = fX12_judge_170 FU u' (nI 0) ∧ MAg (fun k => k ≠ 103) u u' ∧ mI u' 103 = nI ((insL z.nr z.np (vN u0)).countP (cd A))
  | 0, r, f, u, e, B, ha, hc => by
    have er : r = z.nr := e
    subst er
    have ul : fX12_judge_106 (f + (0 + 1)) u (nI z.nr) = fX12_judge_106F (fX12_judge_106 f) u (nI z.nr) := rfl
    rw [dn_zero] at hc
    exact ⟨u, by rw [ul, fX12_judge_106F, B.m22, if_pos (Int32.le_refl _)]; rfl, MAg.refl u, hc⟩
  | m + 1, r, f, u, e, B, ha, hc => by
    have nr := zo.2.2.2.2.1
    have hr : r < z.nr := by omega
    obtain ⟨m42, v3, m41, c6⟩ := ruV K hr
    have h125 := pow_le zo.1 v3
    have ul : fX12_judge_106 (f + (m + 1 + 1)) u (nI r) = fX12_judge_106F (fX12_judge_106 (f + (m + 1))) u (nI r) := rfl
    obtain ⟨f2, hf2⟩ : ∃ f', FU = f' + (z.np ^ vN u0 r + 1) := ⟨FU - (z.np ^ vN u0 r + 1), by have : FU = 100000 := rfl; omega⟩
    obtain ⟨u1, a1, a2, a3⟩ := cnt118 (k106 := fX12_judge_106 (f + (m + 1))) (A := A) K zo hr (z.np ^ vN u0 r) 0 f2 u (by omega) B (fun b hb => ha _ (mem_insL.mpr ⟨r, b, hr, hb, rfl⟩)) hc
    obtain ⟨u2, b1, b2, b3⟩ := cnt106 (A := A) K zo m (r + 1) f u1 (by omega) (B.fr a2 (fun q hq => by omega)) (fun x hx => by rw [(a2 89 (by decide)).2.2.1]; exact ha x hx) a3
    refine ⟨u2, ?_, a2.trans b2, b3⟩
    rw [ul, fX12_judge_106F, B.m22, if_neg (nI_ge hr (by omega)), hf2, show (0 : Int32) = nI 0 from rfl, a1, ← hf2]
    exact b1
theorem RQ.fr2 {u u' : MS} {D : Mdl} {P R : Nat → Prop} {T : Nat → Prop} (Q : RQ u D P R) (g : MAg T u u') (hT : ∀ q, q ≤ 94 → T q) : RQ u' D P R := by
  have m : ∀ k, k ≤ 94 → ∀ i, mA u' k i = mA u k i := fun k hk => (g k (hT k hk)).2.2.1
  apply RQ.mk
  · intro p hp; rw [m 87 (by decide)]; exact (Q.ch p hp).eqv fun a _ => m 86 (by decide) a
  · exact Q.il
  · exact Q.ln
  · intro x hx hh; rw [m 40 (by decide)]; exact Q.k0 x hx hh
  · intro x hx; rw [m 89 (by decide)]; exact Q.a9 x hx
  · intro x hx; rw [m 90 (by decide)]; exact Q.b0 x hx
  · intro x y hx hy; rw [m 94 (by decide)]; exact Q.h4 x y hx hy
  · intro p hp; rw [m 91 (by decide)]; exact Q.f1 p hp
theorem RE.fr {u0 u u' : MS} {z : Sz} {nu : Nat → Int32} {E1 E2 : Nat → List Tok} {d1 d2 : Int32} {fa : Nat → Prop} {T : Nat → Prop} (E : RE u0 u z nu E1 E2 d1 d2 fa) (g : MAg T u u') (hT : ∀ q, q ≤ 94 → T q) : RE u0 u' z nu E1 E2 d1 d2 fa := by
  have m : ∀ k, k ≤ 94 → ∀ i, mA u' k i = mA u k i := fun k hk => (g k (hT k hk)).2.2.1
  have e2 : p92 u' = p92 u := by funext p; unfold p92; rw [m 92 (by decide)]
  have e3 : p93 u' = p93 u := by funext p; unfold p93; rw [m 93 (by decide)]
  refine RE.mk (E.I.fr g (fun q hq => hT q (by omega)) (fun q hq => by rw [m 92 (by decide), m 93 (by decide)]; exact E.I.b23 q hq)) ?_ ?_ ?_ E.ex
  · rw [e2, e3]; exact E.Q.fr2 g hT
  · rw [e2]; exact E.lp
  · rw [e3]; exact E.lr
