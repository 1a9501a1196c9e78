theorem inst13 {h0 : PH} {u0 : MS} {G : Gh} {z : Sz} {d1 d2 : Int32} {r : Nat} {k2 : MS → Int32 → Int32 → Int32 → Option MS} (S : SX h0 G) (C : SzC h0 z) (M0 : SzM u0 z) (K : KR h0 u0 G z) (zo : z.ok) (hr : r < z.nr) : ∀ m s f u, s + m = z.nr → MAg g78 u0 u → (∀ t, t < s → Tf (mA u 94 (30 * r + t)) (hix u0 (125 * r) (125 * t))) → ∃ u' x4, fX12_instantiates_13 k2 (f + (m + 1)) u d1 d2 (nI r) (nI s) = fX12_instantiates_72 k2 FU u' d1 d2 (nI r) x4 (nI 0) ∧ Tf x4 (inf u0 d1 d2 r) ∧ MAg (fun k => k ≠ 94) u u' ∧ (∀ t, t < z.nr → Tf (mA u' 94 (30 * r + t)) (hix u0 (125 * r) (125 * t))) ∧ ∀ q, q < 30 * r → mA u' 94 q = mA u 94 q
  | 0, s, f, u, e, g, hz => by
    have nr := zo.2.2.2.2.1
    have es : s = z.nr := e
    subst es
    have m22 : mI u 22 = nI z.nr := ((g 22 (by unfold g78; omega)).1).trans M0.2.2.2.2.1
    have ul : fX12_instantiates_13 k2 (f + (0 + 1)) u d1 d2 (nI r) (nI z.nr) = fX12_instantiates_13F k2 (fX12_instantiates_13 k2 f) u d1 d2 (nI r) (nI z.nr) := rfl
    obtain ⟨x, a1, a2⟩ := forceM (d1 := d1) (d2 := d2) K zo (g.mono fun k hk => by unfold kS at hk; unfold g78; omega) hr
    refine ⟨u, x, ?_, a2, MAg.refl u, hz, fun _ _ => rfl⟩
    rw [ul, fX12_instantiates_13F, m22, if_pos (Int32.le_refl _), a1, oB_v]
    rfl
  | m + 1, s, f, u, e, g, hz => by
    have nr := zo.2.2.2.2.1
    have hs : s < z.nr := by omega
    have m22 : mI u 22 = nI z.nr := ((g 22 (by unfold g78; omega)).1).trans M0.2.2.2.2.1
    have ul : fX12_instantiates_13 k2 (f + (m + 1 + 1)) u d1 d2 (nI r) (nI s) = fX12_instantiates_13F k2 (fX12_instantiates_13 k2 (f + (m + 1))) u d1 d2 (nI r) (nI s) := rfl
    obtain ⟨b, b1, b2⟩ := higherM S C M0 K zo g hr hs
    have ib : isB b = true := by rcases b2.b with h | h <;> rw [h] <;> rfl
    have x94 : ix (nI (30 * r + s)) (mlen 94) = true := ix_n (show 30 * r + s < mlen 94 by show _ < 900; omega) (by decide)
    obtain ⟨u', x4, a1, a2, a3, a4, a5⟩ := inst13 (d1 := d1) (d2 := d2) (k2 := k2) S C M0 K zo hr m (s + 1) f (mSA u 94 (30 * r + s) b) (by omega) (g.sA (by unfold g78; omega)) (fun t ht => by
      simp only [z_mI_mSI, z_mL_mSI, z_mA_mSI, z_mB_mSI, z_mI_mSL, z_mL_mSL, z_mA_mSL, z_mB_mSL, z_mI_mSA, z_mL_mSA, z_mA_mSA, z_mB_mSA, z_mI_mSB, z_mL_mSB, z_mA_mSB, z_mB_mSB, if_true, if_false, and_false, false_and, and_true, true_and, and_self, decide_true, decide_false, reduceCtorEq, not_false_eq_true, not_true_eq_false, Nat.reduceEqDiff, Nat.reduceAdd, Nat.reduceMul, Nat.add_zero, Nat.zero_add]
      by_cases c : t = s
      · rw [if_pos (by omega), c]; exact b2
      · rw [if_neg (by omega)]; exact hz t (by omega))
    refine ⟨u', x4, ?_, a2, ((MAg.refl u).sA (fun q => q rfl)).trans a3, a4, fun q hq => ?_⟩
    · rw [ul, fX12_instantiates_13F, m22, if_neg (nI_ge hs (by omega)), oC_t (ix_n (show r < mlen 39 by show _ < 30; omega) (by decide)), oC_t (ix_n (show s < mlen 39 by show _ < 30; omega) (by decide)), nI_clamp (show r < 2147483648 by omega), nI_clamp (show s < 2147483648 by omega), b1, oB_v, oC_t ib, nI_30, oC_t x94, nI_clamp (show 30 * r + s < 2147483648 by omega), oL_v, oL_v, show nI s + 1 = nI (s + 1) from nI_add s 1]
      exact a1
    · rw [a5 q hq]
      simp only [z_mI_mSI, z_mL_mSI, z_mA_mSI, z_mB_mSI, z_mI_mSL, z_mL_mSL, z_mA_mSL, z_mB_mSL, z_mI_mSA, z_mL_mSA, z_mA_mSA, z_mB_mSA, z_mI_mSB, z_mL_mSB, z_mA_mSB, z_mB_mSB, if_true, if_false, and_false, false_and, and_true, true_and, and_self, decide_true, decide_false, reduceCtorEq, not_false_eq_true, not_true_eq_false, Nat.reduceEqDiff, Nat.reduceAdd, Nat.reduceMul, Nat.add_zero, Nat.zero_add]
      rw [if_neg (by omega)]
theorem inst2 {h0 : PH} {u0 u1 : MS} {G : Gh} {z : Sz} {nu : Nat → Int32} {E1 E2 E3 : Nat → List Tok} {d1 d2 : Int32} (S : SX h0 G) (C : SzC h0 z) (M0 : SzM u0 z) (mo : Mo h0 u0 G z E1 E2 E3) (K : KR h0 u0 G z) (zo : z.ok) (hc : z.rc ≤ 37000) (B1 : SBn u0 u1 z nu) (g1 : MAg g78 u0 u1) : ∀ m r f u, r + m = z.nr → INs u0 u1 u z nu E1 E2 d1 d2 r 0 → (∀ r' s, r' < r → s < z.nr → Tf (mA u 94 (30 * r' + s)) (hix u0 (125 * r') (125 * s))) → ∃ u', fX12_instantiates_2 (f + (m + 1)) u d1 d2 (nI r) = some u' ∧ INs u0 u1 u' z nu E1 E2 d1 d2 z.nr 0 ∧ (∀ r' s, r' < z.nr → s < z.nr → Tf (mA u' 94 (30 * r' + s)) (hix u0 (125 * r') (125 * s)))
  | 0, r, f, u, e, N, hz => by
    have er : r = z.nr := e
    subst er
    have B : SBn u0 u z nu := B1.fr N.ag (fun q hq => .inl hq)
    have ul : fX12_instantiates_2 (f + (0 + 1)) u d1 d2 (nI z.nr) = fX12_instantiates_2F (fX12_instantiates_2 f) u d1 d2 (nI z.nr) := rfl
    exact ⟨u, by rw [ul, fX12_instantiates_2F, B.m22, if_pos (Int32.le_refl _)], N, hz⟩
  | m + 1, r, f, u, e, N, hz => by
    have nr := zo.2.2.2.2.1
    have hr : r < z.nr := by omega
    obtain ⟨m42, v3, m41, c6⟩ := ruV K hr
    have h125 := pow_le zo.1 v3
    have B : SBn u0 u z nu := B1.fr N.ag (fun q hq => .inl hq)
    have g : MAg g78 u0 u := g1.trans (N.ag.mono fun k hk => .inl hk)
    have ul : fX12_instantiates_2 (f + (m + 1 + 1)) u d1 d2 (nI r) = fX12_instantiates_2F (fX12_instantiates_2 (f + (m + 1))) u d1 d2 (nI r) := rfl
    obtain ⟨f1, hf1⟩ : ∃ f', FU = f' + (z.nr + 1) := ⟨FU - (z.nr + 1), by have : FU = 100000 := rfl; omega⟩
    obtain ⟨f2, hf2⟩ : ∃ f', FU = f' + (z.np ^ vN u0 r + 1) := ⟨FU - (z.np ^ vN u0 r + 1), by have : FU = 100000 := rfl; omega⟩
    obtain ⟨u2, x4, a1, a2, a3, a4, a5⟩ := inst13 (d1 := d1) (d2 := d2) (k2 := fX12_instantiates_2 (f + (m + 1))) S C M0 K zo hr z.nr 0 f1 u (by omega) g (fun t ht => by omega)
    have N2 : INs u0 u1 u2 z nu E1 E2 d1 d2 r 0 := INs.mk (N.ag.trans (a3.mono fun k hk => by unfold gIn at hk; omega)) (N.ic.fr a3 (by decide) (by decide) (by decide)) (fun x hx => by rw [(a3 84 (by decide)).2.2.1]; exact N.ho x hx)
    obtain ⟨u3, b1, b2, b3⟩ := inst72 (k2 := fX12_instantiates_2 (f + (m + 1))) mo K zo hc hr B1 a2 (z.np ^ vN u0 r) 0 f2 u2 (by omega) N2
    obtain ⟨u4, c1, c2, c3⟩ := inst2 S C M0 mo K zo hc B1 g1 m (r + 1) f u3 (by omega) b2 (fun r' s h1 h2 => by
      rw [b3]
      by_cases c : r' = r
      · rw [c]; exact a4 s h2
      · rw [a5 _ (by omega)]; exact hz r' s (by omega) h2)
    refine ⟨u4, ?_, c2, c3⟩
    rw [ul, fX12_instantiates_2F, B.m22, if_neg (nI_ge hr (by omega)), hf1, show (0 : Int32) = nI 0 from rfl, a1, hf2, b1]
    exact c1
theorem instantiatesM {h0 : PH} {u0 u1 : MS} {G : Gh} {z : Sz} {nu : Nat → Int32} {E1 E2 E3 : Nat → List Tok} {d1 d2 : Int32} {fa : Nat → Prop} (S : SX h0 G) (C : SzC h0 z) (M0 : SzM u0 z) (mo : Mo h0 u0 G z E1 E2 E3) (K : KR h0 u0 G z) (zo : z.ok) (hc : z.rc ≤ 37000) (B1 : SBn u0 u1 z nu) (g1 : MAg g78 u0 u1) (F : ∀ q, q < 600 → F9 u1 q (fa q)) : ∃ u', fX12_instantiates u1 d1 d2 = some u' ∧ MAg gIn u1 u' ∧ RI u0 u' z nu E1 E2 d1 d2 fa := by
  have nr := zo.2.2.2.2.1
  have N : INs u0 u1 u1 z nu E1 E2 d1 d2 0 0 := by
    apply INs.mk
    · exact MAg.refl u1
    · rw [dn_zero]
      exact ICn.mk List.Pairwise.nil (fun a h => by cases h) (fun p hp => (F p hp).2.2.2.1) (fun p l0 c hp e => by
        have e' : [] = l0 ++ [c] := e
        have := congrArg List.length e'
        rw [List.length_append] at this
        exact absurd this.symm (by rw [List.length_nil, List.length_singleton]; omega))
    · rw [dn_zero]; intro x hx; cases hx
  obtain ⟨f, hf⟩ : ∃ f', FU = f' + (z.nr + 1) := ⟨FU - (z.nr + 1), by have : FU = 100000 := rfl; omega⟩
  obtain ⟨u', a1, a2, a3⟩ := inst2 S C M0 mo K zo hc B1 g1 z.nr 0 f u1 (by omega) N (fun r s h => by omega)
  have ic := a2.ic
  have ho := a2.ho
  rw [dn_zero] at ic ho
  have e91 := (a2.ag 91 (by unfold gIn; omega)).2.2.1
  have e92 := (a2.ag 92 (by unfold gIn; omega)).2.2.1
  have e93 := (a2.ag 93 (by unfold gIn; omega)).2.2.1
  refine ⟨u', ?_, a2.ag, RI.mk (B1.fr a2.ag (fun q hq => .inl hq)) ?_ ?_ ?_ a3 ?_⟩
  · rw [fX12_instantiates, fX12_instantiates_0, hf]; exact a1
  · intro q hq
    obtain ⟨p1, p2, p3, _⟩ := F q hq
    rw [e92, e93, p2, p3]
    exact ⟨p1.b, .inl rfl⟩
  · intro r b hr hb
    exact ho _ (mem_insL.mpr ⟨r, b, hr, hb, rfl⟩)
  · intro p hp; exact ic.ch p hp
  · intro p hp; rw [e91]; exact (F p hp).1
