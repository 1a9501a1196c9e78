/-- a testimony of the reference -/
def okTe (u : MS) (n : Nat) : Prop := ∀ k, k < n → (∃ p w, p < 600 ∧ w ≤ 9 ∧ mA u 75 k = nI p ∧ mA u 78 k = nI w)
theorem okTe.w {u : MS} {n : Nat} (o : okTe u n) : ∀ k, k < n → (mA u 78 k).toNatClampNeg ≤ 9 := fun k hk => by
  obtain ⟨p, w, _, hw, _, e⟩ := o k hk
  rw [e, nI_clamp (by omega)]; exact hw
theorem tly_fr {u u' : MS} {d1 d2 : Int32} {n p : Nat} (g : MAg gFt u u') : tly u' d1 d2 n p = tly u d1 d2 n p := by
  have e : ∀ k, k ≠ 112 → ∀ i, mA u' k i = mA u k i := fun k hk => (g k hk).2.2.1
  induction n with
  | zero => rfl
  | succ n ih =>
    unfold tly
    rw [ih]
    simp only [cnt, e 74 (by decide), e 75 (by decide), e 76 (by decide), e 77 (by decide), e 78 (by decide)]
theorem facts24 {d1 d2 : Int32} {nt : Nat} (h100 : nt ≤ 100) : ∀ m k f u, k + m = nt → mI u 73 = nI nt → okTe u nt → (∀ q, q < 600 → mA u 112 q = nI (tly u d1 d2 k q)) → ∃ u', fX12_facts_24 (f + (m + 1)) u d1 d2 (nI k) = fX12_facts_90 FU u' 0 ∧ MAg gFt u u' ∧ ∀ q, q < 600 → mA u' 112 q = nI (tly u' d1 d2 nt q)
  | 0, k, f, u, e, m73, ot, hz => by
    have ep : k = nt := e
    subst ep
    refine ⟨u, ?_, MAg.refl u, hz⟩
    have ul : fX12_facts_24 (f + (0 + 1)) u d1 d2 (nI k) = fX12_facts_24F (fX12_facts_24 f) u d1 d2 (nI k) := rfl
    rw [ul, fX12_facts_24F, m73, if_pos (Int32.le_refl _)]
  | m + 1, k, f, u, e, m73, ot, hz => by
    have hk : k < nt := by omega
    have ul : fX12_facts_24 (f + (m + 1 + 1)) u d1 d2 (nI k) = fX12_facts_24F (fX12_facts_24 (f + (m + 1))) u d1 d2 (nI k) := rfl
    have x : ∀ s, mlen s = 100 → ix (nI k) (mlen s) = true := fun s hs => ix_n (by rw [hs]; omega) (by rw [hs]; decide)
    have ck : Int32.toNatClampNeg (nI k) = k := nI_clamp (by omega)
    have e1 : nI k + 1 = nI (k + 1) := nI_add k 1
    have skip : ¬ cnt u d1 d2 k → ∃ u', fX12_facts_82 (fX12_facts_24 (f + (m + 1))) u d1 d2 (nI k) = fX12_facts_90 FU u' 0 ∧ MAg gFt u u' ∧ ∀ q, q < 600 → mA u' 112 q = nI (tly u' d1 d2 nt q) := by
      intro c
      rw [fX12_facts_82, oL_v, e1]
      refine facts24 h100 m (k + 1) f u (by omega) m73 ot (fun q hq => ?_)
      rw [hz q hq]
      unfold tly
      rw [if_neg (fun h => c h.1), Nat.add_zero]
      cases k <;> rfl
    rw [ul, fX12_facts_24F, m73, if_neg (nI_ge hk (by omega)), oC_t (x 74 rfl), ck]
    by_cases c1 : d1 < mA u 74 k
    · rw [if_pos c1]; exact skip fun h => h.1 c1
    rw [if_neg c1, oC_t (x 76 rfl)]
    by_cases c2 : d2 < mA u 76 k
    · rw [if_pos c2]; exact skip fun h => h.2.1 c2
    rw [if_neg c2, oC_t (x 77 rfl)]
    by_cases c3 : mA u 77 k ≤ d2
    · rw [if_pos c3]; exact skip fun h => h.2.2 c3
    obtain ⟨p, w, hp, hw, ep, ew⟩ := ot k hk
    have x112 : ix (nI p) (mlen 112) = true := ix_n (show p < mlen 112 from hp) (by decide)
    have g1 : MAg gFt u (mSA u 112 p (nI (tly u d1 d2 k p) + nI w)) := (MAg.refl u).sA (fun q => q rfl)
    rw [if_neg c3, oC_t (x 75 rfl), oC_t (x 78 rfl), ep, oC_t x112, oC_t x112, nI_clamp (show p < 2147483648 by omega), ew, hz p hp, oL_v, fX12_facts_82, oL_v, e1]
    obtain ⟨u', a1, a2, a3⟩ := facts24 h100 m (k + 1) f (mSA u 112 p (nI (tly u d1 d2 k p) + nI w)) (by omega) (by rw [(g1 73 (by unfold gFt; decide)).1]; exact m73) (fun j hj => by rw [(g1 75 (by unfold gFt; decide)).2.2.1, (g1 78 (by unfold gFt; decide)).2.2.1]; exact ot j hj) (fun q hq => by
      rw [tly_fr g1]
      simp only [z_mI_mSI, z_mL_mSI, z_mA_mSI, z_mB_mSI, z_mI_mSL, z_mL_mSL, z_mA_mSL, z_mB_mSL, z_mI_mSA, z_mL_mSA, z_mA_mSA, z_mB_mSA, z_mI_mSB, z_mL_mSB, z_mA_mSB, z_mB_mSB, if_true, if_false, and_false, false_and, and_true, true_and, and_self, decide_true, decide_false, reduceCtorEq, not_false_eq_true, not_true_eq_false, Nat.reduceEqDiff, Nat.reduceAdd, Nat.reduceMul, Nat.add_zero, Nat.zero_add]
      show _ = nI (tly u d1 d2 k q + if cnt u d1 d2 k ∧ (mA u 75 k).toNatClampNeg = q then (mA u 78 k).toNatClampNeg else 0)
      rw [ep, ew, nI_clamp (show p < 2147483648 by omega), nI_clamp (show w < 2147483648 by omega)]
      by_cases e : q = p
      · rw [if_pos e, if_pos ⟨⟨c1, c2, c3⟩, e.symm⟩, nI_add, e]
      · rw [if_neg e, if_neg (fun h => e h.2.symm), Nat.add_zero]; exact hz q hq)
    exact ⟨u', a1, g1.trans a2, a3⟩
