/-! what is told: the tally -/
abbrev cnt (u : MS) (d1 d2 : Int32) (k : Nat) : Prop := ¬ d1 < mA u 74 k ∧ ¬ d2 < mA u 76 k ∧ ¬ mA u 77 k ≤ d2
def tly (u : MS) (d1 d2 : Int32) : Nat → Nat → Nat
  | 0, _ => 0
  | n + 1, p => tly u d1 d2 n p + if cnt u d1 d2 n ∧ (mA u 75 n).toNatClampNeg = p then (mA u 78 n).toNatClampNeg else 0
theorem tly_le {u : MS} {d1 d2 : Int32} {n p : Nat} (h : ∀ k, k < n → (mA u 78 k).toNatClampNeg ≤ 9) : tly u d1 d2 n p ≤ 9 * n := by
  induction n with
  | zero => exact Nat.le_refl _
  | succ n ih =>
    have i1 := ih fun k hk => h k (by omega)
    have i2 := h n (by omega)
    unfold tly
    split <;> omega
def gFt (k : Nat) : Prop := k ≠ 112
theorem facts2 {d1 d2 : Int32} : ∀ m p f u, p + m = 600 → (∀ q, q < p → mA u 112 q = 0) → ∃ u', fX12_facts_2 (f + (m + 1)) u d1 d2 (nI p) = fX12_facts_24 FU u' d1 d2 0 ∧ MAg gFt u u' ∧ ∀ q, q < 600 → mA u' 112 q = 0
  | 0, p, f, u, e, hz => by
    have ep : p = 600 := e
    subst ep
    refine ⟨u, ?_, MAg.refl u, hz⟩
    have ul : fX12_facts_2 (f + (0 + 1)) u d1 d2 (nI 600) = fX12_facts_2F (fX12_facts_2 f) u d1 d2 (nI 600) := rfl
    rw [ul, fX12_facts_2F, if_pos (show (600 : Int32) ≤ nI 600 from Int32.le_refl _)]
  | m + 1, p, f, u, e, hz => by
    have hp : p < 600 := by omega
    have ul : fX12_facts_2 (f + (m + 1 + 1)) u d1 d2 (nI p) = fX12_facts_2F (fX12_facts_2 (f + (m + 1))) u d1 d2 (nI p) := rfl
    obtain ⟨u', a1, a2, a3⟩ := facts2 m (p + 1) f (mSA u 112 p 0) (by omega) (fun q hq => by
      simp only [z_mI_mSI, z_mL_mSI, z_mA_mSI, z_mB_mSI, z_mI_mSL, z_mL_mSL, z_mA_mSL, z_mB_mSL, z_mI_mSA, z_mL_mSA, z_mA_mSA, z_mB_mSA, z_mI_mSB, z_mL_mSB, z_mA_mSB, z_mB_mSB, if_true, if_false, and_false, false_and, and_true, true_and, and_self, decide_true, decide_false, reduceCtorEq, not_false_eq_true, not_true_eq_false, Nat.reduceEqDiff, Nat.reduceAdd, Nat.reduceMul, Nat.add_zero, Nat.zero_add]
      by_cases c : q = p
      · rw [if_pos c]
      · rw [if_neg c]; exact hz q (by omega))
    refine ⟨u', ?_, ((MAg.refl u).sA (fun q => q rfl)).trans a2, a3⟩
    rw [ul, fX12_facts_2F, if_neg (show ¬ (600 : Int32) ≤ nI p from nI_ge (b := 600) hp (by decide)), oC_t (ix_n (show p < mlen 112 from hp) (by decide)), nI_clamp (show p < 2147483648 by omega), oL_v, oL_v, show nI p + 1 = nI (p + 1) from nI_add p 1]
    exact a1
