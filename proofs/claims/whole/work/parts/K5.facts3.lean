/-- a fact: told enough, and more than its opposite -/
def fax (u : MS) (d1 d2 : Int32) (nt p : Nat) : Prop := 3 ≤ tly u d1 d2 nt p ∧ tly u d1 d2 nt (p ^^^ 1) < tly u d1 d2 nt p
def gF9 (k : Nat) : Prop := k ≠ 87 ∧ k ≠ 88 ∧ k ≠ 91 ∧ k ≠ 92 ∧ k ≠ 93
def F9 (u : MS) (q : Nat) (P : Prop) : Prop := Tf (mA u 91 q) P ∧ mA u 92 q = mA u 91 q ∧ mA u 93 q = 0 ∧ mA u 87 q = -1 ∧ mA u 88 q = -1
theorem facts90 {T : Nat → Nat} (hT : ∀ q, q < 600 → T q ≤ 900) : ∀ m p f u, p + m = 600 → (∀ q, q < 600 → mA u 112 q = nI (T q)) → (∀ q, q < p → F9 u q (3 ≤ T q ∧ T (q ^^^ 1) < T q)) → ∃ u', fX12_facts_90 (f + (m + 1)) u (nI p) = some u' ∧ MAg gF9 u u' ∧ ∀ q, q < 600 → F9 u' q (3 ≤ T q ∧ T (q ^^^ 1) < T q)
  | 0, p, f, u, e, hz, hf => by
    have ep : p = 600 := e
    subst ep
    have ul : fX12_facts_90 (f + (0 + 1)) u (nI 600) = fX12_facts_90F (fX12_facts_90 f) u (nI 600) := rfl
    refine ⟨u, ?_, MAg.refl u, hf⟩
    rw [ul, fX12_facts_90F, if_pos (show (600 : Int32) ≤ nI 600 from Int32.le_refl _)]
  | m + 1, p, f, u, e, hz, hf => by
    have hp : p < 600 := by omega
    have hq := xor1_lt hp
    have t1 := hT p hp
    have t2 := hT _ hq
    have ul : fX12_facts_90 (f + (m + 1 + 1)) u (nI p) = fX12_facts_90F (fX12_facts_90 (f + (m + 1))) u (nI p) := rfl
    have x : ∀ s, mlen s = 600 → ix (nI p) (mlen s) = true := fun s hs => ix_n (by rw [hs]; exact hp) (by rw [hs]; decide)
    have cp : Int32.toNatClampNeg (nI p) = p := nI_clamp (by omega)
    have key : ∀ a : Int32, Tf a (3 ≤ T p ∧ T (p ^^^ 1) < T p) → ∃ u', fX12_facts_134 (fX12_facts_90 (f + (m + 1))) u (nI p) a (nI p) = some u' ∧ MAg gF9 u u' ∧ ∀ q, q < 600 → F9 u' q (3 ≤ T q ∧ T (q ^^^ 1) < T q) := by
      intro a ta
      have ib : isB a = true := by rcases ta.b with h | h <;> rw [h] <;> rfl
      have e91 : mA (mSA u 91 p a) 91 p = a := by simp only [z_mI_mSI, z_mL_mSI, z_mA_mSI, z_mB_mSI, z_mI_mSL, z_mL_mSL, z_mA_mSL, z_mB_mSL, z_mI_mSA, z_mL_mSA, z_mA_mSA, z_mB_mSA, z_mI_mSB, z_mL_mSB, z_mA_mSB, z_mB_mSB, if_true, if_false, and_false, false_and, and_true, true_and, and_self, decide_true, decide_false, reduceCtorEq, not_false_eq_true, not_true_eq_false, Nat.reduceEqDiff, Nat.reduceAdd, Nat.reduceMul, Nat.add_zero, Nat.zero_add]
      have g : MAg gF9 u (mSA (mSA (mSA (mSA (mSA u 91 p a) 92 p a) 93 p 0) 87 p (-1)) 88 p (-1)) := (((((MAg.refl u).sA (fun q => q.2.2.1 rfl)).sA (fun q => q.2.2.2.1 rfl)).sA (fun q => q.2.2.2.2 rfl)).sA (fun q => q.1 rfl)).sA (fun q => q.2.1 rfl)
      obtain ⟨u', a1, a2, a3⟩ := facts90 hT m (p + 1) f _ (by omega) (fun q hq => by rw [(g 112 (by unfold gF9; omega)).2.2.1]; exact hz q hq) (fun q hq => by
        unfold F9
        by_cases c : q = p
        · subst c
          simp only [z_mI_mSI, z_mL_mSI, z_mA_mSI, z_mB_mSI, z_mI_mSL, z_mL_mSL, z_mA_mSL, z_mB_mSL, z_mI_mSA, z_mL_mSA, z_mA_mSA, z_mB_mSA, z_mI_mSB, z_mL_mSB, z_mA_mSB, z_mB_mSB, if_true, if_false, and_false, false_and, and_true, true_and, and_self, decide_true, decide_false, reduceCtorEq, not_false_eq_true, not_true_eq_false, Nat.reduceEqDiff, Nat.reduceAdd, Nat.reduceMul, Nat.add_zero, Nat.zero_add]
          exact ta
        · have := hf q (by omega)
          unfold F9 at this
          simp only [z_mI_mSI, z_mL_mSI, z_mA_mSI, z_mB_mSI, z_mI_mSL, z_mL_mSL, z_mA_mSL, z_mB_mSL, z_mI_mSA, z_mL_mSA, z_mA_mSA, z_mB_mSA, z_mI_mSB, z_mL_mSB, z_mA_mSB, z_mB_mSB, if_true, if_false, and_false, false_and, and_true, true_and, and_self, decide_true, decide_false, reduceCtorEq, not_false_eq_true, not_true_eq_false, Nat.reduceEqDiff, Nat.reduceAdd, Nat.reduceMul, Nat.add_zero, Nat.zero_add, if_neg c]
          exact this)
      refine ⟨u', ?_, g.trans a2, a3⟩
      rw [fX12_facts_134, oC_t ib, oC_t (x 91 rfl), cp, oL_v, oC_t (x 91 rfl), e91, oC_t ib, oC_t (x 92 rfl), oL_v, oC_t (x 93 rfl), oL_v, oC_t (x 87 rfl), oL_v, oC_t (x 88 rfl), oL_v, oL_v, show nI p + 1 = nI (p + 1) from nI_add p 1]
      exact a1
    rw [ul, fX12_facts_90F, if_neg (show ¬ (600 : Int32) ≤ nI p from nI_ge (b := 600) hp (by decide)), oC_t (x 112 rfl), cp, hz p hp]
    by_cases c : T p < 3
    · rw [if_pos (show nI (T p) < 3 from nI_lt (b := 3) c (by decide))]
      exact key 0 (.inr ⟨rfl, fun h => by omega⟩)
    · rw [if_neg (show ¬ nI (T p) < 3 from nI_nlt (b := 3) (by omega) (by omega)), oC_t (x 112 rfl), nI_xor1 hp, oC_t (ix_n (show p ^^^ 1 < mlen 112 from hq) (by decide)), nI_clamp (show p ^^^ 1 < 2147483648 by omega), hz _ hq]
      by_cases d : T p ≤ T (p ^^^ 1)
      · rw [if_pos (nI_le d (by omega))]
        exact key 0 (.inr ⟨rfl, fun h => by omega⟩)
      · rw [if_neg (nI_ge (by omega) (by omega))]
        exact key 1 (.inl ⟨rfl, by omega, by omega⟩)
