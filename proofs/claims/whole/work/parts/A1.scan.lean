/-! the two scans -/
theorem tk_f {b : Nat → Nat} {L p : Nat} (bb : ∀ q, b q < 256) (hL : L ≤ 4000) (hp : p ≤ L) : (tk b L p).1 < 38 ∧ (p < L → p < (tk b L p).2.1 ∧ (tk b L p).2.1 ≤ L ∧ (tk b L p).1 ≠ 0) ∧ (p = L → (tk b L p).1 = 0) ∧ ((tk b L p).1 = 1 ∨ 20 ≤ (tk b L p).1 → okN (tk b L p).2.2.2) ∧ ((tk b L p).1 = 3 → (tk b L p).2.2.1 ≤ 999999) ∧ ((tk b L p).1 = 2 → (tk b L p).2.2.1 < 256) := by
  by_cases c0 : p < L
  · by_cases sm : isSm (b p)
    · have hN : 1 ≤ rn aln b L 5000 p := by
        show 1 ≤ (if p < L then (if aln (b p) then rn aln b L 4999 (p + 1) + 1 else 0) else 0)
        rw [if_pos c0, if_pos (show aln (b p) = true from decide_eq_true (Or.inl sm))]
        omega
      have hle := rn_le aln b L 5000 p (by omega)
      have hin := rn_in aln b L 5000 p
      have et : tk b L p = if rn aln b L 5000 p ≤ 10 then (kwK (nmL b p (rn aln b L 5000 p)), p + rn aln b L 5000 p, 0, nmL b p (rn aln b L 5000 p)) else (4, p + rn aln b L 5000 p, 0, []) := by
        unfold tk
        rw [if_neg (by omega), if_pos sm]
      rw [et]
      have kr := kwK_r (nmL b p (rn aln b L 5000 p))
      by_cases q : rn aln b L 5000 p ≤ 10
      · simp only [if_pos q]
        exact ⟨by omega, fun _ => ⟨by omega, by omega, by omega⟩, fun q => by omega, fun _ => nmL_ok hN q (fun q h1 h2 => of_decide_eq_true (hin q h1 h2)), fun q => by omega, fun q => by omega⟩
      · simp only [if_neg q]
        exact ⟨by omega, fun _ => ⟨by omega, by omega, by omega⟩, fun q => by omega, fun q => by omega, fun q => by omega, fun q => by omega⟩
    · by_cases dg : isDg (b p)
      · have hle := rn_le dgt b L 5000 p (by omega)
        have hin := rn_in dgt b L 5000 p
        have hN : 1 ≤ rn dgt b L 5000 p := by
          show 1 ≤ (if p < L then (if dgt (b p) then rn dgt b L 4999 (p + 1) + 1 else 0) else 0)
          rw [if_pos c0, if_pos (show dgt (b p) = true from decide_eq_true dg)]
          omega
        have et : tk b L p = if rn dgt b L 5000 p ≤ 6 then (3, p + rn dgt b L 5000 p, dgV b p (rn dgt b L 5000 p), []) else (4, p + rn dgt b L 5000 p, 0, []) := by
          unfold tk
          rw [if_neg (by omega), if_neg sm, if_pos dg]
        rw [et]
        by_cases q : rn dgt b L 5000 p ≤ 6
        · simp only [if_pos q]
          exact ⟨by omega, fun _ => ⟨by omega, by omega, by omega⟩, fun q => by omega, fun q => by omega, fun _ => dg6 q (fun q h1 h2 => (of_decide_eq_true (hin q h1 h2)).2), fun q => by omega⟩
        · simp only [if_neg q]
          exact ⟨by omega, fun _ => ⟨by omega, by omega, by omega⟩, fun q => by omega, fun q => by omega, fun q => by omega, fun q => by omega⟩
      · by_cases cp : 65 ≤ b p ∧ b p ≤ 90
        · have et : tk b L p = (2, p + 1, b p, []) := by
            unfold tk
            rw [if_neg (by omega), if_neg sm, if_neg dg, if_pos cp]
          rw [et]
          exact ⟨by simp only; omega, fun _ => ⟨by simp only; omega, by simp only; omega, by simp only; omega⟩, fun q => by omega, fun q => by simp only at q; omega, fun q => by simp only at q; omega, fun _ => bb p⟩
        · have et : tk b L p = ((sgK (b p) (if p + 1 < L then b (p + 1) else 0)).1, p + (sgK (b p) (if p + 1 < L then b (p + 1) else 0)).2, 0, []) := by
            unfold tk
            rw [if_neg (by omega), if_neg sm, if_neg dg, if_neg cp]
          have kb : ∀ d, 4 ≤ (sgK (b p) d).1 ∧ (sgK (b p) d).1 < 20 ∧ 1 ≤ (sgK (b p) d).2 ∧ (sgK (b p) d).2 ≤ 2 ∧ ((sgK (b p) d).2 = 2 → d ≠ 0) := by
            intro d
            unfold sgK
            repeat' split
            all_goals first | (refine ⟨by decide, by decide, by decide, by decide, fun _ => by omega⟩) | skip
            unfold sg1
            repeat' split
            all_goals (refine ⟨by decide, by decide, by decide, by decide, fun q => absurd q (by decide)⟩)
          have k1 := kb (if p + 1 < L then b (p + 1) else 0)
          have k2 : p + (sgK (b p) (if p + 1 < L then b (p + 1) else 0)).2 ≤ L := by
            by_cases q : p + 1 < L
            · omega
            · rw [if_neg q] at k1 ⊢
              have := k1.2.2.2.2
              omega
          generalize (sgK (b p) (if p + 1 < L then b (p + 1) else 0)) = s at *
          rw [et]
          refine ⟨by simp only; omega, fun _ => ⟨by simp only; omega, by simp only; omega, by simp only; omega⟩, fun q => by omega, fun q => by simp only at q; omega, fun q => by simp only at q; omega, fun q => by simp only at q; omega⟩
  · have et : tk b L p = (0, p, 0, []) := by
      unfold tk
      rw [if_pos (by omega)]
    rw [et]
    exact ⟨show 0 < 38 by omega, fun q => by omega, fun _ => rfl, fun q => by simp only at q; omega, fun q => by simp only at q; omega, fun q => by simp only at q; omega⟩
/-- token i in both: at p, of the kind k, with value v and letters ls -/
def TkR (h : PH) (u : MS) (G : Gh) (i : Nat) (d : Nat × Nat × Nat × List Nat) : Prop := hA h G.kd i = cK d.2.1 ∧ hA h G.st i = nI d.1 ∧ hB h G.vl i = (if d.2.1 = 1 ∨ 20 ≤ d.2.1 then nL (pk 64 d.2.2.2) else nL d.2.2.1) ∧ mA u 5 i = nI d.2.1 ∧ mA u 6 i = nI d.1 ∧ (d.2.1 = 2 ∨ d.2.1 = 3 → mA u 7 i = nI d.2.2.1) ∧ (d.2.1 = 1 ∨ 20 ≤ d.2.1 → mB u 8 i = nL (pk 37 d.2.2.2) ∧ okN d.2.2.2) ∧ d.2.1 < 38 ∧ (d.2.1 = 3 → d.2.2.1 ≤ 999999) ∧ (d.2.1 = 2 → d.2.2.1 < 256)
/-- the reference's rest, behind what the other program has read -/
theorem m_rest {L : Nat} {b : Nat → Nat} (hL : L ≤ 4000) : ∀ n p i F {u : MS}, L - p ≤ n → p ≤ L → n + 2 ≤ F → i ≤ 1201 → ME u L b → mI u 10 = nI i → ∃ u', fX12_cut_7 F u (nI p) = some u' ∧ (∀ j, j < i → mA u' 5 j = mA u 5 j ∧ mA u' 6 j = mA u 6 j ∧ mA u' 7 j = mA u 7 j ∧ mB u' 8 j = mB u 8 j) ∧ MAg (fun k => k < 5 ∨ k = 9 ∨ 10 < k) u u' := by
  intro n
  induction n with
  | zero =>
    intro p i F u hn hp hF hi E h10
    obtain ⟨f, rfl⟩ : ∃ f, F = f + 1 := ⟨F - 1, by omega⟩
    have ep : p = L := by omega
    subst ep
    show ∃ u', fX12_cut_7F (fX12_cut_7 f) u (nI p) = some u' ∧ _
    unfold fX12_cut_7F
    rw [h10]
    by_cases c : i ≤ 1200
    · rw [if_neg (show ¬ (1200 : Int32) < nI i from nI_nlt (a := 1200) (by omega) (by omega)), at_v E hL (by omega), oB_v, E.len, if_neg (nI_nlt (Nat.le_refl p) (by omega)), token_v h10 (by omega), oB_v]
      refine ⟨_, rfl, fun j hj => ?_, ?_⟩
      · unfold tokU
        simp only [z_mI_mSI, z_mL_mSI, z_mA_mSI, z_mB_mSI, z_mI_mSL, z_mL_mSL, z_mA_mSL, z_mB_mSL, z_mI_mSA, z_mL_mSA, z_mA_mSA, z_mB_mSA, z_mI_mSB, z_mL_mSB, z_mA_mSB, z_mB_mSB, if_true, if_false, and_false, false_and, and_true, true_and, and_self, decide_true, decide_false, reduceCtorEq, not_false_eq_true, not_true_eq_false, Nat.reduceEqDiff, Nat.reduceAdd, Nat.reduceMul, Nat.add_zero, Nat.zero_add]
        have : ¬ j = i := by omega
        simp only [if_neg this, and_self]
      · unfold tokU
        exact (((((MAg.refl u).sA (by omega)).sA (by omega)).sA (by omega)).sB (by omega)).sI (by omega)
    · rw [if_pos (show (1200 : Int32) < nI i from nI_lt (a := 1200) (by omega) (by omega))]
      exact ⟨u, rfl, fun _ _ => ⟨rfl, rfl, rfl, rfl⟩, MAg.refl u⟩
  | succ n ih =>
    intro p i F u hn hp hF hi E h10
    by_cases c0 : p = L
    · exact ih p i F (by omega) hp (by omega) hi E h10
    · obtain ⟨f, rfl⟩ : ∃ f, F = f + 1 := ⟨F - 1, by omega⟩
      by_cases c : i ≤ 1200
      · by_cases bl : isBl (b p)
        · obtain ⟨u', e, h1, h2⟩ := ih (p + 1) i f (by omega) (by omega) (by omega) hi E h10
          refine ⟨u', ?_, h1, h2⟩
          rw [← e]
          show fX12_cut_7F (fX12_cut_7 f) u (nI p) = _
          have q : ∀ k, k < 256 → (nI (b p) = nI k ↔ b p = k) := fun k hk => nI_eq (by have := E.bb p; omega) (by omega)
          unfold fX12_cut_7F fX12_cut_67
          rw [h10, if_neg (show ¬ (1200 : Int32) < nI i from nI_nlt (a := 1200) (by omega) (by omega)), at_v E hL (by omega), if_pos (by omega), oB_v, E.len, if_pos (nI_lt (show p < L by omega) (by omega)), oL_v, nI_1]
          by_cases b9 : b p = 9
          · rw [if_pos (show nI (b p) = 9 from (q 9 (by omega)).mpr b9)]
          · rw [if_neg (show ¬ nI (b p) = 9 from fun x => b9 ((q 9 (by omega)).mp x))]
            by_cases b10 : b p = 10
            · rw [if_pos (show nI (b p) = 10 from (q 10 (by omega)).mpr b10)]
            · rw [if_neg (show ¬ nI (b p) = 10 from fun x => b10 ((q 10 (by omega)).mp x))]
              by_cases b13 : b p = 13
              · rw [if_pos (show nI (b p) = 13 from (q 13 (by omega)).mpr b13)]
              · rw [if_neg (show ¬ nI (b p) = 13 from fun x => b13 ((q 13 (by omega)).mp x)), if_pos (show nI (b p) = 32 from (q 32 (by omega)).mpr (by omega))]
        · obtain ⟨V, NM, e, _, _⟩ := cut_s E hL (show p < L by omega) bl h10 c f
          have tf := (tk_f E.bb hL hp).2.1 (by omega)
          obtain ⟨u', e2, h1, h2⟩ := ih (tk b L p).2.1 (i + 1) f (by omega) (by omega) (by omega) (by omega) (E.tok i (nI (tk b L p).1) (nI p) V NM) (by unfold tokU; simp only [z_mI_mSI, z_mL_mSI, z_mA_mSI, z_mB_mSI, z_mI_mSL, z_mL_mSL, z_mA_mSL, z_mB_mSL, z_mI_mSA, z_mL_mSA, z_mA_mSA, z_mB_mSA, z_mI_mSB, z_mL_mSB, z_mA_mSB, z_mB_mSB, if_true, if_false, and_false, false_and, and_true, true_and, and_self, decide_true, decide_false, reduceCtorEq, not_false_eq_true, not_true_eq_false, Nat.reduceEqDiff, Nat.reduceAdd, Nat.reduceMul, Nat.add_zero, Nat.zero_add])
          refine ⟨u', e.trans e2, fun j hj => ?_, MAg.trans ?_ h2⟩
          · have := h1 j (by omega)
            unfold tokU at this
            simp only [z_mI_mSI, z_mL_mSI, z_mA_mSI, z_mB_mSI, z_mI_mSL, z_mL_mSL, z_mA_mSL, z_mB_mSL, z_mI_mSA, z_mL_mSA, z_mA_mSA, z_mB_mSA, z_mI_mSB, z_mL_mSB, z_mA_mSB, z_mB_mSB, if_true, if_false, and_false, false_and, and_true, true_and, and_self, decide_true, decide_false, reduceCtorEq, not_false_eq_true, not_true_eq_false, Nat.reduceEqDiff, Nat.reduceAdd, Nat.reduceMul, Nat.add_zero, Nat.zero_add, if_neg (show ¬ j = i by omega)] at this
            exact this
          · unfold tokU
            exact (((((MAg.refl u).sA (by omega)).sA (by omega)).sA (by omega)).sB (by omega)).sI (by omega)
      · refine ⟨u, ?_, fun _ _ => ⟨rfl, rfl, rfl, rfl⟩, MAg.refl u⟩
        show fX12_cut_7F (fX12_cut_7 f) u (nI p) = _
        unfold fX12_cut_7F
        rw [h10, if_pos (show (1200 : Int32) < nI i from nI_lt (a := 1200) (by omega) (by omega))]
/-- blanks of the reference -/
theorem m_blanks {L : Nat} {b : Nat → Nat} (hL : L ≤ 4000) {u : MS} (E : ME u L b) {i : Nat} (h10 : mI u 10 = nI i) (hi : i ≤ 1200) : ∀ d p f, (∀ j, p ≤ j → j < p + d → isBl (b j)) → p + d ≤ L → fX12_cut_7 (f + d) u (nI p) = fX12_cut_7 f u (nI (p + d)) := by
  intro d
  induction d with
  | zero => intro p f _ _; rfl
  | succ d ih =>
    intro p f hb hp
    have bl := hb p (by omega) (by omega)
    have := ih (p + 1) f (fun j h1 h2 => hb j (by omega) (by omega)) (by omega)
    rw [show p + (d + 1) = p + 1 + d by omega, ← this]
    show fX12_cut_7F (fX12_cut_7 (f + d)) u (nI p) = _
    have q : ∀ k, k < 256 → (nI (b p) = nI k ↔ b p = k) := fun k hk => nI_eq (by have := E.bb p; omega) (by omega)
    unfold fX12_cut_7F fX12_cut_67
    rw [h10, if_neg (show ¬ (1200 : Int32) < nI i from nI_nlt (a := 1200) (by omega) (by omega)), at_v E hL (by omega), if_pos (by omega), oB_v, E.len, if_pos (nI_lt (show p < L by omega) (by omega)), oL_v, nI_1]
    by_cases b9 : b p = 9
    · rw [if_pos (show nI (b p) = 9 from (q 9 (by omega)).mpr b9)]
    · rw [if_neg (show ¬ nI (b p) = 9 from fun x => b9 ((q 9 (by omega)).mp x))]
      by_cases b10 : b p = 10
      · rw [if_pos (show nI (b p) = 10 from (q 10 (by omega)).mpr b10)]
      · rw [if_neg (show ¬ nI (b p) = 10 from fun x => b10 ((q 10 (by omega)).mp x))]
        by_cases b13 : b p = 13
        · rw [if_pos (show nI (b p) = 13 from (q 13 (by omega)).mpr b13)]
        · rw [if_neg (show ¬ nI (b p) = 13 from fun x => b13 ((q 13 (by omega)).mp x)), if_pos (show nI (b p) = 32 from (q 32 (by omega)).mpr (by omega))]
