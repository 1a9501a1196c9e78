section FO
variable {z : Sz} {w L n : Nat} {D : Nat → Nat × Nat × Nat × List Nat} {p d : Nat} {kF : PH → Nat → Int32 → Option (PH × Nat × Nat)}
theorem pall (uv : UV z w L n D p d kF) (hd : d ≤ 8) : ∀ N, Pin z w L n D p d kF N ∧ Pout z w L n D p d kF N := by
  intro N
  induction N with
  | zero =>
    refine ⟨?_, ?_⟩
    · intro h u G v t pc rc' S W M K k1 x2 x4 x5 f g g20 g40 hN' X
      have := X.bp
      omega
    · intro h u G v t pc rc' S W K k1 x2 x4 f g20 hN' X
      have := X.bp
      omega
  | succ N ih => exact ⟨pin_v uv hd ih.1 ih.2, pout_v uv hd ih.1⟩
theorem u43_dd {h : PH} {u : MS} (X : Ded h u) (f : Nat) : fX12_expression_43 (fX12_expression_14 (f + 1)) u 1 = some u := by
  refine u43_d (is_d X 9) ?_ X (by omega)
  unfold fX12_unit fX12_unit_0
  rw [is_d X, oB_v, if_pos rfl, term_dm X, oB2_v, must_d X, oB_v, whole_d X, oB2_v, if_neg X.f.1]
theorem fv_v (uv : UV z w L n D p d kF) (hd : d ≤ 8) : FV z w L n D p d (fX4_formulaG kF) := by
  intro h u G v t pc rc' S k f X ht hf hk hS sb
  have S0 := X.i.sx
  have b := X.bp
  have c45 : cK 12 = 45 := rfl
  obtain ⟨f1, rfl⟩ : ∃ f1, f = f1 + 1 := ⟨f - 1, by omega⟩
  by_cases c12 : (D t).2.1 = 12
  · have is12 : fX12_is u 12 = some 1 := is_y X.i X.V (kw := 12) (by omega) c12
    obtain ⟨h1, u1, r1, e1, e2, N1, R1, Q1, o1⟩ := push_v X (by omega) 4 (E := fX4_skip h 23 (cK 12)) (fun I V F => by
      rcases may_v I V F (k := 12) (by omega) (by omega) (by omega) with ⟨q, _⟩ | ⟨_, _, q⟩
      · exact absurd c12 q
      · exact q)
    rw [c45] at e1
    have e2' : fX12_stacks u 4 = some u1 := e2
    have S1 := R1.sx
    have hM : fX12_expression_14 (f1 + 1 + 1) u 1 1 = fX12_expression_43 (fX12_expression_14 (f1 + 1)) u1 1 := by
      show fX12_expression_14F (fX12_expression_14 (f1 + 1)) u 1 1 = _
      unfold fX12_expression_14F
      rw [if_neg (by decide), if_pos X.V.f0, if_neg (by decide), is12, oB_v, if_neg (by decide), e2', oB_v]
    rcases o1 with ⟨er, fm1, X1⟩ | ⟨er, X1⟩
    · subst er
      have l4 : (S ++ [4]).length = S.length + 1 := List.length_append
      have go := (pall uv hd 1301).2 h1 u1 G v (t + 1) pc rc' S [4] k k 3 0 (f1 + 1) FU (by omega) (by rw [l4]; exact X1) (.inr ⟨4, rfl, rfl, .inl ⟨rfl, rfl⟩⟩) sb hk hS (by omega) (by omega) (by rw [FU_v]; omega)
      have hC : fX4_formulaG kF h 23 (nI d) = fX4_formula_20 kF FU h1 23 (nI d) 3 1 (nI 0) := by
        unfold fX4_formulaG fX4_formula_0
        rw [oC_d S0.t23, e1, oB2_v, if_neg (by decide)]
        rfl
      rw [hC, hM]
      exact GO.mv X.F R1 N1 X1.F fm1 (by omega) (Nat.le_refl _) go
    · subst er
      have dx := X.dx R1 X1 ((Q1.I _ _ (by omega)).trans X.sz) (by rw [N1]; exact X.hp)
      obtain ⟨h2, G2, i2, j2, pc2, e3, C2, R2, X2, q1, q2⟩ := formula_d (w := w) (rc' := rc') dx X.hw X.zp X.zr (by omega) kF (nI d)
      have s45 := skip_d S1 X1 (k := 12) (by omega) (by omega)
      rw [c45] at s45
      have hC : fX4_formulaG kF h 23 (nI d) = fX4_formulaG kF h1 23 (nI d) := by
        unfold fX4_formulaG fX4_formula_0
        rw [oC_d S0.t23, e1, oB2_v, if_pos rfl, oC_d S1.t23, s45, oB2_v, if_pos rfl]
      have := X.b1
      refine GO.dead (RC.n N1) R1 (Nat.le_refl _) C2 R2 X2 q1 (by omega) ?_ (by rw [hM, u43_dd X1])
      rw [hC, e3, Nat.zero_add, Nat.zero_add]
  · have is12 : fX12_is u 12 = some 0 := is_n X.i X.V (kw := 12) (by omega) c12
    have s45 : fX4_skip h 23 45 = some (h, 0) := by
      rcases may_v X.i X.V X.F (k := 12) (by omega) (by omega) (by omega) with ⟨_, q, _⟩ | ⟨q, _⟩
      · exact q
      · exact absurd q c12
    have hM : fX12_expression_14 (f1 + 1 + 1) u 1 1 = fX12_expression_43 (fX12_expression_14 (f1 + 1)) u 1 := by
      show fX12_expression_14F (fX12_expression_14 (f1 + 1)) u 1 1 = _
      unfold fX12_expression_14F
      rw [if_neg (by decide), if_pos X.V.f0, if_neg (by decide), is12, oB_v, if_pos rfl]
    have hC : fX4_formulaG kF h 23 (nI d) = fX4_formula_20 kF FU h 23 (nI d) (-1) 1 (nI 0) := by
      unfold fX4_formulaG fX4_formula_0
      rw [oC_d S0.t23, s45, oB2_v, if_pos rfl]
      rfl
    rw [hC, hM]
    exact (pall uv hd 1301).2 h u G v t pc rc' S [] k k (-1) 0 (f1 + 1) FU (by omega) (by rw [List.append_nil]; exact X) (.inl ⟨rfl, rfl, rfl⟩) sb hk hS (by omega) (by omega) (by rw [FU_v]; omega)
theorem fvd_v (kF : PH → Nat → Int32 → Option (PH × Nat × Nat)) : FVd z w L n D (fX4_formulaG kF) := fun h u G pc rc' x X hw zp zr h5 => formula_d X hw zp zr h5 kF x
theorem fv_all : ∀ j d m, d + j = 8 → j + 1 ≤ m → FV z w L n D p d (fX4_formula (m + 1)) := by
  intro j
  induction j with
  | zero =>
    intro d m hd hm
    obtain ⟨m1, rfl⟩ : ∃ m1, m = m1 + 1 := ⟨m - 1, by omega⟩
    exact fv_v (unit_v (by omega) _ (fun q => by omega) (fvd_v (fX4_formula m1))) (by omega)
  | succ j ih =>
    intro d m hd hm
    obtain ⟨m1, rfl⟩ : ∃ m1, m = m1 + 1 := ⟨m - 1, by omega⟩
    exact fv_v (unit_v (by omega) _ (fun q => ih (d + 1) m1 (by omega) (by omega)) (fvd_v (fX4_formula m1))) (by omega)
/-- a formula, in both -/
theorem express_v {h : PH} {u : MS} {G : Gh} {v t pc rc' : Nat} (X : FX h (mSI (mSI u 70 0) 12 0) G z w v L n D t p pc rc' 0 0 []) (ht : 1 ≤ t) : ∃ h' G' ci cj u', fX4_formula 12 h 23 0 = some (h', ci, cj) ∧ fX12_expression u = some u' ∧ RC h h' G G' ci cj ∧ RD h u h' u' G G' w 23 pc rc' ∧ ((∃ t' v' pc' rc2, t ≤ t' ∧ v ≤ v' ∧ pc ≤ pc' ∧ rc' ≤ rc2 ∧ FX h' u' G' z w v' L n D t' p pc' rc2 0 0 [] ∧ FM u u' ∧ (mI u' 15 = 0 → EMt h' u' G' p v' pc rc' pc' rc2 0 1 [])) ∨ (Ded h' u' ∧ ∃ pc', hI h' 142 5 = nI pc' ∧ pc' ≤ hN h' G'.pg ∧ pc ≤ pc' ∧ pc' ≤ z.pc + 1229)) := by
  have S0 := X.i.sx
  have b := X.bp
  obtain ⟨f, hf⟩ : ∃ f, FU = f + 1 := ⟨FU - 1, by rw [FU_v]⟩
  have hf' : 99999 ≤ f := by rw [FU_v] at hf; omega
  obtain ⟨h', G', ci, cj, u', eF, C, R, o⟩ := fv_all (z := z) (w := w) (L := L) (n := n) (D := D) (p := p) 8 0 11 (by omega) (by omega) h (mSI (mSI u 70 0) 12 0) G v t pc rc' [] 0 f X ht (by omega) (by omega) (by simp) (.inl rfl)
  have R0 : RD h u h (mSI (mSI u 70 0) 12 0) G G w 23 pc rc' := (RD.si S0 u w pc rc' (k := 70) (by omega) 0).trans (RD.si S0 _ w pc rc' (k := 12) (by omega) 0) (Nat.le_refl _) (Nat.le_refl _)
  have fm0 : FM u (mSI (mSI u 70 0) 12 0) := FM.of (by simp only [z_mI_mSI, z_mL_mSI, z_mA_mSI, z_mB_mSI, z_mI_mSL, z_mL_mSL, z_mA_mSL, z_mB_mSL, z_mI_mSA, z_mL_mSA, z_mA_mSA, z_mB_mSA, z_mI_mSB, z_mL_mSB, z_mA_mSB, z_mB_mSB, if_true, if_false, and_false, false_and, and_true, true_and, and_self, decide_true, decide_false, reduceCtorEq, not_false_eq_true, not_true_eq_false, Nat.reduceEqDiff, Nat.reduceAdd, Nat.reduceMul, Nat.add_zero, Nat.zero_add]) (by simp only [z_mI_mSI, z_mL_mSI, z_mA_mSI, z_mB_mSI, z_mI_mSL, z_mL_mSL, z_mA_mSL, z_mB_mSL, z_mI_mSA, z_mL_mSA, z_mA_mSA, z_mB_mSA, z_mI_mSB, z_mL_mSB, z_mA_mSB, z_mB_mSB, if_true, if_false, and_false, false_and, and_true, true_and, and_self, decide_true, decide_false, reduceCtorEq, not_false_eq_true, not_true_eq_false, Nat.reduceEqDiff, Nat.reduceAdd, Nat.reduceMul, Nat.add_zero, Nat.zero_add])
  have hM : fX12_expression u = fX12_expression_14 (f + 1) (mSI (mSI u 70 0) 12 0) 1 1 := by
    unfold fX12_expression fX12_expression_0
    rw [oL_v, oL_v, hf]
  refine ⟨h', G', ci, cj, u', eF, ?_, C, R0.trans R (Nat.le_refl _) (Nat.le_refl _), ?_⟩
  · rcases o with ⟨t', v', pc', rc2, ⟨f2, g2, eM, hf2, hg2⟩, q1, q2, q3, q4, X', fm, E⟩ | ⟨eM, _⟩
    · have s1 : mI u' 70 = 0 := X'.s1
      obtain ⟨f3, rfl⟩ : ∃ f3, f2 = f3 + 1 := ⟨f2 - 1, by have := X'.bp; omega⟩
      rw [hM, eM]
      unfold fC
      rw [s1, if_pos (by decide)]
      unfold fX12_expression_187
      rw [if_pos rfl]
      show fX12_expression_14F (fX12_expression_14 f3) u' 0 0 = _
      unfold fX12_expression_14F
      rw [if_pos rfl]
    · rw [hM, eM]
  · rcases o with ⟨t', v', pc', rc2, _, q1, q2, q3, q4, X', fm, E⟩ | ⟨_, Xd, pc', z', p', q1, q2⟩
    · exact .inl ⟨t', v', pc', rc2, q1, q2, q3, q4, X', fm0.trans fm, E⟩
    · exact .inr ⟨Xd, pc', z', p', q1, by omega⟩
/-- behind a stop -/
theorem express_d {h : PH} {u : MS} (X : Ded h u) : fX12_expression u = some (mSI (mSI u 70 0) 12 0) ∧ Ded h (mSI (mSI u 70 0) 12 0) := by
  have X1 := (X.i2 (k := 70) (by omega) 0).i2 (k := 12) (by omega) 0
  obtain ⟨f, hf⟩ : ∃ f, FU = f + 1 := ⟨FU - 1, by rw [FU_v]⟩
  refine ⟨?_, X1⟩
  unfold fX12_expression fX12_expression_0
  rw [oL_v, oL_v, hf, end14_d X1]
end FO
