/-! units -/
/-- the reference behind a unit -/
def TgB (d t0 : Nat) (u : MS) (t : Nat) (M : Option MS) : Prop := t0 < t ∧ ∃ f g, M = fX12_expression_95 (fX12_expression_14 f) g u 0 1 1 ∧ 5000 ≤ f + t ∧ 99992 + d ≤ g
section UN
variable {h h' : PH} {u u' : MS} {G G' : Gh} {z : Sz} {w v L n t p pc rc' q d f k : Nat} {D : Nat → Nat × Nat × Nat × List Nat} {S : List Nat}
theorem next_of_must (I : PI h u G z L n D) (V : Liv h u D n t) {kw : Nat} (hk : kw < 38) (e : (D t).2.1 = kw) (m : fX12_must u (nI kw) = some u') : fX12_next u = some u' := by
  unfold fX12_must fX12_must_0 at m
  rw [is_v I V hk, if_pos e, oB_v, if_neg (by decide), next_m I V, oB_v] at m
  rw [next_m I V]
  exact m
/-- a step of the class behind a stop -/
theorem addD (I : PI h u G z L n D) (X : Ded h u) (sz : hI h 142 5 = nI pc) (hp : pc ≤ hN h G.pg) (h6 : pc ≤ 60000) (op x : Int32) (w rc' : Nat) : ∃ h' G' i j, fX1_addStep h 5 op x = some (h', i, j) ∧ RC h h' G G' i j ∧ RD h u h' u G G' w 23 pc rc' ∧ Ded h' u ∧ hI h' 142 5 = nI (pc + 1) ∧ pc + 1 ≤ hN h' G'.pg := by
  obtain ⟨h', G', i, j, e, A⟩ := addStep_v I.sx sz hp I.rm.p2 I.rm.p3 h6 op x
  exact ⟨h', G', i, j, e, A.rc I.sx, RD.as I.sx A u w 23 rc' (Nat.le_refl _), X.fr (fun g _ => A.I g 23 (by omega)), A.sz, A.hp⟩
theorem end14_d (X : Ded h u) (f : Nat) (x1 x2 : Int32) : fX12_expression_14 (f + 1) u x1 x2 = some u := by
  show fX12_expression_14F (fX12_expression_14 f) u x1 x2 = _
  unfold fX12_expression_14F
  by_cases c : x2 = 0
  · rw [if_pos c]
  · rw [if_neg c, if_neg X.f.1]
theorem end95_d (X : Ded h u) (f g : Nat) (x1 x2 : Int32) : fX12_expression_95 (fX12_expression_14 (f + 1)) (g + 1) u x1 x2 1 = some u := by
  show fX12_expression_95F (fX12_expression_14 (f + 1)) (fX12_expression_95 (fX12_expression_14 (f + 1)) g) u x1 x2 1 = _
  unfold fX12_expression_95F
  rw [if_neg (by decide), if_neg X.f.1, end14_d X]
theorem Ded.em (X : Ded h u) (r : Nat) (op x y : Int32) : Ded h (mSI (mSA (mSA (mSA u 60 r op) 61 r x) 62 r y) 24 (nI (r + 1))) := by
  obtain ⟨t, ht, e⟩ := X.tt
  refine ⟨X.st, ?_, ?_, X.kd, t, ht, ?_⟩ <;> simp only [z_mI_mSI, z_mL_mSI, z_mA_mSI, z_mB_mSI, z_mI_mSL, z_mL_mSL, z_mA_mSL, z_mB_mSL, z_mI_mSA, z_mL_mSA, z_mA_mSA, z_mB_mSA, z_mI_mSB, z_mL_mSB, z_mA_mSB, z_mB_mSB, if_true, if_false, and_false, false_and, and_true, true_and, and_self, decide_true, decide_false, reduceCtorEq, not_false_eq_true, not_true_eq_false, Nat.reduceEqDiff, Nat.reduceAdd, Nat.reduceMul, Nat.add_zero, Nat.zero_add]
  · exact X.fa
  · exact X.pl
  · exact e
/-- the reference's unit that stops -/
theorem u43_d (is9 : fX12_is u 9 = some 0) (e : fX12_unit u = some u') (X : Ded h' u') (hf : 1 ≤ f) : fX12_expression_43 (fX12_expression_14 f) u 1 = some u' := by
  obtain ⟨f1, rfl⟩ : ∃ f1, f = f1 + 1 := ⟨f - 1, by omega⟩
  obtain ⟨g, hg⟩ : ∃ g, FU = g + 1 := ⟨FU - 1, by rw [FU_v]⟩
  unfold fX12_expression_43
  rw [is9, oB_v, if_pos rfl, e, oB_v, hg, end95_d X]
theorem u43_y {t0 : Nat} (is9 : fX12_is u 9 = some 0) (e : fX12_unit u = some u') (h0 : t0 < t) (hf : 5000 ≤ f + t) (hd : d ≤ 8) : TgB d t0 u' t (fX12_expression_43 (fX12_expression_14 f) u 1) := by
  refine ⟨h0, f, FU, ?_, hf, by rw [FU_v]; omega⟩
  unfold fX12_expression_43
  rw [is9, oB_v, if_pos rfl, e, oB_v]
end UN
