/-! writing on both sides -/
theorem oB_as {α β γ : Type} (a : Option α) (f : α → Option β) (g : β → Option γ) : oB (oB a f) g = oB a (fun x => oB (f x) g) := by
  cases a <;> rfl
/-- the other program writes l2 behind l -/
def Cw (h0 : PH) (k : Nat) (l : List Int32) (i j : Nat) (l2 : List Int32) (F : Option (PH × Nat × Nat)) : Prop := ∃ h' k' i' j', F = some (h', i', j') ∧ BW h0 h' 3 k k' 0 (l ++ l2) (i + i') (j + j')
def MO (u : MS) (u' : MS) (l : List Int32) : Prop := (mI u' 113 = nI l.length) ∧ (∀ i, i < l.length → i < 4000 → mA u' 114 i = by8 (l.getD i 0)) ∧ (MAg (fun k => k ≠ 113 ∧ k ≠ 114 ∧ k ≠ 115) u u')
theorem MO.le {u : MS} {u' : MS} {l : List Int32} (X_ : MO u u' l) : mI u' 113 = nI l.length := X_.1
theorem MO.da {u : MS} {u' : MS} {l : List Int32} (X_ : MO u u' l) : ∀ i, i < l.length → i < 4000 → mA u' 114 i = by8 (l.getD i 0) := X_.2.1
theorem MO.ag {u : MS} {u' : MS} {l : List Int32} (X_ : MO u u' l) : MAg (fun k => k ≠ 113 ∧ k ≠ 114 ∧ k ≠ 115) u u' := X_.2.2
theorem MO.mk {u : MS} {u' : MS} {l : List Int32} (le_ : mI u' 113 = nI l.length) (da_ : ∀ i, i < l.length → i < 4000 → mA u' 114 i = by8 (l.getD i 0)) (ag_ : MAg (fun k => k ≠ 113 ∧ k ≠ 114 ∧ k ≠ 115) u u') : MO u u' l := ⟨le_, da_, ag_⟩
def Mw (u0 : MS) (l l2 : List Int32) (M : Option MS) : Prop := ∃ u', M = some u' ∧ MO u0 u' (l ++ l2)
def WB (h0 : PH) (k : Nat) : Prop := 3 ≠ k ∧ 3 < hZ h0 ∧ k < hZ h0
theorem Cw.add {h0 h : PH} {k k' i j : Nat} {l : List Int32} (b : WB h0 k) (W : BW h0 h 3 k k' 0 l i j) (hl : l.length < 2000000) (x : Int32) : Cw h0 k l i j [x] (fX0_add h 3 x) := by
  obtain ⟨h', k2, i', j', e, V⟩ := add_v W.bs x (by omega)
  exact ⟨h', k2, i', j', e, W.trans b.1 b.2.1 b.2.2 V⟩
theorem Cw.nil {h0 h : PH} {k k' i j : Nat} {l : List Int32} (W : BW h0 h 3 k k' 0 l i j) : Cw h0 k l i j [] (some (h, 0, 0)) := ⟨h, k', 0, 0, rfl, by rw [List.append_nil]; exact W⟩
theorem Cw.seq {h0 : PH} {k i j : Nat} {l l1 l2 : List Int32} {F : Option (PH × Nat × Nat)} {Fc : PH → Option (PH × Nat × Nat)} (X : Cw h0 k l i j l1 F) (Y : ∀ h' k' i' j', BW h0 h' 3 k k' 0 (l ++ l1) (i + i') (j + j') → Cw h0 k (l ++ l1) (i + i') (j + j') l2 (Fc h')) : Cw h0 k l i j (l1 ++ l2) (oB3 F (fun h' i j => oK3 i j (Fc h'))) := by
  obtain ⟨h', k', i', j', e, W⟩ := X
  obtain ⟨h2, k2, i2, j2, e2, W2⟩ := Y h' k' i' j' W
  refine ⟨h2, k2, i' + i2, j' + j2, ?_, ?_⟩
  · rw [e, oB3_v, e2, oK3_v]
  · rw [← List.append_assoc, ← Nat.add_assoc, ← Nat.add_assoc]
    exact W2
theorem Mw.add {u0 u : MS} {l : List Int32} (W : MO u0 u l) (hl : l.length < 2000000) (x : Int32) : Mw u0 l [x] (fX12_byteOut u x) := by
  by_cases c : l.length < 4000
  · refine ⟨mSI (mSA u 114 l.length (by8 x)) 113 (nI (l.length + 1)), ?_, ?_⟩
    · simp only [fX12_byteOut, fX12_byteOut_0, fX12_byteOut_21, W.le, if_neg (show ¬ (4000 : Int32) ≤ nI l.length from nI_ge (b := 4000) c (by omega)), oC_t (ix_n (show l.length < mlen 114 from c) (by decide)), nI_clamp (show l.length < 2147483648 by omega), oN_v, oC_v, oB_v, oB2_v, oB3_v, oB4_v, oK3_v, oK4_v, oL_v, z_mI_mSI, z_mL_mSI, z_mA_mSI, z_mB_mSI, z_mI_mSL, z_mL_mSL, z_mA_mSL, z_mB_mSL, z_mI_mSA, z_mL_mSA, z_mA_mSA, z_mB_mSA, z_mI_mSB, z_mL_mSB, z_mA_mSB, z_mB_mSB, if_true, if_false, and_false, false_and, and_true, true_and, and_self, decide_true, decide_false, reduceCtorEq, not_false_eq_true, not_true_eq_false, Nat.reduceEqDiff, Nat.reduceAdd, Nat.reduceMul, Nat.add_zero, Nat.zero_add, nI_1]
      rfl
    · apply MO.mk
      · simp only [z_mI_mSI, z_mL_mSI, z_mA_mSI, z_mB_mSI, z_mI_mSL, z_mL_mSL, z_mA_mSL, z_mB_mSL, z_mI_mSA, z_mL_mSA, z_mA_mSA, z_mB_mSA, z_mI_mSB, z_mL_mSB, z_mA_mSB, z_mB_mSB, if_true, if_false, and_false, false_and, and_true, true_and, and_self, decide_true, decide_false, reduceCtorEq, not_false_eq_true, not_true_eq_false, Nat.reduceEqDiff, Nat.reduceAdd, Nat.reduceMul, Nat.add_zero, Nat.zero_add, List.length_append, List.length_singleton]
      · intro i hi h4
        simp only [z_mI_mSI, z_mL_mSI, z_mA_mSI, z_mB_mSI, z_mI_mSL, z_mL_mSL, z_mA_mSL, z_mB_mSL, z_mI_mSA, z_mL_mSA, z_mA_mSA, z_mB_mSA, z_mI_mSB, z_mL_mSB, z_mA_mSB, z_mB_mSB, if_true, if_false, and_false, false_and, and_true, true_and, and_self, decide_true, decide_false, reduceCtorEq, not_false_eq_true, not_true_eq_false, Nat.reduceEqDiff, Nat.reduceAdd, Nat.reduceMul, Nat.add_zero, Nat.zero_add]
        rw [List.length_append, List.length_singleton] at hi
        by_cases q : i = l.length
        · rw [if_pos q, q, gd_r (Nat.le_refl _), Nat.sub_self]; rfl
        · rw [if_neg q, gd_l (by omega)]
          exact W.da i (by omega) h4
      · exact (W.ag.sA (by omega)).sI (by omega)
  · refine ⟨mSI u 113 (nI (l.length + 1)), ?_, ?_⟩
    · simp only [fX12_byteOut, fX12_byteOut_0, fX12_byteOut_21, W.le, if_pos (show (4000 : Int32) ≤ nI l.length from nI_le (a := 4000) (show 4000 ≤ l.length by omega) (by omega)), oN_v, oC_v, oB_v, oB2_v, oB3_v, oB4_v, oK3_v, oK4_v, oL_v, nI_1]
    · apply MO.mk
      · simp only [z_mI_mSI, z_mL_mSI, z_mA_mSI, z_mB_mSI, z_mI_mSL, z_mL_mSL, z_mA_mSL, z_mB_mSL, z_mI_mSA, z_mL_mSA, z_mA_mSA, z_mB_mSA, z_mI_mSB, z_mL_mSB, z_mA_mSB, z_mB_mSB, if_true, if_false, and_false, false_and, and_true, true_and, and_self, decide_true, decide_false, reduceCtorEq, not_false_eq_true, not_true_eq_false, Nat.reduceEqDiff, Nat.reduceAdd, Nat.reduceMul, Nat.add_zero, Nat.zero_add, List.length_append, List.length_singleton]
      · intro i hi h4
        simp only [z_mI_mSI, z_mL_mSI, z_mA_mSI, z_mB_mSI, z_mI_mSL, z_mL_mSL, z_mA_mSL, z_mB_mSL, z_mI_mSA, z_mL_mSA, z_mA_mSA, z_mB_mSA, z_mI_mSB, z_mL_mSB, z_mA_mSB, z_mB_mSB]
        rw [gd_l (by omega)]
        exact W.da i (by omega) h4
      · exact W.ag.sI (by omega)
theorem Mw.nil {u0 u : MS} {l : List Int32} (W : MO u0 u l) : Mw u0 l [] (some u) := ⟨u, rfl, by rw [List.append_nil]; exact W⟩
theorem Mw.seq {u0 : MS} {l l1 l2 : List Int32} {M : Option MS} {Mc : MS → Option MS} (X : Mw u0 l l1 M) (Y : ∀ u', MO u0 u' (l ++ l1) → Mw u0 (l ++ l1) l2 (Mc u')) : Mw u0 l (l1 ++ l2) (oB M Mc) := by
  obtain ⟨u', e, W⟩ := X
  obtain ⟨u2, e2, W2⟩ := Y u' W
  exact ⟨u2, by rw [e, oB_v, e2], by rw [← List.append_assoc]; exact W2⟩
/-- both write the same, at most n -/
def Bo (h0 : PH) (u0 : MS) (k : Nat) (l : List Int32) (i j n : Nat) (F : Option (PH × Nat × Nat)) (M : Option MS) : Prop := ∃ l2 : List Int32, l2.length ≤ n ∧ (∀ x, x ∈ l2 → 0 ≤ by8 x) ∧ Cw h0 k l i j l2 F ∧ Mw u0 l l2 M
theorem Bo.seq {h0 : PH} {u0 : MS} {k i j n m : Nat} {l : List Int32} {F : Option (PH × Nat × Nat)} {M : Option MS} {Fc : PH → Option (PH × Nat × Nat)} {Mc : MS → Option MS} (X : Bo h0 u0 k l i j n F M) (Y : ∀ h' k' l' i' j' u', BW h0 h' 3 k k' 0 (l ++ l') (i + i') (j + j') → MO u0 u' (l ++ l') → l'.length ≤ n → Bo h0 u0 k (l ++ l') (i + i') (j + j') m (Fc h') (Mc u')) : Bo h0 u0 k l i j (n + m) (oB3 F (fun h' i j => oK3 i j (Fc h'))) (oB M Mc) := by
  obtain ⟨l1, n1, p1, ⟨h', k', i', j', e, W⟩, ⟨u', e', W'⟩⟩ := X
  obtain ⟨l2, n2, p2, ⟨h2, k2, i2, j2, e2, W2⟩, ⟨u2, e2', W2'⟩⟩ := Y h' k' l1 i' j' u' W W' n1
  refine ⟨l1 ++ l2, by rw [List.length_append]; omega, fun x hx => ?_, ⟨h2, k2, i' + i2, j' + j2, ?_, ?_⟩, ⟨u2, ?_, ?_⟩⟩
  · rcases List.mem_append.mp hx with q | q
    · exact p1 x q
    · exact p2 x q
  · rw [e, oB3_v, e2, oK3_v]
  · rw [← List.append_assoc, ← Nat.add_assoc, ← Nat.add_assoc]
    exact W2
  · rw [e', oB_v, e2']
  · rw [← List.append_assoc]; exact W2'
theorem Bo.mono {h0 : PH} {u0 : MS} {k i j n m : Nat} {l : List Int32} {F : Option (PH × Nat × Nat)} {M : Option MS} (X : Bo h0 u0 k l i j n F M) (h : n ≤ m) : Bo h0 u0 k l i j m F M := by
  obtain ⟨l1, n1, p1, C, D⟩ := X
  exact ⟨l1, by omega, p1, C, D⟩
theorem Bo.nil {h0 h : PH} {u0 u : MS} {k k' i j : Nat} {l : List Int32} (W : BW h0 h 3 k k' 0 l i j) (V : MO u0 u l) : Bo h0 u0 k l i j 0 (some (h, 0, 0)) (some u) := ⟨[], Nat.le_refl _, fun x hx => absurd hx (by simp), Cw.nil W, Mw.nil V⟩
theorem Bo.byte {h0 h : PH} {u0 u : MS} {k k' i j : Nat} {l : List Int32} (b : WB h0 k) (W : BW h0 h 3 k k' 0 l i j) (V : MO u0 u l) (hl : l.length < 2000000) (x : Int32) (hx : 0 ≤ by8 x) : Bo h0 u0 k l i j 1 (fX0_add h 3 x) (fX12_byteOut u x) := ⟨[x], Nat.le_refl _, fun y hy => by rw [List.mem_singleton.mp hy]; exact hx, Cw.add b W hl x, Mw.add V hl x⟩
/-- texts -/
theorem Cw.text {h0 : PH} {k s : Nat} (b : WB h0 k) (hs : s < 6) : ∀ (n m f : Nat) {h : PH} {k' i j : Nat} {l : List Int32}, n + m = slen s → BW h0 h 3 k k' 0 l i j → l.length + n < 1000000 → Cw h0 k l i j ((List.range' m n).map (schr s)) (fX0_addText_2 (f + (n + 1)) h 3 s (nI m)) := by
  intro n
  have l6 : slen s < 100 := by
    rcases (show s = 0 ∨ s = 1 ∨ s = 2 ∨ s = 3 ∨ s = 4 ∨ s = 5 by omega) with q | q | q | q | q | q <;> subst q <;> decide
  induction n with
  | zero =>
    intro m f h k' i j l e W hl
    show Cw h0 k l i j [] (fX0_addText_2F (fX0_addText_2 f) h 3 s (nI m))
    have q : nI (slen s) ≤ nI m := nI_le (by omega) (by omega)
    simp only [fX0_addText_2F, fJ0_length_8abf5, decide_eq_true hs, oN_v, oC_v, oB_v, oB2_v, oB3_v, oB4_v, oK3_v, oK4_v, oL_v, if_pos q]
    exact Cw.nil W
  | succ n ih =>
    intro m f h k' i j l e W hl
    show Cw h0 k l i j ([schr s m] ++ (List.range' (m + 1) n).map (schr s)) (fX0_addText_2F (fX0_addText_2 (f + (n + 1))) h 3 s (nI m))
    have q : ¬ nI (slen s) ≤ nI m := nI_ge (by omega) (by omega)
    simp only [fX0_addText_2F, fJ0_length_8abf5, fJ0_charAt_5068e, decide_eq_true hs, ix_n (show m < slen s by omega) (show slen s < 2147483648 by omega), Bool.and_self, oN_v, oC_v, oB_v, oB2_v, oB3_v, oB4_v, oK3_v, oK4_v, oL_v, if_neg q, W.bs.ta, if_true, if_false, and_false, false_and, and_true, true_and, and_self, decide_true, decide_false, reduceCtorEq, not_false_eq_true, not_true_eq_false, Nat.reduceEqDiff, Nat.reduceAdd, Nat.reduceMul, Nat.add_zero, Nat.zero_add, nI_clamp (show m < 2147483648 by omega), nI_1]
    refine Cw.seq (Cw.add b W (by omega) _) fun h' k2 i' j' W' => ?_
    exact ih (m + 1) f (by omega) W' (by rw [List.length_append, List.length_singleton]; omega)
