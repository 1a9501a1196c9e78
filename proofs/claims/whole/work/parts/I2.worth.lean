/-! the reference's worth of a formula -/
def wk9 (k : Nat) : Prop := ¬ (79 ≤ k ∧ k ≤ 83)
def MC (u : MS) (β : Nat → Nat) (nv : Nat) (np : Nat) (nu : Nat → Int32) : Prop := (∀ v, v < nv → mA u 95 v = nI (β v) ∧ β v < np) ∧ (nv ≤ 3) ∧ (np ≤ 5) ∧ (∀ i, i < 20 → mA u 26 i = nu i ∧ (nu i).toInt.natAbs ≤ 999999)
theorem MC.b {u : MS} {β : Nat → Nat} {nv : Nat} {np : Nat} {nu : Nat → Int32} (X_ : MC u β nv np nu) : ∀ v, v < nv → mA u 95 v = nI (β v) ∧ β v < np := X_.1
theorem MC.n3 {u : MS} {β : Nat → Nat} {nv : Nat} {np : Nat} {nu : Nat → Int32} (X_ : MC u β nv np nu) : nv ≤ 3 := X_.2.1
theorem MC.p5 {u : MS} {β : Nat → Nat} {nv : Nat} {np : Nat} {nu : Nat → Int32} (X_ : MC u β nv np nu) : np ≤ 5 := X_.2.2.1
theorem MC.nm {u : MS} {β : Nat → Nat} {nv : Nat} {np : Nat} {nu : Nat → Int32} (X_ : MC u β nv np nu) : ∀ i, i < 20 → mA u 26 i = nu i ∧ (nu i).toInt.natAbs ≤ 999999 := X_.2.2.2
theorem MC.mk {u : MS} {β : Nat → Nat} {nv : Nat} {np : Nat} {nu : Nat → Int32} (b_ : ∀ v, v < nv → mA u 95 v = nI (β v) ∧ β v < np) (n3_ : nv ≤ 3) (p5_ : np ≤ 5) (nm_ : ∀ i, i < 20 → mA u 26 i = nu i ∧ (nu i).toInt.natAbs ≤ 999999) : MC u β nv np nu := ⟨b_, n3_, p5_, nm_⟩
theorem MC.ch {u u' : MS} {β : Nat → Nat} {nv np : Nat} {nu : Nat → Int32} (M : MC u β nv np nu) {P : Nat → Prop} (k : MAg P u u') (p1 : P 95) (p2 : P 26) : MC u' β nv np nu := by
  have e1 := (k 95 p1).2.2.1
  have e2 := (k 26 p2).2.2.1
  apply MC.mk
  · intro v hv; rw [e1]; exact M.b v hv
  · exact M.n3
  · exact M.p5
  · intro i hi; rw [e2]; exact M.nm i hi
theorem personM {u : MS} {β : Nat → Nat} {nv np t : Nat} {nu : Nat → Int32} (M : MC u β nv np nu) (o : okTm nv np t) : fX12_personOf u (nI (tmr t)) 95 = some (nI (pe β t)) := by
  have n3 := M.n3
  unfold fX12_personOf fX12_personOf_0 tmr pe
  rw [show (decide (mk 95 = 2) && decide (mak 95 = 1)) = true from rfl, oC_v]
  rcases o with ⟨o1, o2⟩ | ⟨o1, o2, o3⟩
  · rw [if_pos o2, if_pos o2, if_neg (show ¬ nI (10 + t) < 10 from nI_nlt (b := 10) (by omega) (by omega))]
    rw [show (10 : Int32) = nI 10 from rfl, nI_sub (by omega)]
    congr 2; omega
  · rw [if_neg (show ¬ t < 5 by omega), if_neg (show ¬ t < 5 by omega), if_pos (show nI (t - 5) < 10 from nI_lt (b := 10) (by omega) (by omega)), oC_t (ix_n (show t - 5 < mlen 95 by show _ < 3; omega) (by decide)), nI_clamp (by omega), (M.b (t - 5) (by omega)).1]
def RV (u : MS) : List Qq → Prop
  | [] => True
  | q :: st => mB u 82 st.length = q.1 ∧ mB u 83 st.length = q.2 ∧ RV u st
theorem mlo_ag {u : MS} {n d : Int64} : MAg (fun k => k ≠ 79 ∧ k ≠ 80 ∧ k ≠ 81) u (mlo u n d) := by
  unfold mlo
  split
  · exact ((MAg.refl u).sL (by omega)).sL (by omega) |>.sI (by omega)
  · exact ((MAg.refl u).sL (by omega)).sL (by omega)
theorem RV.fr {u u' : MS} {m : Nat} (e1 : ∀ k, k < m → mB u' 82 k = mB u 82 k) (e2 : ∀ k, k < m → mB u' 83 k = mB u 83 k) : ∀ {st : List Qq}, st.length ≤ m → RV u st → RV u' st
  | [], _, _ => trivial
  | q :: st, h, k => by
    rw [List.length_cons] at h
    exact ⟨(e1 _ (by omega)).trans k.1, (e2 _ (by omega)).trans k.2.1, RV.fr e1 e2 (by omega) k.2.2⟩
/-- what is behind a step: beyond, or the next -/
def MG (u : MS) (E : Int32) (j n : Nat) (f : Option MS) (v : Option Qq) (st : List Qq) : Prop :=
  match v with
  | none => ∃ u', f = some u' ∧ mI u' 79 = 1 ∧ MAg wk9 u u'
  | some q => ∃ u', f = fX12_worth_11 95 n u' E (nI (st.length + 1)) (nI (j + 1)) ∧ mI u' 79 = 0 ∧ mL u' 80 = q.1 ∧ mL u' 81 = q.2 ∧ MAg wk9 u u' ∧ RV u' (q :: st)
theorem MG.lw {u : MS} {E : Int32} {j n k : Nat} {a d : Int64} {st : List Qq} (o : okND a d) (z : mI u 79 = 0) (hk : st.length < 20) (R : RV u st) : MG u E j n (oB (fX12_lowest u a d) (fun h => fX12_worth_167 95 (fX12_worth_11 95 n) h E (nI st.length) (nI j))) (low a d) st := by
  have g := mlo_ag (u := u) (n := a) (d := d)
  rw [lowest_v o]
  simp only [oN_v, oC_v, oB_v, oB2_v, oB3_v, oB4_v, oK3_v, oK4_v, oL_v]
  unfold low fX12_worth_167 MG
  by_cases b : big (lwN a d) (lwD a d)
  · have e : mlo u a d = mSI (mSL (mSL u 80 (lwN a d)) 81 (lwD a d)) 79 1 := if_pos b
    have e1 : mI (mlo u a d) 79 = 1 := by rw [e]; simp only [z_mI_mSI, z_mL_mSI, z_mA_mSI, z_mB_mSI, z_mI_mSL, z_mL_mSL, z_mA_mSL, z_mB_mSL, z_mI_mSA, z_mL_mSA, z_mA_mSA, z_mB_mSA, z_mI_mSB, z_mL_mSB, z_mA_mSB, z_mB_mSB, if_true, if_false, and_false, false_and, and_true, true_and, and_self, decide_true, decide_false, reduceCtorEq, not_false_eq_true, not_true_eq_false, Nat.reduceEqDiff, Nat.reduceAdd, Nat.reduceMul, Nat.add_zero, Nat.zero_add]
    rw [if_pos b, e1, if_neg (by decide)]
    exact ⟨_, rfl, e1, g.mono fun k hk => by unfold wk9 at hk; omega⟩
  · have e : mlo u a d = mSL (mSL u 80 (lwN a d)) 81 (lwD a d) := if_neg b
    have e1 : mI (mlo u a d) 79 = 0 := by rw [e]; simp only [z_mI_mSI, z_mL_mSI, z_mA_mSI, z_mB_mSI, z_mI_mSL, z_mL_mSL, z_mA_mSL, z_mB_mSL, z_mI_mSA, z_mL_mSA, z_mA_mSA, z_mB_mSA, z_mI_mSB, z_mL_mSB, z_mA_mSB, z_mB_mSB, if_true, if_false, and_false, false_and, and_true, true_and, and_self, decide_true, decide_false, reduceCtorEq, not_false_eq_true, not_true_eq_false, Nat.reduceEqDiff, Nat.reduceAdd, Nat.reduceMul, Nat.add_zero, Nat.zero_add]; exact z
    have e2 : mL (mlo u a d) 80 = lwN a d := by rw [e]; simp only [z_mI_mSI, z_mL_mSI, z_mA_mSI, z_mB_mSI, z_mI_mSL, z_mL_mSL, z_mA_mSL, z_mB_mSL, z_mI_mSA, z_mL_mSA, z_mA_mSA, z_mB_mSA, z_mI_mSB, z_mL_mSB, z_mA_mSB, z_mB_mSB, if_true, if_false, and_false, false_and, and_true, true_and, and_self, decide_true, decide_false, reduceCtorEq, not_false_eq_true, not_true_eq_false, Nat.reduceEqDiff, Nat.reduceAdd, Nat.reduceMul, Nat.add_zero, Nat.zero_add]
    have e3 : mL (mlo u a d) 81 = lwD a d := by rw [e]; simp only [z_mI_mSI, z_mL_mSI, z_mA_mSI, z_mB_mSI, z_mI_mSL, z_mL_mSL, z_mA_mSL, z_mB_mSL, z_mI_mSA, z_mL_mSA, z_mA_mSA, z_mB_mSA, z_mI_mSB, z_mL_mSB, z_mA_mSB, z_mB_mSB, if_true, if_false, and_false, false_and, and_true, true_and, and_self, decide_true, decide_false, reduceCtorEq, not_false_eq_true, not_true_eq_false, Nat.reduceEqDiff, Nat.reduceAdd, Nat.reduceMul, Nat.add_zero, Nat.zero_add]
    rw [if_neg b, e1, if_pos rfl]
    have x1 : nI st.length + 1 = nI (st.length + 1) := nI_add _ 1
    have x2 : nI j + 1 = nI (j + 1) := nI_add _ 1
    simp only [oN_v, oC_v, oB_v, oB2_v, oB3_v, oB4_v, oK3_v, oK4_v, oL_v, x1, x2, oC_t (ix_n (show st.length < mlen 82 by show _ < 1300; omega) (by decide)), oC_t (ix_n (show st.length < mlen 83 by show _ < 1300; omega) (by decide)), nI_clamp (show st.length < 2147483648 by omega), z_mL_mSB, e2, e3]
    refine ⟨_, rfl, ?_, ?_, ?_, ?_, ?_, ?_, ?_⟩
    · simp only [z_mI_mSI, z_mL_mSI, z_mA_mSI, z_mB_mSI, z_mI_mSL, z_mL_mSL, z_mA_mSL, z_mB_mSL, z_mI_mSA, z_mL_mSA, z_mA_mSA, z_mB_mSA, z_mI_mSB, z_mL_mSB, z_mA_mSB, z_mB_mSB]; exact e1
    · simp only [z_mI_mSI, z_mL_mSI, z_mA_mSI, z_mB_mSI, z_mI_mSL, z_mL_mSL, z_mA_mSL, z_mB_mSL, z_mI_mSA, z_mL_mSA, z_mA_mSA, z_mB_mSA, z_mI_mSB, z_mL_mSB, z_mA_mSB, z_mB_mSB]; exact e2
    · simp only [z_mI_mSI, z_mL_mSI, z_mA_mSI, z_mB_mSI, z_mI_mSL, z_mL_mSL, z_mA_mSL, z_mB_mSL, z_mI_mSA, z_mL_mSA, z_mA_mSA, z_mB_mSA, z_mI_mSB, z_mL_mSB, z_mA_mSB, z_mB_mSB]; exact e3
    · exact ((g.mono (Q := wk9) fun k hk => by unfold wk9 at hk; omega).sB (by unfold wk9; omega)).sB (by unfold wk9; omega)
    · simp only [z_mI_mSI, z_mL_mSI, z_mA_mSI, z_mB_mSI, z_mI_mSL, z_mL_mSL, z_mA_mSL, z_mB_mSL, z_mI_mSA, z_mL_mSA, z_mA_mSA, z_mB_mSA, z_mI_mSB, z_mL_mSB, z_mA_mSB, z_mB_mSB, if_true, if_false, and_false, false_and, and_true, true_and, and_self, decide_true, decide_false, reduceCtorEq, not_false_eq_true, not_true_eq_false, Nat.reduceEqDiff, Nat.reduceAdd, Nat.reduceMul, Nat.add_zero, Nat.zero_add]
    · simp only [z_mI_mSI, z_mL_mSI, z_mA_mSI, z_mB_mSI, z_mI_mSL, z_mL_mSL, z_mA_mSL, z_mB_mSL, z_mI_mSA, z_mL_mSA, z_mA_mSA, z_mB_mSA, z_mI_mSB, z_mL_mSB, z_mA_mSB, z_mB_mSB, if_true, if_false, and_false, false_and, and_true, true_and, and_self, decide_true, decide_false, reduceCtorEq, not_false_eq_true, not_true_eq_false, Nat.reduceEqDiff, Nat.reduceAdd, Nat.reduceMul, Nat.add_zero, Nat.zero_add]
    · refine RV.fr (m := st.length) ?_ ?_ (Nat.le_refl _) R
      · intro k hk
        simp only [z_mI_mSI, z_mL_mSI, z_mA_mSI, z_mB_mSI, z_mI_mSL, z_mL_mSL, z_mA_mSL, z_mB_mSL, z_mI_mSA, z_mL_mSA, z_mA_mSA, z_mB_mSA, z_mI_mSB, z_mL_mSB, z_mA_mSB, z_mB_mSB, if_true, if_false, and_false, false_and, and_true, true_and, and_self, decide_true, decide_false, reduceCtorEq, not_false_eq_true, not_true_eq_false, Nat.reduceEqDiff, Nat.reduceAdd, Nat.reduceMul, Nat.add_zero, Nat.zero_add, if_neg (show ¬ k = st.length by omega)]
        exact (g 82 (by omega)).2.2.2 k
      · intro k hk
        simp only [z_mI_mSI, z_mL_mSI, z_mA_mSI, z_mB_mSI, z_mI_mSL, z_mL_mSL, z_mA_mSL, z_mB_mSL, z_mI_mSA, z_mL_mSA, z_mA_mSA, z_mB_mSA, z_mI_mSB, z_mL_mSB, z_mA_mSB, z_mB_mSB, if_true, if_false, and_false, false_and, and_true, true_and, and_self, decide_true, decide_false, reduceCtorEq, not_false_eq_true, not_true_eq_false, Nat.reduceEqDiff, Nat.reduceAdd, Nat.reduceMul, Nat.add_zero, Nat.zero_add, if_neg (show ¬ k = st.length by omega)]
        exact (g 83 (by omega)).2.2.2 k
