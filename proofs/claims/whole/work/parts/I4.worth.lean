/-- the reference's answer -/
def WrM (u : MS) : Option Qq → Prop
  | none => mI u 79 = 1
  | some q => mI u 79 = 0 ∧ mL u 80 = q.1 ∧ mL u 81 = q.2
theorem one_none {l : List (Option Qq)} (h : l.length = 1) (m : none ∈ l) : l = [none] := by
  rcases l with _ | ⟨a, _ | ⟨b, s⟩⟩
  · simp at h
  · rcases List.mem_cons.mp m with e | e
    · rw [← e]
    · cases e
  · simp at h
theorem MG.all {β : Nat → Nat} {nv np n E : Nat} {nu : Nat → Int32} (hE : E ≤ 37000) : ∀ (e : List Tok) (u : MS) (st : List Qq) (j : Nat), MC u β nv np nu → (∀ t, t ∈ e → okK nv np t) → okD e st.length 1 → st.length ≤ 20 → j + (rc e).length = E → (∀ k, k < (rc e).length → mA u 60 (j + k) = nI ((rc e).getD k (0, 0, 0)).1 ∧ mA u 61 (j + k) = nI ((rc e).getD k (0, 0, 0)).2.1 ∧ mA u 62 (j + k) = nI ((rc e).getD k (0, 0, 0)).2.2) → mI u 79 = 0 → RV u st → okR st → (∀ q s, st = q :: s → mL u 80 = q.1 ∧ mL u 81 = q.2) → ∃ u' v, fX12_worth_11 95 (n + 1 + (rc e).length) u (nI E) (nI st.length) (nI j) = some u' ∧ MAg wk9 u u' ∧ evs β nu e (sm st) = [v] ∧ okV v ∧ WrM u' v
  | [], u, st, j, M, _, od, _, hj, _, z, R, os, la => by
    have l1 : st.length = 1 := od
    rcases st with _ | ⟨q, _ | ⟨b, s⟩⟩
    · simp at l1
    · have ej : j = E := hj
      subst ej
      obtain ⟨a1, a2⟩ := la q [] rfl
      refine ⟨u, some q, ?_, MAg.refl u, rfl, fun p ep => (by cases ep; exact os q (List.mem_cons_self ..)), z, a1, a2⟩
      show fX12_worth_11F 95 (fX12_worth_11 95 n) u (nI j) _ (nI j) = _
      unfold fX12_worth_11F
      rw [if_pos (Int32.le_refl _)]
    · simp at l1
  | t :: e, u, st, j, M, ok, od, hl, hj, ec, z, R, os, la => by
    have el : (rc (t :: e)).length = (rc e).length + 1 := rfl
    rw [el] at hj ec ⊢
    have c0 := ec 0 (by omega)
    obtain ⟨v, a1, a2, a3⟩ := MG.tok (n := n + 1 + (rc e).length) (E := E) (j := j) M (ok t (List.mem_cons_self ..)) (by omega) hE c0.1 c0.2.1 c0.2.2 z od.1 hl R os
    have ln : (evT β nu t (sm st)).length = dpt t st.length := by
      rw [evT_len (by rw [sm_len]; exact od.1), sm_len]
    have okt : okR (tl1 t st) := by
      unfold tl1
      split
      · exact os
      · split
        · exact fun q hq => os q (List.mem_of_mem_tail hq)
        · exact fun q hq => os q (List.mem_of_mem_tail (List.mem_of_mem_tail hq))
    have lt1 : (tl1 t st).length + 1 = dpt t st.length := by
      rw [← ln, a1, List.length_cons, sm_len]
    have ev : evs β nu (t :: e) (sm st) = evs β nu e (v :: sm (tl1 t st)) := by
      show evs β nu e (evT β nu t (sm st)) = _
      rw [a1]
    rw [show n + 1 + ((rc e).length + 1) = (n + 1 + (rc e).length) + 1 by omega]
    cases v with
    | none =>
      obtain ⟨u', b1, b2, b3⟩ := a3
      refine ⟨u', none, b1, b3, ?_, (fun q eq => (by cases eq)), b2⟩
      have od2 : okD e (none :: sm (tl1 t st)).length 1 := by
        rw [List.length_cons, sm_len, lt1]; exact od.2
      rw [ev]
      exact one_none (evs_len e _ 1 od2) (evs_none e _ 1 od2 (List.mem_cons_self ..))
    | some q =>
      obtain ⟨u', b1, b2, b3, b4, b5, b6⟩ := a3
      have M' := M.ch b5 (by unfold wk9; omega) (by unfold wk9; omega)
      have m0 : ∀ i, mA u' 60 i = mA u 60 i := (b5 60 (by unfold wk9; omega)).2.2.1
      have m1 : ∀ i, mA u' 61 i = mA u 61 i := (b5 61 (by unfold wk9; omega)).2.2.1
      have m2 : ∀ i, mA u' 62 i = mA u 62 i := (b5 62 (by unfold wk9; omega)).2.2.1
      obtain ⟨u2, w, c1, c2, c3, c4, c5⟩ := MG.all hE e u' (q :: tl1 t st) (j + 1) M' (fun t' ht => ok t' (List.mem_cons_of_mem _ ht)) (by rw [List.length_cons, lt1]; exact od.2) (by rw [List.length_cons, lt1]; exact dpt_le od.1 hl) (by omega) (fun k hk => by rw [m0, m1, m2, show j + 1 + k = j + (k + 1) by omega]; exact ec (k + 1) (by omega)) b2 b6 (fun p hp => by
        rcases List.mem_cons.mp hp with e1 | e1
        · rw [e1]; exact a2 q rfl
        · exact okt p e1) (fun p s ep => by injection ep with e1 _; rw [← e1]; exact ⟨b3, b4⟩)
      refine ⟨u2, w, ?_, b5.trans c2, ?_, c4, c5⟩
      · rw [b1, ← c1, List.length_cons]
      · rw [ev]; exact c3
theorem worth_v {u : MS} {β : Nat → Nat} {nv np j : Nat} {nu : Nat → Int32} {e : List Tok} (M : MC u β nv np nu) (ok : okE nv np e) (hj : j + (rc e).length ≤ 37000) (ec : ∀ k, k < (rc e).length → mA u 60 (j + k) = nI ((rc e).getD k (0, 0, 0)).1 ∧ mA u 61 (j + k) = nI ((rc e).getD k (0, 0, 0)).2.1 ∧ mA u 62 (j + k) = nI ((rc e).getD k (0, 0, 0)).2.2) : ∃ u' v, fX12_worth u (nI j) (nI (j + (rc e).length)) 95 = some u' ∧ MAg wk9 u u' ∧ evs β nu e [] = [v] ∧ okV v ∧ WrM u' v := by
  obtain ⟨n, hn⟩ : ∃ n, FU = n + 1 + (rc e).length := ⟨FU - 1 - (rc e).length, by have : FU = 100000 := rfl; omega⟩
  have g : MAg wk9 u (mSI u 79 0) := (MAg.refl u).sI (by unfold wk9; omega)
  have M' := M.ch g (by unfold wk9; omega) (by unfold wk9; omega)
  obtain ⟨u', v, a1, a2, a3, a4, a5⟩ := MG.all (n := n) hj e (mSI u 79 0) [] j M' ok.1 ok.2 (by decide) rfl (fun k hk => by simp only [z_mI_mSI, z_mL_mSI, z_mA_mSI, z_mB_mSI, z_mI_mSL, z_mL_mSL, z_mA_mSL, z_mB_mSL, z_mI_mSA, z_mL_mSA, z_mA_mSA, z_mB_mSA, z_mI_mSB, z_mL_mSB, z_mA_mSB, z_mB_mSB]; exact ec k hk) (by simp only [z_mI_mSI, z_mL_mSI, z_mA_mSI, z_mB_mSI, z_mI_mSL, z_mL_mSL, z_mA_mSL, z_mB_mSL, z_mI_mSA, z_mL_mSA, z_mA_mSA, z_mB_mSA, z_mI_mSB, z_mL_mSB, z_mA_mSB, z_mB_mSB, if_true, if_false, and_false, false_and, and_true, true_and, and_self, decide_true, decide_false, reduceCtorEq, not_false_eq_true, not_true_eq_false, Nat.reduceEqDiff, Nat.reduceAdd, Nat.reduceMul, Nat.add_zero, Nat.zero_add]) trivial (fun q hq => by cases hq) (fun q s eq => by cases eq)
  refine ⟨u', v, ?_, g.trans a2, a3, a4, a5⟩
  unfold fX12_worth fX12_worth_0
  rw [show (decide (mk 95 = 2) && decide (mak 95 = 1)) = true from rfl, oC_v]
  show fX12_worth_11 95 FU (mSI u 79 0) _ 0 _ = _
  rw [hn, show (0 : Int32) = nI ([] : List Qq).length from rfl]
  exact a1
/-! a formula in both, by its steps -/
def PgE (h : PH) (u : MS) (G : Gh) (z : Sz) (nv : Nat) (cs ce rs re : Int32) (e : List Tok) : Prop := ∃ (i j : Nat), okE nv z.np e ∧ cs = nI i ∧ ce = nI (i + (cc e).length) ∧ rs = nI j ∧ re = nI (j + (rc e).length) ∧ i + (cc e).length ≤ z.pc ∧ j + (rc e).length ≤ z.rc ∧ (∀ k, k < (cc e).length → hA h G.pg (i + k) = nI ((cc e).getD k 0)) ∧ ∀ k, k < (rc e).length → mA u 60 (j + k) = nI ((rc e).getD k (0, 0, 0)).1 ∧ mA u 61 (j + k) = nI ((rc e).getD k (0, 0, 0)).2.1 ∧ mA u 62 (j + k) = nI ((rc e).getD k (0, 0, 0)).2.2
theorem PgR.ex {h : PH} {u : MS} {G : Gh} {z : Sz} {nv : Nat} {cs ce rs re : Int32} (p : PgR h u G z nv cs ce rs re) : ∃ e, PgE h u G z nv cs ce rs re e := by
  obtain ⟨e, i, j, k⟩ := p
  exact ⟨e, i, j, k⟩
def val (β : Nat → Nat) (nu : Nat → Int32) (e : List Tok) : Option Qq := hd1 (evs β nu e [])
/-- what the class's formulas read, unchanged from h0 -/
def eqG (h0 h : PH) (G : Gh) : Prop := ∀ i, hA h G.pg i = hA h0 G.pg i
theorem PgE.work {h0 h : PH} {u : MS} {G : Gh} {z : Sz} {β : Nat → Nat} {nv : Nat} {nu : Nat → Int32} {cs ce rs re : Int32} {e : List Tok} (p : PgE h0 u G z nv cs ce rs re e) (W : WC h G β nv z.np z.pc nu) (hc : z.pc < 99000) (q : eqG h0 h G) : ∃ h', fX6_work h (G.jd 1) cs ce = some (h', some (G.jd 101)) ∧ CH G (fun i => 100 ≤ i) h h' ∧ FrV h' (G.jd 101) (val β nu e) ∧ okV (val β nu e) := by
  obtain ⟨i, j, p1, p2, p3, p4, p5, p6, p7, p8, p9⟩ := p
  subst p2 p3
  obtain ⟨h', v, a1, a2, a3, a4, a5⟩ := work_v W hc p1 p6 (fun k hk => by rw [q]; exact p8 k hk)
  have ev : val β nu e = v := by unfold val; rw [a5]; rfl
  exact ⟨h', a1, a2, by rw [ev]; exact a3, by rw [ev]; exact a4⟩
theorem PgE.worth {h0 : PH} {u0 u : MS} {G : Gh} {z : Sz} {β : Nat → Nat} {nv : Nat} {nu : Nat → Int32} {cs ce rs re : Int32} {e : List Tok} (p : PgE h0 u0 G z nv cs ce rs re e) (M : MC u β nv z.np nu) (hc : z.rc ≤ 37000) (g : MAg kS u0 u) : ∃ u', fX12_worth u rs re 95 = some u' ∧ MAg wk9 u u' ∧ okV (val β nu e) ∧ WrM u' (val β nu e) := by
  obtain ⟨i, j, p1, p2, p3, p4, p5, p6, p7, p8, p9⟩ := p
  subst p4 p5
  have m0 : ∀ i, mA u 60 i = mA u0 60 i := (g 60 (by unfold kS; omega)).2.2.1
  have m1 : ∀ i, mA u 61 i = mA u0 61 i := (g 61 (by unfold kS; omega)).2.2.1
  have m2 : ∀ i, mA u 62 i = mA u0 62 i := (g 62 (by unfold kS; omega)).2.2.1
  obtain ⟨u', v, a1, a2, a3, a4, a5⟩ := worth_v (j := j) M p1 (by omega) (fun k hk => by rw [m0, m1, m2]; exact p9 k hk)
  have ev : val β nu e = v := by unfold val; rw [a3]; rfl
  exact ⟨u', a1, a2, by rw [ev]; exact a4, by rw [ev]; exact a5⟩
