/-! sums: what both reckon -/
abbrev SSm : Type := Qq × Qq × Option Qq × Option Qq
def capQ (q : Qq) : Option Qq → Qq
  | none => q
  | some c => if 0 ≤ cmpQ q c then c else q
def flrQ (q : Qq) : Option Qq → Qq
  | none => q
  | some c => if cmpQ q c ≤ 0 then c else q
def stpS (k : Int32) (v : Option Qq) (s : Option SSm) : Option SSm :=
  match s, v with
  | some (a, m, c, f), some q => if k = 0 then (fadd a q).map (fun a' => (a', m, c, f)) else if k = 1 then (fmul m q).map (fun m' => (a, m', c, f)) else if k = 2 then some (a, m, some (capQ q c), f) else some (a, m, c, some (flrQ q f))
  | none, _ => none
  | some _, none => none
def sS : Option SSm := some ((0, 1), (1, 1), none, none)
def okSS (s : SSm) : Prop := okQ s.1 ∧ okQ s.2.1 ∧ okV s.2.2.1 ∧ okV s.2.2.2
def okSm (s : Option SSm) : Prop := ∀ x, s = some x → okSS x
theorem okV_some {q : Qq} (o : okQ q) : okV (some q) := fun _ e => by injection e with e; rw [← e]; exact o
theorem okV_none : okV none := fun _ e => by cases e
theorem okQ_01 : okQ (0, 1) := by unfold okQ; decide
theorem okQ_11 : okQ (1, 1) := by unfold okQ; decide
theorem okSm_s : okSm sS := fun x e => by
  injection e with e
  subst e
  exact ⟨okQ_01, okQ_11, okV_none, okV_none⟩
theorem capQ_ok {q : Qq} {c : Option Qq} (o : okQ q) (oc : okV c) : okQ (capQ q c) := by
  cases c with
  | none => exact o
  | some x =>
    simp only [capQ]
    split
    · exact oc x rfl
    · exact o
theorem flrQ_ok {q : Qq} {c : Option Qq} (o : okQ q) (oc : okV c) : okQ (flrQ q c) := by
  cases c with
  | none => exact o
  | some x =>
    simp only [flrQ]
    split
    · exact oc x rfl
    · exact o
theorem stpS_ok {k : Int32} {v : Option Qq} {s : Option SSm} (o : okSm s) (ov : okV v) : okSm (stpS k v s) := by
  intro x e
  rcases s with _ | ⟨a, m, c, f⟩
  · cases e
  rcases v with _ | q
  · cases e
  obtain ⟨o1, o2, o3, o4⟩ := o _ rfl
  have oq := ov q rfl
  unfold stpS at e
  simp only at e
  by_cases k0 : k = 0
  · rw [if_pos k0] at e
    cases h : fadd a q with
    | none => rw [h] at e; cases e
    | some t =>
      rw [h] at e
      injection e with e
      subst e
      exact ⟨fadd_ok a q o1 oq t h, o2, o3, o4⟩
  rw [if_neg k0] at e
  by_cases k1 : k = 1
  · rw [if_pos k1] at e
    cases h : fmul m q with
    | none => rw [h] at e; cases e
    | some t =>
      rw [h] at e
      injection e with e
      subst e
      exact ⟨o1, fmul_ok m q o2 oq t h, o3, o4⟩
  rw [if_neg k1] at e
  by_cases k2 : k = 2
  · rw [if_pos k2] at e
    injection e with e
    subst e
    exact ⟨o1, o2, okV_some (capQ_ok oq o3), o4⟩
  · rw [if_neg k2] at e
    injection e with e
    subst e
    exact ⟨o1, o2, o3, okV_some (flrQ_ok oq o4)⟩
def capT (t : Qq) : Option Qq → Qq
  | none => t
  | some c => if cmpQ t c ≤ 0 then t else c
def flrT (t : Qq) : Option Qq → Qq
  | none => t
  | some c => if 0 ≤ cmpQ t c then t else c
theorem capT_ok {q : Qq} {c : Option Qq} (o : okQ q) (oc : okV c) : okQ (capT q c) := by
  cases c with
  | none => exact o
  | some x =>
    simp only [capT]
    split
    · exact o
    · exact oc x rfl
theorem flrT_ok {q : Qq} {c : Option Qq} (o : okQ q) (oc : okV c) : okQ (flrT q c) := by
  cases c with
  | none => exact o
  | some x =>
    simp only [flrT]
    split
    · exact o
    · exact oc x rfl
def finS : Option SSm → Option Qq
  | none => none
  | some (a, m, c, f) => (fmul a m).map (fun t => flrT (capT t c) f)
theorem finS_ok {s : Option SSm} (o : okSm s) : okV (finS s) := by
  intro x e
  rcases s with _ | ⟨a, m, c, f⟩
  · cases e
  obtain ⟨o1, o2, o3, o4⟩ := o _ rfl
  unfold finS at e
  simp only at e
  cases h : fmul a m with
  | none => rw [h] at e; cases e
  | some t =>
    rw [h] at e
    injection e with e
    subst e
    exact flrT_ok (capT_ok (fmul_ok a m o1 o2 t h) o3) o4
def smS (k : Nat → Int32) (v : Nat → Option Qq) (l : List Nat) : Option SSm := l.foldl (fun s x => stpS (k x) (v x) s) sS
theorem smS_app {k : Nat → Int32} {v : Nat → Option Qq} {l : List Nat} {x : Nat} : smS k v (l ++ [x]) = stpS (k x) (v x) (smS k v l) := by
  unfold smS
  rw [List.foldl_append]
  rfl
theorem smS_ok {k : Nat → Int32} {v : Nat → Option Qq} {l : List Nat} (h : ∀ x, x ∈ l → okV (v x)) : okSm (smS k v l) := by
  have : ∀ (l : List Nat) (s : Option SSm), okSm s → (∀ x, x ∈ l → okV (v x)) → okSm (l.foldl (fun s x => stpS (k x) (v x) s) s) := by
    intro l
    induction l with
    | nil => exact fun s o _ => o
    | cons a l ih => exact fun s o h => ih _ (stpS_ok o (h a (List.mem_cons_self ..))) fun x hx => h x (List.mem_cons_of_mem _ hx)
  exact this l sS okSm_s h
theorem filt_y {P : Nat → Prop} {l : List Nat} {x : Nat} (h : P x) : (l ++ [x]).filter (cd P) = l.filter (cd P) ++ [x] := by
  rw [List.filter_append, List.filter_cons_of_pos (cd_y h), List.filter_nil]
theorem filt_n {P : Nat → Prop} {l : List Nat} {x : Nat} (h : ¬ P x) : (l ++ [x]).filter (cd P) = l.filter (cd P) := by
  rw [List.filter_append, List.filter_cons_of_neg (by rw [cd_n h]; decide), List.filter_nil, List.append_nil]
/-- the reference's join -/
theorem wr_mlo {u : MS} {n d : Int64} (z : mI u 79 = 0) : WrM (mlo u n d) (low n d) := by
  unfold mlo low
  by_cases b : big (lwN n d) (lwD n d)
  · rw [if_pos b, if_pos b]
    show mI _ 79 = 1
    simp only [z_mI_mSI, z_mL_mSI, z_mA_mSI, z_mB_mSI, z_mI_mSL, z_mL_mSL, z_mA_mSL, z_mB_mSL, z_mI_mSA, z_mL_mSA, z_mA_mSA, z_mB_mSA, z_mI_mSB, z_mL_mSB, z_mA_mSB, z_mB_mSB, if_true, if_false, and_false, false_and, and_true, true_and, and_self, decide_true, decide_false, reduceCtorEq, not_false_eq_true, not_true_eq_false, Nat.reduceEqDiff, Nat.reduceAdd, Nat.reduceMul, Nat.add_zero, Nat.zero_add]
  · rw [if_neg b, if_neg b]
    refine ⟨?_, ?_, ?_⟩
    · simp only [z_mI_mSI, z_mL_mSI, z_mA_mSI, z_mB_mSI, z_mI_mSL, z_mL_mSL, z_mA_mSL, z_mB_mSL, z_mI_mSA, z_mL_mSA, z_mA_mSA, z_mB_mSA, z_mI_mSB, z_mL_mSB, z_mA_mSB, z_mB_mSB, if_true, if_false, and_false, false_and, and_true, true_and, and_self, decide_true, decide_false, reduceCtorEq, not_false_eq_true, not_true_eq_false, Nat.reduceEqDiff, Nat.reduceAdd, Nat.reduceMul, Nat.add_zero, Nat.zero_add]; exact z
    · simp only [z_mI_mSI, z_mL_mSI, z_mA_mSI, z_mB_mSI, z_mI_mSL, z_mL_mSL, z_mA_mSL, z_mB_mSL, z_mI_mSA, z_mL_mSA, z_mA_mSA, z_mB_mSA, z_mI_mSB, z_mL_mSB, z_mA_mSB, z_mB_mSB, if_true, if_false, and_false, false_and, and_true, true_and, and_self, decide_true, decide_false, reduceCtorEq, not_false_eq_true, not_true_eq_false, Nat.reduceEqDiff, Nat.reduceAdd, Nat.reduceMul, Nat.add_zero, Nat.zero_add]
    · simp only [z_mI_mSI, z_mL_mSI, z_mA_mSI, z_mB_mSI, z_mI_mSL, z_mL_mSL, z_mA_mSL, z_mB_mSL, z_mI_mSA, z_mL_mSA, z_mA_mSA, z_mB_mSA, z_mI_mSB, z_mL_mSB, z_mA_mSB, z_mB_mSB, if_true, if_false, and_false, false_and, and_true, true_and, and_self, decide_true, decide_false, reduceCtorEq, not_false_eq_true, not_true_eq_false, Nat.reduceEqDiff, Nat.reduceAdd, Nat.reduceMul, Nat.add_zero, Nat.zero_add]
theorem joinAd {u : MS} {a q : Qq} (oa : okQ a) (oq : okQ q) (z : mI u 79 = 0) : ∃ u', fX12_join u 3 a.1 a.2 q.1 q.2 = some u' ∧ MAg wk9 u u' ∧ WrM u' (fadd a q) := by
  refine ⟨mlo u (a.1 * q.2 + q.1 * a.2) (a.2 * q.2), ?_, mlo_ag.mono fun k hk => by unfold wk9 at hk; omega, wr_mlo z⟩
  rw [fX12_join, fX12_join_0, if_neg (by decide), if_pos rfl, fX12_join_50, lowest_v (okND_add oa oq), oB_v]
theorem joinMu {u : MS} {a q : Qq} (oa : okQ a) (oq : okQ q) (z : mI u 79 = 0) : ∃ u', fX12_join u 5 a.1 a.2 q.1 q.2 = some u' ∧ MAg wk9 u u' ∧ WrM u' (fmul a q) := by
  refine ⟨mlo u (a.1 * q.1) (a.2 * q.2), ?_, mlo_ag.mono fun k hk => by unfold wk9 at hk; omega, wr_mlo z⟩
  rw [fX12_join, fX12_join_0, if_pos rfl, lowest_v (okND_mul oa oq), oB_v]
