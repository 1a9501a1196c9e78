theorem gdl_ {α : Type} (l m : List α) (i : Nat) (d : α) (h : i < l.length) : (l ++ m).getD i d = l.getD i d := by
  rw [List.getD_eq_getElem?_getD, List.getD_eq_getElem?_getD, List.getElem?_append_left h]
theorem gdr_ {α : Type} (l m : List α) (i : Nat) (d : α) (h : l.length ≤ i) : (l ++ m).getD i d = m.getD (i - l.length) d := by
  rw [List.getD_eq_getElem?_getD, List.getD_eq_getElem?_getD, List.getElem?_append_right h]
theorem FM.of {u u' : MS} (a : mI u' 15 = mI u 15) (b : mI u' 16 = mI u 16) : FM u u' := fun q ⟨h1, p, h2, h3, h4⟩ => ⟨by rw [a]; exact h1, p, h2, h3, by rw [b]; exact h4⟩
/-- the class's program has the steps of e from pc on; the reference's from rc on -/
def Cc (h : PH) (G : Gh) (pc : Nat) (e : List Tok) : Prop := ∀ k, k < (cc e).length → hA h G.pg (pc + k) = nI ((cc e).getD k 0)
def Cr (u : MS) (r : Nat) (e : List Tok) : Prop := ∀ k, k < (rc e).length → mA u 60 (r + k) = nI ((rc e).getD k (0, 0, 0)).1 ∧ mA u 61 (r + k) = nI ((rc e).getD k (0, 0, 0)).2.1 ∧ mA u 62 (r + k) = nI ((rc e).getD k (0, 0, 0)).2.2
theorem Cc.nil (h : PH) (G : Gh) (pc : Nat) : Cc h G pc [] := fun k hk => absurd hk (by simp [cc])
theorem Cr.nil (u : MS) (r : Nat) : Cr u r [] := fun k hk => absurd hk (by simp [rc])
theorem Cc.app {h : PH} {G : Gh} {pc : Nat} {e f : List Tok} (X : Cc h G pc e) (Y : Cc h G (pc + (cc e).length) f) : Cc h G pc (e ++ f) := by
  intro k hk
  rw [cc_app] at hk ⊢
  rw [List.length_append] at hk
  by_cases q : k < (cc e).length
  · rw [gdl_ _ _ _ _ q]; exact X k q
  · rw [gdr_ _ _ _ _ (by omega)]
    have := Y (k - (cc e).length) (by omega)
    rw [show pc + (cc e).length + (k - (cc e).length) = pc + k by omega] at this
    exact this
theorem Cr.app {u : MS} {r : Nat} {e f : List Tok} (X : Cr u r e) (Y : Cr u (r + (rc e).length) f) : Cr u r (e ++ f) := by
  intro k hk
  rw [rc_app] at hk ⊢
  rw [List.length_append] at hk
  by_cases q : k < (rc e).length
  · rw [gdl_ _ _ _ _ q]; exact X k q
  · rw [gdr_ _ _ _ _ (by omega)]
    have := Y (k - (rc e).length) (by omega)
    rw [show r + (rc e).length + (k - (rc e).length) = r + k by omega] at this
    exact this
theorem Cc.rd {h h' : PH} {u u' : MS} {G G' : Gh} {w a pc pc1 rc1 : Nat} {e : List Tok} (X : Cc h G pc e) (R : RD h u h' u' G G' w a pc1 rc1) (l : pc + (cc e).length ≤ pc1) : Cc h' G' pc e := fun k hk => (R.pg _ (by omega)).trans (X k hk)
theorem Cr.rd {h h' : PH} {u u' : MS} {G G' : Gh} {w a r pc1 rc1 : Nat} {e : List Tok} (X : Cr u r e) (R : RD h u h' u' G G' w a pc1 rc1) (l : r + (rc e).length ≤ rc1) : Cr u' r e := fun k hk => by
  rw [R.mp 60 _ (by omega) (by omega) (by omega), R.mp 61 _ (by omega) (by omega) (by omega), R.mp 62 _ (by omega) (by omega) (by omega)]
  exact X k hk
theorem Cc.one {h : PH} {G : Gh} {pc x : Nat} {tk : Tok} (e : ct tk = [x]) (v : hA h G.pg pc = nI x) : Cc h G pc [tk] := fun k hk => by
  have c1 : cc [tk] = [x] := by show List.flatMap ct [tk] = _; simp [e]
  rw [c1] at hk ⊢
  have : k = 0 := by simp at hk; exact hk
  subst this
  exact v
theorem Cr.one {u : MS} {r : Nat} {tk : Tok} (a : mA u 60 r = nI (rt tk).1) (b : mA u 61 r = nI (rt tk).2.1) (c : mA u 62 r = nI (rt tk).2.2) : Cr u r [tk] := fun k hk => by
  have : k = 0 := by
    have : k < 1 := hk
    omega
  subst this
  exact ⟨a, b, c⟩
theorem okK.nv {v v' p : Nat} {x : Tok} (hv : v ≤ v') (o : okK v p x) : okK v' p x := ⟨o.1, o.2.1, o.2.2.1, fun q => ⟨by have := (o.2.2.2 q).1; unfold okTm at *; omega, (o.2.2.2 q).2⟩⟩
/-- what both have added: the class e, the reference l ++ e -/
def EMt (h : PH) (u : MS) (G : Gh) (p v pc rc' pc1 rc1 k k' : Nat) (l : List Tok) : Prop := ∃ e, (∀ x, x ∈ e → okK v p x) ∧ okD e k k' ∧ pc1 = pc + (cc e).length ∧ rc1 = rc' + (rc (l ++ e)).length ∧ Cc h G pc e ∧ Cr u rc' (l ++ e)
/-- a piece of a formula read by both: the reference at Tg, or both stopped -/
def GO (h : PH) (u : MS) (G : Gh) (z : Sz) (w v L n : Nat) (D : Nat → Nat × Nat × Nat × List Nat) (t p pc rc d : Nat) (S : List Nat) (k k' B : Nat) (l : List Tok) (Tg : MS → Nat → Option MS → Prop) (F : Option (PH × Nat × Nat)) (M : Option MS) : Prop :=
  ∃ h' G' ci cj u', F = some (h', ci, cj) ∧ RC h h' G G' ci cj ∧ RD h u h' u' G G' w 23 pc rc ∧ ((∃ t' v' pc' rc', Tg u' t' M ∧ t ≤ t' ∧ v ≤ v' ∧ pc ≤ pc' ∧ rc ≤ rc' ∧ FX h' u' G' z w v' L n D t' p pc' rc' S.length d S ∧ FM u u' ∧ (mI u' 15 = 0 → EMt h' u' G' p v' pc rc pc' rc' k k' l)) ∨ (M = some u' ∧ Ded h' u' ∧ ∃ pc', hI h' 142 5 = nI pc' ∧ pc' ≤ hN h' G'.pg ∧ pc ≤ pc' ∧ pc' ≤ z.pc + B))
section GO
variable {h h1 : PH} {u u1 : MS} {G G1 : Gh} {z : Sz} {w v v1 L n t t1 p pc pc1 rc' rc1 d k k1 k' B ci cj : Nat} {D : Nat → Nat × Nat × Nat × List Nat} {S : List Nat} {l l1 : List Tok} {Tg : MS → Nat → Option MS → Prop} {F : Option (PH × Nat × Nat)} {M : Option MS}
/-- what was read ahead of it -/
theorem GO.pre (F0 : FL h u) (c : RC h h1 G G1 ci cj) (R : RD h u h1 u1 G G1 w 23 pc rc') (F1 : FL h1 u1) (fm : FM u u1) (ht : t ≤ t1) (hv : v ≤ v1) (hp : pc ≤ pc1) (hr : rc' ≤ rc1) (E : mI u1 15 = 0 → ∃ e er, (∀ x, x ∈ e → okK v1 p x) ∧ okD e k k1 ∧ pc1 = pc + (cc e).length ∧ rc1 = rc' + (rc er).length ∧ l ++ e = er ++ l1 ∧ Cc h1 G1 pc e ∧ Cr u1 rc' er) (g : GO h1 u1 G1 z w v1 L n D t1 p pc1 rc1 d S k1 k' B l1 Tg F M) : GO h u G z w v L n D t p pc rc' d S k k' B l Tg (oK3 ci cj F) M := by
  obtain ⟨h', G', di, dj, u', e1, c1, R1, o⟩ := g
  refine ⟨h', G', ci + di, cj + dj, u', by rw [e1, oK3_v], c.trans c1, R.trans R1 hp hr, ?_⟩
  rcases o with ⟨t', v', pc', rr', tg, q1, q2, q3, q4, X, fm1, E1⟩ | ⟨e2, X, pc', q1, q2, q3, q4⟩
  · refine .inl ⟨t', v', pc', rr', tg, by omega, by omega, by omega, by omega, X, fm.trans fm1, fun e0 => ?_⟩
    obtain ⟨e', a1, a2, a3, a4, a5, a6⟩ := E1 e0
    obtain ⟨e, er, b1, b2, b3, b4, b5, b6, b7⟩ := E (FM.z F1 fm1 e0)
    have ll : l ++ (e ++ e') = er ++ (l1 ++ e') := by rw [← List.append_assoc, b5, List.append_assoc]
    refine ⟨e ++ e', fun x hx => ?_, okD.app _ _ _ _ _ b2 a2, ?_, ?_, ?_, ?_⟩
    · rcases List.mem_append.mp hx with hx | hx
      · exact (b1 x hx).nv q2
      · exact a1 x hx
    · rw [cc_app, List.length_append]; omega
    · rw [ll, rc_app, List.length_append]; omega
    · exact (b6.rd R1 (by omega)).app (by rw [← b3]; exact a5)
    · rw [ll]
      exact (b7.rd R1 (by omega)).app (by rw [← b4]; exact a6)
  · exact .inr ⟨e2, X, pc', q1, q2, by omega, q4⟩
/-- a move over tokens ahead of it -/
theorem GO.mv (F0 : FL h u) (R : RD h u h1 u1 G G w 23 pc rc') (hn : hN h1 = hN h) (F1 : FL h1 u1) (fm : FM u u1) (ht : t ≤ t1) (hv : v ≤ v1) (g : GO h1 u1 G z w v1 L n D t1 p pc rc' d S k k' B l Tg F M) : GO h u G z w v L n D t p pc rc' d S k k' B l Tg F M := by
  have := GO.pre (k := k) (l := l) F0 (RC.n (G := G) hn) R F1 fm ht hv (Nat.le_refl _) (Nat.le_refl _) (fun _ => ⟨[], [], (fun x hx => by cases hx), rfl, rfl, rfl, (List.append_nil l).trans (List.nil_append l).symm, Cc.nil _ _ _, Cr.nil _ _⟩) g
  obtain ⟨h', G', ci, cj, u', e, o⟩ := this
  have : oK3 0 0 F = F := by
    cases F with
    | none => rfl
    | some x => obtain ⟨a, b, c⟩ := x; rw [oK3_v, Nat.zero_add, Nat.zero_add]
  rw [this] at e
  exact ⟨h', G', ci, cj, u', e, o⟩
end GO
/-! the reference's row of waits -/
section WT
variable {h : PH} {u : MS} {G : Gh} {z : Sz} {w v L n t p pc rc' q d op : Nat} {D : Nat → Nat × Nat × Nat × List Nat} {S : List Nat}
/-- the state behind the push, ahead of the move -/
def pu (u : MS) (k op : Nat) : MS := mSI (mSA u 71 k (nI op)) 70 (nI (k + 1))
theorem pu_i (u : MS) (k op j : Nat) (hj : j ≠ 70) : mI (pu u k op) j = mI u j := by
  unfold pu
  simp only [z_mI_mSI, z_mL_mSI, z_mA_mSI, z_mB_mSI, z_mI_mSL, z_mL_mSL, z_mA_mSL, z_mB_mSL, z_mI_mSA, z_mL_mSA, z_mA_mSA, z_mB_mSA, z_mI_mSB, z_mL_mSB, z_mA_mSB, z_mB_mSB]
  rw [if_neg hj]
theorem stacks_m (X : FX h u G z w v L n D t p pc rc' q d S) (hS : S.length < 40) (op : Nat) : fX12_stacks u (nI op) = oB (fX12_next (pu u S.length op)) (fun x => some x) := by
  have e : mI (mSA u 71 S.length (nI op)) 70 = nI S.length := X.s1
  unfold fX12_stacks fX12_stacks_0
  rw [X.s1, oC_t (ix_n (show S.length < mlen 71 from hS) (by decide)), oL_v, nI_clamp (show S.length < 2147483648 by omega), e, nI_1, oL_v]
  rfl
theorem push_rd (X : FX h u G z w v L n D t p pc rc' q d S) (op : Nat) : RD h u h (pu u S.length op) G G w 23 pc rc' := by
  refine RD.mm X.i.sx (fun zz h1 h2 => ((MD.refl u zz).sA (by omega) (by unfold kM; omega)).sI (by omega)) (fun k hk => pu_i _ _ _ _ (by omega)) (fun k i h1 h2 h3 h4 => ?_) (fun k i h1 h2 h3 => ?_) rfl
  · unfold pu; simp only [z_mI_mSI, z_mL_mSI, z_mA_mSI, z_mB_mSI, z_mI_mSL, z_mL_mSL, z_mA_mSL, z_mB_mSL, z_mI_mSA, z_mL_mSA, z_mA_mSA, z_mB_mSA, z_mI_mSB, z_mL_mSB, z_mA_mSB, z_mB_mSB]; rw [if_neg (fun e => h4 e.1)]
  · unfold pu; simp only [z_mI_mSI, z_mL_mSI, z_mA_mSI, z_mB_mSI, z_mI_mSL, z_mL_mSL, z_mA_mSL, z_mB_mSL, z_mI_mSA, z_mL_mSA, z_mA_mSA, z_mB_mSA, z_mI_mSB, z_mL_mSB, z_mA_mSB, z_mB_mSB]; rw [if_neg (fun e => by omega)]
theorem push_v (X : FX h u G z w v L n D t p pc rc' q d S) (hS : S.length < 40) (op : Nat) {E : Option (PH × Int32)} (o : PI h (pu u S.length op) G z L n D → Liv h (pu u S.length op) D n t → FL h (pu u S.length op) → ∃ h' u' r, E = some (h', r) ∧ fX12_next (pu u S.length op) = some u' ∧ Q h h' ∧ W' (pu u S.length op) u' ∧ ((r = 1 ∧ t < 1200 ∧ Liv h' u' D n (t + 1) ∧ FL h' u' ∧ FM (pu u S.length op) u') ∨ (r = 0 ∧ Ded h' u'))) : ∃ h' u' r, E = some (h', r) ∧ fX12_stacks u (nI op) = some u' ∧ hN h' = hN h ∧ RD h u h' u' G G w 23 pc rc' ∧ Q h h' ∧ ((r = 1 ∧ FM u u' ∧ FX h' u' G z w v L n D (t + 1) p pc rc' (q + 1) d (S ++ [op])) ∨ (r = 0 ∧ Ded h' u')) := by
  have R0 := push_rd X op
  have V0 : Liv h (pu u S.length op) D n t := X.V.fr (fun _ _ => rfl) rfl (pu_i _ _ _ 11 (by omega)) (pu_i _ _ _ 13 (by omega))
  have F0 : FL h (pu u S.length op) := X.F.fr rfl rfl (pu_i _ _ _ 15 (by omega)) (pu_i _ _ _ 16 (by omega))
  have I0 := X.i.rd R0 X.hw X.zp X.zr
  obtain ⟨h', u', r, e1, e2, Q1, W1, oo⟩ := o I0 V0 F0
  have R1 : RD h (pu u S.length op) h' u' G G w 23 pc rc' := RD.q X.i.sx Q1 W1 23 pc rc'
  have R := R0.trans R1 (Nat.le_refl _) (Nat.le_refl _)
  refine ⟨h', u', r, e1, by rw [stacks_m X hS, e2, oB_v], Q1.N, R, Q1, ?_⟩
  have K0 : VS h (pu u S.length op) w v := ⟨X.K.v3, X.K.w3, X.K.vc, (pu_i _ _ _ 65 (by omega)).trans X.K.m65, by unfold pu; simp only [z_mI_mSI, z_mL_mSI, z_mA_mSI, z_mB_mSI, z_mI_mSL, z_mL_mSL, z_mA_mSL, z_mB_mSL, z_mI_mSA, z_mL_mSA, z_mA_mSA, z_mB_mSA, z_mI_mSB, z_mL_mSB, z_mA_mSB, z_mB_mSB, if_true, if_false, and_false, false_and, and_true, true_and, and_self, decide_true, decide_false, reduceCtorEq, not_false_eq_true, not_true_eq_false, Nat.reduceEqDiff, Nat.reduceAdd, Nat.reduceMul, Nat.add_zero, Nat.zero_add]; exact X.K.m42, fun i hi => by unfold pu; simp only [z_mI_mSI, z_mL_mSI, z_mA_mSI, z_mB_mSI, z_mI_mSL, z_mL_mSL, z_mA_mSL, z_mB_mSL, z_mI_mSA, z_mL_mSA, z_mA_mSA, z_mB_mSA, z_mI_mSB, z_mL_mSB, z_mA_mSB, z_mB_mSB, if_true, if_false, and_false, false_and, and_true, true_and, and_self, decide_true, decide_false, reduceCtorEq, not_false_eq_true, not_true_eq_false, Nat.reduceEqDiff, Nat.reduceAdd, Nat.reduceMul, Nat.add_zero, Nat.zero_add]; exact X.K.vl i hi⟩
  have FM0 : FM u (pu u S.length op) := FM.of (pu_i _ _ _ 15 (by omega)) (pu_i _ _ _ 16 (by omega))
  have mi : ∀ k, ¬ (k = 11 ∨ (13 ≤ k ∧ k ≤ 16)) → k ≠ 70 → mI u' k = mI u k := fun k h1 h2 => (W1.I k h1).trans (pu_i _ _ _ k h2)
  rcases oo with ⟨r1, c, V1, F1, M1⟩ | ⟨r0, X1⟩
  · refine .inl ⟨r1, FM0.trans M1, X.rd R V1 F1 (K0.q Q1 W1) (Nat.le_refl _) (Nat.le_refl _) ((Q1.I _ _ (by omega)).trans X.sz) (by rw [Q1.N]; exact X.hp) ((mi 24 (by omega) (by omega)).trans X.m24) (by have := X.b1; omega) ?_ ?_ ?_ ((mi 12 (by omega) (by omega)).trans X.d1)⟩
    · rw [List.length_append]; have := X.b2; show _ + (_ + 1) ≤ _; omega
    · rw [W1.I 70 (by omega), List.length_append]
      unfold pu; simp only [z_mI_mSI, z_mL_mSI, z_mA_mSI, z_mB_mSI, z_mI_mSL, z_mL_mSL, z_mA_mSL, z_mB_mSL, z_mI_mSA, z_mL_mSA, z_mA_mSA, z_mB_mSA, z_mI_mSB, z_mL_mSB, z_mA_mSB, z_mB_mSB, if_true, if_false, and_false, false_and, and_true, true_and, and_self, decide_true, decide_false, reduceCtorEq, not_false_eq_true, not_true_eq_false, Nat.reduceEqDiff, Nat.reduceAdd, Nat.reduceMul, Nat.add_zero, Nat.zero_add]; rfl
    · intro i hi
      rw [List.length_append] at hi
      have hi' : i < S.length + 1 := hi
      rw [W1.A]
      unfold pu
      simp only [z_mI_mSI, z_mL_mSI, z_mA_mSI, z_mB_mSI, z_mI_mSL, z_mL_mSL, z_mA_mSL, z_mB_mSL, z_mI_mSA, z_mL_mSA, z_mA_mSA, z_mB_mSA, z_mI_mSB, z_mL_mSB, z_mA_mSB, z_mB_mSB, if_true, if_false, and_false, false_and, and_true, true_and, and_self, decide_true, decide_false, reduceCtorEq, not_false_eq_true, not_true_eq_false, Nat.reduceEqDiff, Nat.reduceAdd, Nat.reduceMul, Nat.add_zero, Nat.zero_add]
      by_cases c1 : i = S.length
      · rw [if_pos c1, c1, gdr_ _ _ _ _ (Nat.le_refl _), Nat.sub_self]; rfl
      · rw [if_neg c1, gdl_ _ _ _ _ (by omega)]; exact X.s2 i (by omega)
  · exact .inr ⟨r0, X1⟩
/-- a wait's strength, and its step -/
def stg (op : Nat) : Nat := if op = 9 then 0 else if op = 13 then 2 else 1
def opT (op : Nat) : Nat := if op = 11 then 4 else if op = 12 then 5 else if op = 13 then 6 else 3
theorem strength_v (op : Nat) (h : op < 100) : fX12_strength (nI op) = some (nI (stg op)) := by
  have e9 : nI op = 9 ↔ op = 9 := nI_eq (b := 9) (by omega) (by omega)
  have e13 : nI op = 13 ↔ op = 13 := nI_eq (b := 13) (by omega) (by omega)
  unfold fX12_strength fX12_strength_0 stg
  by_cases c1 : op = 9
  · rw [if_pos (e9.mpr c1), if_pos c1]; rfl
  · rw [if_neg (fun x => c1 (e9.mp x)), if_neg c1]
    by_cases c2 : op = 13
    · rw [if_pos (e13.mpr c2), if_pos c2]; rfl
    · rw [if_neg (fun x => c2 (e13.mp x)), if_neg c2]; rfl
theorem top_v (X : FX h u G z w v L n D t p pc rc' q d (S ++ [op])) (hS : S.length < 40) : mI u 70 = nI (S.length + 1) ∧ mI u 70 - 1 = nI S.length ∧ mA u 71 S.length = nI op := by
  have s1 := X.s1
  rw [List.length_append] at s1
  have s1' : mI u 70 = nI (S.length + 1) := s1
  refine ⟨s1', ?_, ?_⟩
  · rw [s1', show (1 : Int32) = nI 1 from rfl, nI_sub (by omega)]; rfl
  · have := X.s2 S.length (by rw [List.length_append]; show _ < _ + 1; omega)
    rw [gdr_ _ _ _ _ (Nat.le_refl _), Nat.sub_self] at this
    exact this
theorem settle_p (X : FX h u G z w v L n D t p pc rc' q d (S ++ [op])) (hS : S.length < 40) (ho : op = 4 ∨ op = 11 ∨ op = 12 ∨ op = 13) {x : Nat} (hx : x < 100) (hs : x ≤ stg op) : ∃ u', (∀ f, fX12_settles_0 (f + 1) u (nI x) = fX12_settles_0 f u' (nI x)) ∧ RD h u h u' G G w 23 pc rc' ∧ mI u' 15 = mI u 15 ∧ FM u u' ∧ FX h u' G z w v L n D t p pc (rc' + 1) q d S ∧ Cr u' rc' [(opT op, 0, 0)] := by
  obtain ⟨a1, a2, a3⟩ := top_v X hS
  have b2 := X.b2
  rw [List.length_append] at b2
  have b2' : rc' + (S.length + 1) ≤ z.rc + t := b2
  have e70 : ∀ k, k ≠ 70 → mI (mSI u 70 (nI S.length)) k = mI u k := fun k hk => by simp only [z_mI_mSI, z_mL_mSI, z_mA_mSI, z_mB_mSI, z_mI_mSL, z_mL_mSL, z_mA_mSL, z_mB_mSL, z_mI_mSA, z_mL_mSA, z_mA_mSA, z_mB_mSA, z_mI_mSB, z_mL_mSB, z_mA_mSB, z_mB_mSB]; rw [if_neg hk]
  have R0 : RD h u h (mSI u 70 (nI S.length)) G G w 23 pc rc' := RD.mm X.i.sx (fun zz h1 h2 => (MD.refl u zz).sI (by omega)) (fun k hk => e70 k (by omega)) (fun _ _ _ _ _ _ => rfl) (fun _ _ _ _ _ => rfl) rfl
  have X0 : FX h (mSI u 70 (nI S.length)) G z w v L n D t p pc rc' q d S := X.rd R0 (X.V.fr (fun _ _ => rfl) rfl (e70 11 (by omega)) (e70 13 (by omega))) (X.F.fr rfl rfl (e70 15 (by omega)) (e70 16 (by omega))) ⟨X.K.v3, X.K.w3, X.K.vc, (e70 65 (by omega)).trans X.K.m65, X.K.m42, X.K.vl⟩ (Nat.le_refl _) (Nat.le_refl _) X.sz X.hp ((e70 24 (by omega)).trans X.m24) X.b1 (by omega) (by simp only [z_mI_mSI, z_mL_mSI, z_mA_mSI, z_mB_mSI, z_mI_mSL, z_mL_mSL, z_mA_mSL, z_mB_mSL, z_mI_mSA, z_mL_mSA, z_mA_mSA, z_mB_mSA, z_mI_mSB, z_mL_mSB, z_mA_mSB, z_mB_mSB, if_true, if_false, and_false, false_and, and_true, true_and, and_self, decide_true, decide_false, reduceCtorEq, not_false_eq_true, not_true_eq_false, Nat.reduceEqDiff, Nat.reduceAdd, Nat.reduceMul, Nat.add_zero, Nat.zero_add]) (fun i hi => by
    have := X.s2 i (by rw [List.length_append]; omega)
    rw [gdl_ _ _ _ _ hi] at this
    exact this) ((e70 12 (by omega)).trans X.d1)
  obtain ⟨em, X1⟩ := X0.emR (by omega) (nI (opT op - 1)) 0 1
  have ee : ∀ k, k ≠ 24 → k ≠ 70 → mI (mSI (mSA (mSA (mSA (mSI u 70 (nI S.length)) 60 rc' (nI (opT op - 1))) 61 rc' 0) 62 rc' 1) 24 (nI (rc' + 1))) k = mI u k := fun k h1 h2 => by simp only [z_mI_mSI, z_mL_mSI, z_mA_mSI, z_mB_mSI, z_mI_mSL, z_mL_mSL, z_mA_mSL, z_mB_mSL, z_mI_mSA, z_mL_mSA, z_mA_mSA, z_mB_mSA, z_mI_mSB, z_mL_mSB, z_mA_mSB, z_mB_mSB]; rw [if_neg h1, if_neg h2]
  refine ⟨_, fun f => ?_, R0.trans (RD.em X.i.sx w 23 pc (nI (opT op - 1)) 0 1) (Nat.le_refl _) (Nat.le_refl _), ee 15 (by omega) (by omega), FM.of (ee 15 (by omega) (by omega)) (ee 16 (by omega) (by omega)), X1, ?_⟩
  · show fX12_settles_0F (fX12_settles_0 f) u (nI x) = _
    have st : stg op < 3 := by unfold stg; (repeat' split) <;> omega
    have i70 : mI (mSI u 70 (nI S.length)) 70 = nI S.length := by simp only [z_mI_mSI, z_mL_mSI, z_mA_mSI, z_mB_mSI, z_mI_mSL, z_mL_mSL, z_mA_mSL, z_mB_mSL, z_mI_mSA, z_mL_mSA, z_mA_mSA, z_mB_mSA, z_mI_mSB, z_mL_mSB, z_mA_mSB, z_mB_mSB, if_true, if_false, and_false, false_and, and_true, true_and, and_self, decide_true, decide_false, reduceCtorEq, not_false_eq_true, not_true_eq_false, Nat.reduceEqDiff, Nat.reduceAdd, Nat.reduceMul, Nat.add_zero, Nat.zero_add]
    have a3' : mA (mSI u 70 (nI S.length)) 71 S.length = nI op := a3
    unfold fX12_settles_0F
    rw [a2, a1, if_neg (show ¬ nI (S.length + 1) ≤ 0 from nI_ge (a := 0) (by omega) (by omega)), oC_t (ix_n (show S.length < mlen 71 from hS) (by decide)), nI_clamp (show S.length < 2147483648 by omega), a3, strength_v op (by omega), oB_v, if_neg (nI_nlt hs (by omega)), oL_v, i70, oC_t (ix_n (show S.length < mlen 71 from hS) (by decide)), nI_clamp (show S.length < 2147483648 by omega), a3', oL_v]
    unfold fX12_settles_77
    rcases ho with q | q | q | q <;> subst q
    · rw [if_neg (by decide), if_neg (by decide), if_neg (by decide)]
      have : fX12_emit (mSI u 70 (nI S.length)) 2 0 1 = _ := em
      rw [this, oB_v]
    · rw [if_pos (by decide)]
      have : fX12_emit (mSI u 70 (nI S.length)) 3 0 1 = _ := em
      rw [this, oB_v]
    · rw [if_neg (by decide), if_pos (by decide)]
      have : fX12_emit (mSI u 70 (nI S.length)) 4 0 1 = _ := em
      rw [this, oB_v]
    · rw [if_neg (by decide), if_neg (by decide), if_pos (by decide)]
      have : fX12_emit (mSI u 70 (nI S.length)) 5 0 1 = _ := em
      rw [this, oB_v]
  · have o3 : 3 ≤ opT op := by unfold opT; (repeat' split) <;> omega
    have er : rt (opT op, 0, 0) = (opT op - 1, 0, 1) := by
      unfold rt
      rw [if_neg (show ¬ opT op = 0 by omega), if_neg (show ¬ opT op = 1 by omega), if_neg (show ¬ opT op = 2 by omega)]
    refine Cr.one ?_ ?_ ?_ <;> rw [er] <;> simp only [z_mI_mSI, z_mL_mSI, z_mA_mSI, z_mB_mSI, z_mI_mSL, z_mL_mSL, z_mA_mSL, z_mB_mSL, z_mI_mSA, z_mL_mSA, z_mA_mSA, z_mB_mSA, z_mI_mSB, z_mL_mSB, z_mA_mSB, z_mB_mSB, if_true, if_false, and_false, false_and, and_true, true_and, and_self, decide_true, decide_false, reduceCtorEq, not_false_eq_true, not_true_eq_false, Nat.reduceEqDiff, Nat.reduceAdd, Nat.reduceMul, Nat.add_zero, Nat.zero_add] <;> rfl
theorem settle_0 (X : FX h u G z w v L n D t p pc rc' q d []) (f : Nat) (x : Int32) : fX12_settles_0 (f + 1) u x = some u := by
  show fX12_settles_0F (fX12_settles_0 f) u x = _
  unfold fX12_settles_0F
  have := X.s1
  rw [this, if_pos (by decide)]
theorem settle_n (X : FX h u G z w v L n D t p pc rc' q d (S ++ [op])) (hS : S.length < 40) (ho : op < 100) (f : Nat) {x : Nat} (hx : x < 100) (hs : stg op < x) : fX12_settles_0 (f + 1) u (nI x) = some u := by
  obtain ⟨a1, a2, a3⟩ := top_v X hS
  show fX12_settles_0F (fX12_settles_0 f) u (nI x) = _
  unfold fX12_settles_0F
  rw [a2, a1, if_neg (show ¬ nI (S.length + 1) ≤ 0 from nI_ge (a := 0) (by omega) (by omega)), oC_t (ix_n (show S.length < mlen 71 from hS) (by decide)), nI_clamp (show S.length < 2147483648 by omega), a3, strength_v op ho, oB_v, if_pos (nI_lt hs (by omega))]
end WT
