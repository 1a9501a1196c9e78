theorem oK3_0 (F : Option (PH × Nat × Nat)) : oK3 0 0 F = F := by
  cases F with
  | none => rfl
  | some x => obtain ⟨a, b, c⟩ := x; rw [oK3_v, Nat.zero_add, Nat.zero_add]
theorem oK3_3 (a b c d : Nat) (F : Option (PH × Nat × Nat)) : oK3 a b (oK3 c d F) = oK3 (a + c) (b + d) F := by
  cases F with
  | none => rfl
  | some x => obtain ⟨x, y, z⟩ := x; rw [oK3_v, oK3_v, oK3_v, Nat.add_assoc, Nat.add_assoc]
def oT (o : Nat) : Tok := (opT o, 0, 0)
/-- the wait of a formula (class x2, reference W): k1 operands ahead of the part, K ahead of the formula -/
def WK (x2 : Int32) (W : List Nat) (K k1 : Nat) : Prop := (x2 = -1 ∧ W = [] ∧ k1 = K) ∨ ∃ op, W = [op] ∧ x2 = nI (opT op) ∧ ((op = 4 ∧ k1 = K) ∨ ((op = 11 ∨ op = 12) ∧ k1 = K + 1))
/-- the product that the reference has not settled yet -/
def MKt (M : List Nat) : Prop := M = [] ∨ M = [13]
section SE
variable {h h' : PH} {u u' : MS} {G G' : Gh} {z : Sz} {w v L n t p pc rc' q d x : Nat} {D : Nat → Nat × Nat × Nat × List Nat} {S T W M : List Nat}
theorem settle_o (X : FX h u G z w v L n D t p pc rc' q d (S ++ T)) (hS : S.length < 40) (hx : x < 100) (hT : T = [] ∨ ∃ op, T = [op] ∧ (op = 4 ∨ op = 11 ∨ op = 12 ∨ op = 13) ∧ x ≤ stg op) : ∃ u', (∀ f, fX12_settles_0 (f + T.length) u (nI x) = fX12_settles_0 f u' (nI x)) ∧ RD h u h u' G G w 23 pc rc' ∧ FM u u' ∧ FX h u' G z w v L n D t p pc (rc' + T.length) q d S ∧ Cr u' rc' (T.map oT) := by
  rcases hT with e | ⟨op, e, ho, hs⟩
  · subst e
    rw [List.append_nil] at X
    exact ⟨u, fun f => rfl, RD.refl X.i.sx u w 23 pc rc', FM.refl u, X, Cr.nil u rc'⟩
  · subst e
    obtain ⟨u', e1, R, _, fm, X', c⟩ := settle_p X hS ho hx hs
    exact ⟨u', e1, R, fm, X', c⟩
theorem settle_s (X : FX h u G z w v L n D t p pc rc' q d S) (hS : S.length < 40) (hx : x < 100) (hT : S = [] ∨ ∃ S0 op, S = S0 ++ [op] ∧ op < 100 ∧ stg op < x) (f : Nat) : fX12_settles_0 (f + 1) u (nI x) = some u := by
  rcases hT with e | ⟨S0, op, e, ho, hs⟩
  · subst e
    exact settle_0 X f _
  · subst e
    rw [List.length_append] at hS
    exact settle_n X (by omega) ho f hx hs
theorem WK.e {x2 : Int32} {K k1 : Nat} (k : WK x2 W K k1) : W = [] ∨ ∃ op, W = [op] ∧ (op = 4 ∨ op = 11 ∨ op = 12 ∨ op = 13) ∧ 1 ≤ stg op ∧ stg op < 2 := by
  rcases k with ⟨_, e, _⟩ | ⟨op, e, _, o⟩
  · exact .inl e
  · refine .inr ⟨op, e, by omega, ?_⟩
    rcases o with ⟨q, _⟩ | ⟨q | q, _⟩ <;> subst q <;> decide
theorem WK.l {x2 : Int32} {K k1 : Nat} (k : WK x2 W K k1) : W.length ≤ 1 ∧ K ≤ k1 ∧ k1 ≤ K + 1 := by
  rcases k with ⟨_, e, q⟩ | ⟨op, e, _, o⟩
  · subst e; exact ⟨Nat.zero_le _, by omega, by omega⟩
  · subst e; exact ⟨Nat.le_refl _, by omega, by omega⟩
theorem MKt.l (k : MKt M) : M.length ≤ 1 := by
  rcases k with e | e <;> subst e
  · exact Nat.zero_le _
  · exact Nat.le_refl _
/-- all of this formula's waits settled -/
theorem settle_all {x2 : Int32} {K k1 : Nat} (X : FX h u G z w v L n D t p pc rc' q d (S ++ W ++ M)) (hS : S.length < 30) (wk : WK x2 W K k1) (mk : MKt M) (sb : SB S) : ∃ u', fX12_settles u 1 = some u' ∧ RD h u h u' G G w 23 pc rc' ∧ FM u u' ∧ FX h u' G z w v L n D t p pc (rc' + M.length + W.length) q d S ∧ Cr u' rc' (M.map oT ++ W.map oT) := by
  have wl := wk.l
  have ml := mk.l
  have l2 : (S ++ W).length < 40 := by rw [List.length_append]; omega
  obtain ⟨u1, e1, R1, fm1, X1, c1⟩ := settle_o (x := 1) X l2 (by omega) (by
    rcases mk with e | e
    · exact .inl e
    · exact .inr ⟨13, e, by omega, by decide⟩)
  obtain ⟨u2, e2, R2, fm2, X2, c2⟩ := settle_o (x := 1) X1 (by omega) (by omega) (by
    rcases wk.e with e | ⟨op, e, o, s1, s2⟩
    · exact .inl e
    · exact .inr ⟨op, e, o, s1⟩)
  refine ⟨u2, ?_, R1.trans R2 (Nat.le_refl _) (by omega), fm1.trans fm2, X2, ?_⟩
  · obtain ⟨f, hf⟩ : ∃ f, FU = f + 1 + W.length + M.length := ⟨FU - 1 - W.length - M.length, by rw [FU_v]; omega⟩
    unfold fX12_settles
    have e1' := e1 (f + 1 + W.length)
    have e2' := e2 (f + 1)
    have e3 := settle_s (x := 1) X2 (by omega) (by omega) (by
      rcases sb with e | ⟨S0, e⟩
      · exact .inl e
      · exact .inr ⟨S0, 9, e, by omega, by decide⟩) f
    rw [hf]
    exact e1'.trans (e2'.trans e3)
  · have ml2 : (rc (M.map oT)).length = M.length := by unfold rc; rw [List.length_map, List.length_map]
    exact (c1.rd R2 (by rw [ml2]; exact Nat.le_refl _)).app (by rw [ml2]; exact c2)
/-- the product alone settled -/
theorem settle_two {x2 : Int32} {K k1 : Nat} (X : FX h u G z w v L n D t p pc rc' q d (S ++ W ++ M)) (hS : S.length < 30) (wk : WK x2 W K k1) (mk : MKt M) (sb : SB S) : ∃ u', fX12_settles u 2 = some u' ∧ RD h u h u' G G w 23 pc rc' ∧ FM u u' ∧ FX h u' G z w v L n D t p pc (rc' + M.length) q d (S ++ W) ∧ Cr u' rc' (M.map oT) := by
  have wl := wk.l
  have ml := mk.l
  have l2 : (S ++ W).length < 40 := by rw [List.length_append]; omega
  obtain ⟨u1, e1, R1, fm1, X1, c1⟩ := settle_o (x := 2) X l2 (by omega) (by
    rcases mk with e | e
    · exact .inl e
    · exact .inr ⟨13, e, by omega, by decide⟩)
  refine ⟨u1, ?_, R1, fm1, X1, c1⟩
  obtain ⟨f, hf⟩ : ∃ f, FU = f + 1 + M.length := ⟨FU - 1 - M.length, by rw [FU_v]; omega⟩
  unfold fX12_settles
  have e1' := e1 (f + 1)
  have e3 := settle_s (x := 2) X1 l2 (by omega) (by
    rcases wk.e with e | ⟨op, e, o, s1, s2⟩
    · rw [e, List.append_nil]
      rcases sb with e | ⟨S0, e⟩
      · exact .inl e
      · exact .inr ⟨S0, 9, e, by omega, by decide⟩
    · exact .inr ⟨S, op, by rw [e], by omega, s2⟩) f
  rw [hf]
  exact e1'.trans e3
/-- the class's wait settled -/
theorem wait_c {x2 : Int32} {K k1 : Nat} (X : FX h u G z w v L n D t p pc rc' (S ++ W).length d S) (wk : WK x2 W K k1) : ∃ h2 G2 i2 j2 pc2, (∀ (kF : PH → Nat → Int32 → Option (PH × Nat × Nat)) (k20 : PH → Nat → Int32 → Int32 → Int32 → Int32 → Option (PH × Nat × Nat)) (x1 x4 : Int32), fX4_formula_78 kF k20 h 23 x1 x2 x4 = oK3 i2 j2 (fX4_formula_92 kF k20 h2 23 x1 x4)) ∧ RC h h2 G G2 i2 j2 ∧ RD h u h2 u G G2 w 23 pc rc' ∧ FX h2 u G2 z w v L n D t p pc2 rc' S.length d S ∧ pc2 = pc + (cc (W.map oT)).length ∧ Cc h2 G2 pc (W.map oT) ∧ okD (W.map oT) (k1 + 1) (K + 1) ∧ ∀ x, x ∈ W.map oT → okK v p x := by
  have S0 := X.i.sx
  rcases wk with ⟨ex, eW, ek⟩ | ⟨op, eW, ex, o⟩
  · subst eW
    rw [List.append_nil] at X
    refine ⟨h, G, 0, 0, pc, fun kF k20 x1 x4 => ?_, RC.refl h G, RD.refl S0 u w 23 pc rc', X, rfl, Cc.nil _ _ _, by rw [ek]; rfl, fun x hx => by cases hx⟩
    unfold fX4_formula_78
    rw [if_pos ex, oK3_0]
  · subst eW
    have o3 : 3 ≤ opT op ∧ opT op ≤ 6 := by unfold opT; (repeat' split) <;> omega
    have X1 : FX h u G z w v L n D t p pc rc' (S.length + 1) d S := by rw [List.length_append] at X; exact X
    obtain ⟨h2, G2, i2, j2, ea, C2, R2, va, X2⟩ := X1.addC x2 0
    have ct1 : ct (oT op) = [1048576 * opT op] := by
      show (if opT op = 0 then _ else if opT op = 1 then _ else if opT op = 2 then _ else _) = _
      rw [if_neg (by omega), if_neg (by omega), if_neg (by omega)]
      rfl
    have cc1 : cc ([op].map oT) = [1048576 * opT op] := by show List.flatMap ct [oT op] = _; simp [ct1]
    refine ⟨h2, G2, i2, j2, pc + 1, fun kF k20 x1 x4 => ?_, C2, R2, X2, by rw [cc1]; rfl, Cc.one ct1 ?_, ?_, ?_⟩
    · unfold fX4_formula_78
      rw [if_neg (by rw [ex]; exact nI_m1 (by omega)), oC_d S0.t23, S0.r512_23, oN_v, oC_d S0.t5, ea, oB3_v]
    · rw [va, ex]
      exact (step_n (op := opT op) (x := 0) (by omega) (by omega)).trans (by rw [Nat.add_zero])
    · rcases o with ⟨q, ek⟩ | ⟨q, ek⟩
      · subst q; rw [ek]; exact okD_neg (by omega)
      · have : 4 ≤ opT op := by rcases q with q | q <;> subst q <;> decide
        have := okD_op (op := opT op) (k := k1 + 1) this (by omega)
        rw [show k1 + 1 - 1 = K + 1 by omega] at this
        exact this
    · intro x hx
      rw [List.mem_singleton.mp hx]
      exact ⟨by show opT op ≤ 6; omega, fun q => absurd q (by show ¬ opT op = 0; omega), fun q => absurd q (by show ¬ opT op = 1; omega), fun q => absurd q (by show ¬ opT op = 2; omega)⟩
/-- a sign behind a part, by the class -/
theorem sign_c {h3 : PH} {r : Int32} (i : PI h u G z L n D) (V : Liv h u D n t) (F : FL h u) (S3 : SX h3 G) (Y : r = 0 → ∃ u3, Ded h3 u3) {op : Nat} (ho : op = 11 ∨ op = 12) (e : (D t).2.1 = op) (es : fX4_skip h 23 (cK op) = some (h3, r)) (hr : r = 0 ∨ r = 1) (kF : PH → Nat → Int32 → Option (PH × Nat × Nat)) (k20 : PH → Nat → Int32 → Int32 → Int32 → Int32 → Option (PH × Nat × Nat)) (x1 x4 : Int32) : fX4_formula_92 kF k20 h 23 x1 x4 = k20 h3 23 x1 (nI (opT op)) r (x4 + 1) := by
  have S0 := i.sx
  unfold fX4_formula_92
  rcases ho with q | q <;> subst q
  · have x43 : hI h 521 23 = 43 := kd_y V e
    have es' : fX4_skip h 23 43 = some (h3, r) := es
    rw [oC_d S0.t23, if_pos x43]
    unfold fX4_formula_106
    rw [oC_d S0.t23, es', oB2_v]
    rcases hr with q | q
    · obtain ⟨u3, X3⟩ := Y q
      have s45 := skip_d S3 X3 (k := 12) (by omega) (by omega)
      rw [show cK 12 = 45 from rfl] at s45
      rw [if_pos q, oC_d S3.t23, s45, oB2_v, if_pos rfl, q]
      rfl
    · rw [q, if_neg (by decide)]
      rfl
  · have x43 : ¬ hI h 521 23 = 43 := kd_n i V (kw := 11) (by omega) (by omega)
    have es' : fX4_skip h 23 45 = some (h3, r) := es
    have s43 : fX4_skip h 23 43 = some (h, 0) := by
      rcases may_v i V F (k := 11) (by omega) (by omega) (by omega) with ⟨_, e1, _⟩ | ⟨q, _⟩
      · exact e1
      · omega
    rw [oC_d S0.t23, if_neg x43]
    unfold fX4_formula_106
    rw [oC_d S0.t23, s43, oB2_v, if_pos rfl, oC_d S0.t23, es', oB2_v]
    rcases hr with q | q
    · rw [if_pos q, q]
      rfl
    · rw [q, if_neg (by decide)]
      rfl
/-- no sign behind a part -/
theorem sign_n (X : FX h u G z w v L n D t p pc rc' q d S) (n11 : (D t).2.1 ≠ 11) (n12 : (D t).2.1 ≠ 12) (kF : PH → Nat → Int32 → Option (PH × Nat × Nat)) (g : Nat) (x1 x4 : Int32) : fX4_formula_92 kF (fX4_formula_20 kF (g + 1)) h 23 x1 x4 = some (h, 0, 0) := by
  have S0 := X.i.sx
  have x43 : ¬ hI h 521 23 = 43 := kd_n X.i X.V (kw := 11) (by omega) n11
  have s43 : fX4_skip h 23 43 = some (h, 0) := by
    rcases may_v X.i X.V X.F (k := 11) (by omega) (by omega) (by omega) with ⟨_, e1, _⟩ | ⟨q, _⟩
    · exact e1
    · exact absurd q n11
  have s45 : fX4_skip h 23 45 = some (h, 0) := by
    rcases may_v X.i X.V X.F (k := 12) (by omega) (by omega) (by omega) with ⟨_, e1, _⟩ | ⟨q, _⟩
    · exact e1
    · exact absurd q n12
  unfold fX4_formula_92
  rw [oC_d S0.t23, if_neg x43]
  unfold fX4_formula_106
  rw [oC_d S0.t23, s43, oB2_v, if_pos rfl, oC_d S0.t23, s45, oB2_v, if_pos rfl]
  unfold fX4_formula_130
  rw [oL_v]
  show fX4_formula_20F kF (fX4_formula_20 kF g) h 23 x1 5 0 (x4 + 1) = _
  unfold fX4_formula_20F
  by_cases c : 1200 ≤ x4 + 1
  · rw [if_pos c]
  · rw [if_neg c, if_pos rfl]
end SE
