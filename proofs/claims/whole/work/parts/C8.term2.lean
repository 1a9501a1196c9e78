section TN2
variable {h : PH} {u : MS} {G : Gh} {z : Sz} {L n t w v p : Nat} {D : Nat → Nat × Nat × Nat × List Nat}
/-- a person as a term, or what is none -/
theorem termN_v (I : PI h u G z L n D) (V : Liv h u D n t) (F : FL h u) (R : RO h u 6 7 25 p 5) (m18 : mI u 18 = nI p) (e : (D t).2.1 ≠ 2) : ∃ h' u' r r', fX4_term h 23 = some (h', r) ∧ fX12_term u = some (u', r') ∧ Q h h' ∧ W' u u' ∧ ((Liv h' u' D n (t + 1) ∧ FL h' u' ∧ FM u u' ∧ ((∃ j, j < p ∧ r = nI j ∧ r' = nI (10 + j)) ∨ (r = 0 ∧ r' = -1 ∧ FP u' (D t).1))) ∨ Ded h' u') := by
  have S := I.sx
  have lt := V.lt
  have n2 := I.ts.n2
  have le := R.le
  have t5 := (I.ts.tk t lt).2.2.2.2.1
  have tb := (I.ts.tk t lt).2.2.2.2.2.2.2.1
  have pb := I.ts.pl t lt
  have lL := I.lL
  have x261 : ¬ hI h 521 23 = 261 := by
    rw [V.kd]
    exact fun q => e ((cK_inj (b := 2) tb (by omega)).mp q)
  have is2 : fX12_is u 2 = some 0 := by
    have := is_v I V (k := 2) (by omega)
    rw [if_neg e] at this
    exact this
  obtain ⟨h1, u1, r, e1, e2, Q1, W1, oo⟩ := want_v I V F (k := 1) (by omega) (by omega) (by omega)
  have e1' : fX4_expect h 23 260 = some (h1, r) := e1
  have e2' : fX12_must u 1 = some u1 := e2
  have S1 : SX h1 G := Q1.sx S
  have fc := R.fc (vD (D t))
  have hC : fX4_term h 23 = if r = 0 then fX4_term_87 h1 (fd (fun j => decide (hB h 7 j = vD (D t))) p 0) else if fd (fun j => decide (hB h 7 j = vD (D t))) p 0 = -1 then oB (fX4_note h1 23 4 (nI (D t).1)) (fun h21 => fX4_term_87 h21 (fd (fun j => decide (hB h 7 j = vD (D t))) p 0)) else fX4_term_87 h1 (fd (fun j => decide (hB h 7 j = vD (D t))) p 0) := by
    unfold fX4_term fX4_term_0
    rw [oC_d S.t23, oL_v, if_neg x261, S.r512_23, oN_v, oC_d S.t5, S.r128_5, oN_v, oC_d S.t6, V.vl, fc, oB_v, e1', oB2_v, V.pl, oC_d S1.t23]
  have hM : fX12_term u = if mI u1 13 ≤ 0 then oB2 (fX12_known u1 25 (mI u1 18) (nI t)) (fun h10 r9 => if r9 = (-1) then (some (h10, (-1))) else (some (h10, (10 + r9)))) else some (u1, -1) := by
    unfold fX12_term fX12_term_0
    rw [is2, oB_v, if_pos rfl, oL_v, e2', oB_v, V.t0]
  rcases oo with ⟨r1, c, c2, V', F', M'⟩ | ⟨r0, X⟩
  · subst r1
    rw [if_neg (by decide)] at hC
    rw [V'.f0, if_pos (by decide), W1.I 18 (by omega), m18] at hM
    have N := I.ts.name lt c
    have R1 := R.q (Q.refl h) W1
    have fm1 : fX12_find u1 25 (nI p) (mB u1 8 t) = some (fd (fun j => decide (hB h 7 j = vD (D t))) p 0) := by
      have := R1.fm (mB u1 8 t)
      rw [W1.B] at this ⊢
      rw [this]
      exact congrArg some (find_e R.nm N).symm
    have i8 : ix (nI t) (mlen 8) = true := ix_n (show t < mlen 8 by show t < 1203; omega) (by decide)
    have bm : fX12_known u1 25 (nI p) (nI t) = if fd (fun j => decide (hB h 7 j = vD (D t))) p 0 = -1 then oB (fX12_wrong u1 4 (nI t)) (fun h6 => some (h6, fd (fun j => decide (hB h 7 j = vD (D t))) p 0)) else some (u1, fd (fun j => decide (hB h 7 j = vD (D t))) p 0) := by
      unfold fX12_known fX12_known_0
      rw [oC_t R.kk, oC_t i8, nI_clamp (show t < 2147483648 by omega), fm1, oB_v]
    rcases fd_r (fun j => decide (hB h 7 j = vD (D t))) p 0 with q | ⟨j, _, j2, q, _⟩
    · rw [q, if_pos rfl] at bm hC
      have pl1 : mA u1 6 t = nI (D t).1 := by rw [W1.A]; exact t5
      obtain ⟨h2, u2, n1, n3, F2, P2, M2, Q2, W2, a2, l2, b2, c3, d2⟩ := note_v S1 F' V'.f0 (i := t) (p := (D t).1) (by omega) (by omega) pl1 (f := 4) (by decide)
      refine ⟨h2, u2, 0, -1, ?_, ?_, Q1.trans Q2, W1.trans W2, .inl ⟨V'.fr a2 l2 b2 c3, F2, M'.trans M2, .inr ⟨rfl, rfl, P2⟩⟩⟩
      · rw [hC, n1, oB_v]
        unfold fX4_term_87
        rw [if_neg (by decide)]
      · rw [hM, bm, n3, oB_v, oB2_v, if_pos rfl]
    · have nj : ¬ nI j = -1 := nI_m1 (by omega)
      rw [q, if_neg nj] at bm hC
      refine ⟨h1, u1, nI j, nI (10 + j), ?_, ?_, Q1, W1, .inl ⟨V', F', M', .inl ⟨j, by omega, rfl, rfl⟩⟩⟩
      · rw [hC]
        unfold fX4_term_87
        have : (if 0 < nI j then nI j else 0) = nI j := by
          by_cases q : j = 0
          · rw [q]; rfl
          · rw [if_pos (show (0 : Int32) < nI j from nI_lt (a := 0) (by omega) (by omega))]
        rw [this]
      · rw [hM, bm, oB2_v, if_neg nj, show (10 : Int32) = nI 10 from rfl, nI_add]
  · subst r0
    rw [if_pos rfl] at hC
    rw [if_neg X.f.2.1] at hM
    exact ⟨h1, u1, _, -1, hC, hM, Q1, W1, .inr X⟩
/-- a term -/
theorem term_v (I : PI h u G z L n D) (V : Liv h u D n t) (F : FL h u) (K : VS h u w v) (hw : z.nr ≤ w) (R : RO h u 6 7 25 p 5) (m18 : mI u 18 = nI p) : ∃ h' u' r r', fX4_term h 23 = some (h', r) ∧ fX12_term u = some (u', r') ∧ TD h u h' u' G w ∧ ((∃ v', v ≤ v' ∧ Liv h' u' D n (t + 1) ∧ FL h' u' ∧ FM u u' ∧ VS h' u' w v' ∧ ((∃ tt, okTm v' p tt ∧ r = nI tt ∧ r' = nI (tmr tt)) ∨ (r = 0 ∧ r' = -1 ∧ FP u' (D t).1))) ∨ Ded h' u') := by
  have le := R.le
  by_cases e : (D t).2.1 = 2
  · obtain ⟨h', u', r, r', e1, e2, T, o⟩ := termV_v I V F K hw e
    refine ⟨h', u', r, r', e1, e2, T, ?_⟩
    rcases o with ⟨v', j, q1, q2, V', F', M', K', er, er'⟩ | X
    · have v3 := K'.v3
      refine .inl ⟨v', q1, V', F', M', K', .inl ⟨5 + j, .inr ⟨by omega, by omega, by omega⟩, er, ?_⟩⟩
      rw [er']
      unfold tmr
      rw [if_neg (by omega)]
      congr 1
      omega
    · exact .inr X
  · obtain ⟨h', u', r, r', e1, e2, Q1, W1, o⟩ := termN_v I V F R m18 e
    refine ⟨h', u', r, r', e1, e2, TD.of I.sx Q1 W1, ?_⟩
    rcases o with ⟨V', F', M', oo⟩ | X
    · refine .inl ⟨v, Nat.le_refl _, V', F', M', K.q Q1 W1, ?_⟩
      rcases oo with ⟨j, q1, er, er'⟩ | q
      · refine .inl ⟨j, .inl ⟨q1, by omega⟩, er, ?_⟩
        rw [er']
        unfold tmr
        rw [if_pos (by omega)]
      · exact .inr q
    · exact .inr X
theorem term_dc (S : SX h G) (X : Ded h u) (R : ∃ s, s ≤ 5 ∧ hI h 897 6 = nI s) : ∃ r, fX4_term h 23 = some (h, r) := by
  obtain ⟨s, hs, sz⟩ := R
  have e := expect_d S X (k := 1) (by omega) (by omega)
  have e' : fX4_expect h 23 260 = some (h, 0) := e
  have fc := find_c S.t6 sz S.r896_6 S.t7 (by rw [S.n7]; exact hs) (by rw [S.n7]; omega) (hL h 523 23)
  have k : ¬ hI h 521 23 = 261 := by rw [X.kd]; decide
  unfold fX4_term fX4_term_0
  rw [oC_d S.t23, oL_v, if_neg k, S.r512_23, oN_v, oC_d S.t5, S.r128_5, oN_v, oC_d S.t6, fc, oB_v, e', oB2_v, if_pos rfl]
  exact ⟨_, rfl⟩
theorem term_dm (X : Ded h u) : fX12_term u = some (u, -1) := by
  unfold fX12_term fX12_term_0
  rw [is_d X, oB_v, if_pos rfl, oL_v, must_d X, oB_v, if_neg X.f.2.1]
end TN2
