theorem RC.q {h h1 h2 : PH} {G G2 : Gh} {i j : Nat} (e : hN h1 = hN h) (Y : RC h1 h2 G G2 i j) : RC h h2 G G2 i j := by
  have a := Y.c1
  have b := Y.c2
  rw [pot_n G e] at a b
  exact ⟨a, b⟩
theorem okD_push {x : Tok} {k : Nat} (h : x.1 ≤ 2) (hk : k < 20) : okD [x] k (k + 1) := by
  refine ⟨by rw [if_pos h]; exact hk, ?_⟩
  show dpt x k = k + 1
  unfold dpt
  rw [if_pos h]
theorem okD_op {op k : Nat} (h : 4 ≤ op) (hk : 2 ≤ k) : okD [(op, 0, 0)] k (k - 1) := by
  refine ⟨by rw [if_neg (show ¬ op ≤ 2 by omega), if_neg (show ¬ op = 3 by omega)]; exact hk, ?_⟩
  show dpt (op, 0, 0) k = k - 1
  unfold dpt
  rw [if_neg (show ¬ op ≤ 2 by omega), if_neg (show ¬ op = 3 by omega)]
theorem okD_neg {k : Nat} (hk : 1 ≤ k) : okD [(3, 0, 0)] k k := ⟨hk, rfl⟩
section U7
variable {h h' : PH} {u u' : MS} {G G' : Gh} {z : Sz} {w v L n t p pc rc' q d f k : Nat} {D : Nat → Nat × Nat × Nat × List Nat} {S : List Nat}
/-- the number below a fraction's line -/
theorem int0_v (I : PI h u G z L n D) (V : Liv h u D n t) (F : FL h u) : ∃ h' u' r, fX4_integer h 23 1 999999 = some (h', r) ∧ Q h h' ∧ W' u u' ∧ ((∃ vv x, fX12_must u 3 = some x ∧ mI x 13 = 0 ∧ W' u x ∧ mA u 7 t = nI vv ∧ vv ≤ 999999 ∧ t < 1200 ∧ Liv h' u' D n (t + 1) ∧ FL h' u' ∧ FM u u' ∧ ((1 ≤ vv ∧ r = nI vv ∧ u' = x) ∨ (vv = 0 ∧ r = 1 ∧ FP u' (D t).1 ∧ fX12_wrong x 5 (nI t) = some u'))) ∨ (Ded h' u' ∧ r = 1 ∧ fX12_must u 3 = some u')) := by
  have n2 := I.ts.n2
  have lt := V.lt
  obtain ⟨h', u', Q1, W1, o⟩ := int_v I V F (lo := 1) (hi := 999999) (by omega) (by omega)
  rcases o with ⟨vv, c1, c2, v9, m7, ev, V', F', M', o1, o2⟩ | ⟨X, e1, e2⟩
  · by_cases cr : 1 ≤ vv
    · have e1 : fX4_integer h 23 1 999999 = some (h', nI vv) := by
        rcases o1 with ⟨_, _, q⟩ | ⟨q, _⟩
        · exact q
        · omega
      have e2 : fX12_must u 3 = some u' := by
        rcases o2 with ⟨_, _, q⟩ | ⟨q, _⟩
        · exact q
        · omega
      exact ⟨h', u', _, e1, Q1, W1, .inl ⟨vv, u', e2, V'.f0, W1, m7, v9, c2, V', F', M', .inl ⟨cr, rfl, rfl⟩⟩⟩
    · have e1 : FP u' (D t).1 ∧ fX4_integer h 23 1 999999 = some (h', nI 1) := by
        rcases o1 with ⟨q, _, _⟩ | ⟨_, q⟩
        · omega
        · exact q
      have e2 : oB (fX12_must u 3) (fun w => fX12_wrong w 5 (nI t)) = some u' := by
        rcases o2 with ⟨q, _, _⟩ | ⟨_, q⟩
        · omega
        · exact q
      obtain ⟨x, w1, w2⟩ := oB_inv e2
      have m0 : fX12_must u (nI 3) = some x := w1
      obtain ⟨_, uw, _, _, e4, _, Ww, ow⟩ := want_v I V F (k := 3) (by omega) (by omega) (by omega)
      have ew : uw = x := by rw [m0] at e4; exact (Option.some.inj e4).symm
      subst ew
      have f0 : mI uw 13 = 0 := by
        rcases ow with ⟨_, _, _, Vw, _⟩ | ⟨_, Xw⟩
        · exact Vw.f0
        · exfalso
          have : fX12_wrong uw 5 (nI t) = some uw := by
            unfold fX12_wrong fX12_wrong_0
            rw [oC_t (ix_n (show t < mlen 6 by show t < 1203; omega) (by decide)), oL_v, if_pos Xw.f.2.2]
          rw [this] at w2
          have : uw = u' := Option.some.inj w2
          rw [this] at Xw
          exact Xw.f.1 V'.f0
      exact ⟨h', u', _, e1.2, Q1, W1, .inl ⟨vv, uw, w1, f0, Ww, m7, v9, c2, V', F', M', .inr ⟨by omega, rfl, e1.1, w2⟩⟩⟩
  · exact ⟨h', u', _, e1, Q1, W1, .inr ⟨X, rfl, e2⟩⟩
theorem is_y (I : PI h u G z L n D) (V : Liv h u D n t) {kw : Nat} (hk : kw < 38) (e : (D t).2.1 = kw) : fX12_is u (nI kw) = some 1 := by
  rw [is_v I V hk, if_pos e]
theorem is_n (I : PI h u G z L n D) (V : Liv h u D n t) {kw : Nat} (hk : kw < 38) (e : (D t).2.1 ≠ kw) : fX12_is u (nI kw) = some 0 := by
  rw [is_v I V hk, if_neg e]
theorem kd_y (V : Liv h u D n t) {kw : Nat} (e : (D t).2.1 = kw) : hI h 521 23 = cK kw := by rw [V.kd, e]
theorem kd_n (I : PI h u G z L n D) (V : Liv h u D n t) {kw : Nat} (hk : kw < 38) (e : (D t).2.1 ≠ kw) : ¬ hI h 521 23 = cK kw := by
  rw [V.kd]
  exact fun q => e ((cK_inj (I.ts.tk t V.lt).2.2.2.2.2.2.2.1 hk).mp q)
theorem em_i (u : MS) (r : Nat) (a b c : Int32) {j : Nat} (hj : j ≠ 24) : mI (mSI (mSA (mSA (mSA u 60 r a) 61 r b) 62 r c) 24 (nI (r + 1))) j = mI u j := by
  simp only [z_mI_mSI, z_mL_mSI, z_mA_mSI, z_mB_mSI, z_mI_mSL, z_mL_mSL, z_mA_mSL, z_mB_mSL, z_mI_mSA, z_mL_mSA, z_mA_mSA, z_mB_mSA, z_mI_mSB, z_mL_mSB, z_mA_mSB, z_mB_mSB]
  rw [if_neg hj]
theorem em_c (u : MS) (r : Nat) (a b c : Int32) : mA (mSI (mSA (mSA (mSA u 60 r a) 61 r b) 62 r c) 24 (nI (r + 1))) 60 r = a ∧ mA (mSI (mSA (mSA (mSA u 60 r a) 61 r b) 62 r c) 24 (nI (r + 1))) 61 r = b ∧ mA (mSI (mSA (mSA (mSA u 60 r a) 61 r b) 62 r c) 24 (nI (r + 1))) 62 r = c := by
  refine ⟨?_, ?_, ?_⟩ <;> simp only [z_mI_mSI, z_mL_mSI, z_mA_mSI, z_mB_mSI, z_mI_mSL, z_mL_mSL, z_mA_mSL, z_mB_mSL, z_mI_mSA, z_mL_mSA, z_mA_mSA, z_mB_mSA, z_mI_mSB, z_mL_mSB, z_mA_mSB, z_mB_mSB, if_true, if_false, and_false, false_and, and_true, true_and, and_self, decide_true, decide_false, reduceCtorEq, not_false_eq_true, not_true_eq_false, Nat.reduceEqDiff, Nat.reduceAdd, Nat.reduceMul, Nat.add_zero, Nat.zero_add]
/-- a number, or a fraction -/
theorem unit_int (X : FX h u G z w v L n D t p pc rc' S.length d S) (e3 : (D t).2.1 = 3) (hf : 5000 ≤ f + t) (hd : d ≤ 8) (hk : k ≤ 18) (kF : PH → Nat → Int32 → Option (PH × Nat × Nat)) : GO h u G z w v L n D t p pc rc' d S k (k + 1) (1203 + 3 * (8 - d)) [] (TgB d t) (fX4_unit kF h 23 (nI d)) (fX12_expression_43 (fX12_expression_14 f) u 1) := by
  have S0 := X.i.sx
  have b := X.bp
  have b1 := X.b1
  have b2 := X.b2
  have x262 : hI h 521 23 = 262 := kd_y X.V e3
  have is9 : fX12_is u 9 = some 0 := is_n X.i X.V (kw := 9) (by omega) (by omega)
  have is3 : fX12_is u 3 = some 1 := is_y X.i X.V (kw := 3) (by omega) e3
  have i7 : ∀ i, i < 1203 → ix (nI i) (mlen 7) = true := fun i hi => ix_n (show i < mlen 7 from hi) (by decide)
  have hM : fX12_unit u = oB (fX12_next u) (fun h21 => oB (fX12_is h21 14) (fun r23 => if r23 = 0 then fX12_unit_72 h21 (mA u 7 t) 1 else oB (fX12_next h21) (fun h26 => oL (mI h26 11) (fun y27 => oB (fX12_must h26 3) (fun h29 => if mI h29 13 ≤ 0 then oC (ix y27 (mlen 7)) (oL (mA h29 7 (Int32.toNatClampNeg y27)) (fun y32 => if y32 = 0 then oB (fX12_wrong h29 5 y27) (fun h35 => fX12_unit_72 h35 (mA u 7 t) y32) else fX12_unit_72 h29 (mA u 7 t) y32)) else some h29))))) := by
    unfold fX12_unit fX12_unit_0
    rw [is3, oB_v, if_neg (by decide), X.V.t0, oC_t (i7 t (by omega)), oL_v, nI_clamp (show t < 2147483648 by omega)]
  obtain ⟨h1, u1, Q1, W1, o1⟩ := int_v X.i X.V X.F (lo := 0) (hi := 999999) (by omega) (by omega)
  have I1 := X.i.q Q1 W1
  have S1 := I1.sx
  have R1 : RD h u h1 u1 G G w 23 pc rc' := RD.q S0 Q1 W1 23 pc rc'
  have c47 : cK 14 = 47 := rfl
  rcases o1 with ⟨vv, _, c2, v9, m7, ev, V1, F1, M1, oC1, oM1⟩ | ⟨Xd, e1, e2⟩
  · have e1 : fX4_integer h 23 0 999999 = some (h1, nI vv) := by
      rcases oC1 with ⟨_, _, q⟩ | ⟨q, _⟩
      · exact q
      · omega
    have e2 : fX12_must u (nI 3) = some u1 := by
      rcases oM1 with ⟨_, _, q⟩ | ⟨q, _⟩
      · exact q
      · omega
    have nx := next_of_must X.i X.V (kw := 3) (by omega) e3 e2
    have X1 : FX h1 u1 G z w v L n D (t + 1) p pc rc' (S.length + 1) d S := X.mv Q1 W1 V1 F1 (by omega) (by omega)
    obtain ⟨h2, G2, i2, j2, ea, C2, R2, va, X2⟩ := X1.addC 0 (nI vv)
    have S2 := X2.i.sx
    have R12 : RD h u h2 u1 G G2 w 23 pc rc' := R1.trans R2 (Nat.le_refl _) (Nat.le_refl _)
    have C12 : RC h h2 G G2 i2 j2 := RC.q Q1.N C2
    have va' : hA h2 G2.pg pc = nI vv := va.trans ((step_n (op := 0) (x := vv) (by omega) (by omega)).trans (by congr 1; omega))
    rcases may_v X2.i X2.V X2.F (k := 14) (by omega) (by omega) (by omega) with ⟨c14, es, is14⟩ | ⟨c14, is14, h3, u3, r3, es, nx3, Q3, W3, o3⟩
    · rw [c47] at es
      have is14' : fX12_is u1 14 = some 0 := is14
      obtain ⟨em, X3⟩ := X2.emR (by omega) 0 (nI vv) 1
      have hU : fX12_unit u = some (mSI (mSA (mSA (mSA u1 60 rc' 0) 61 rc' (nI vv)) 62 rc' 1) 24 (nI (rc' + 1))) := by
        rw [hM, nx, oB_v, is14', oB_v, if_pos rfl, m7]
        unfold fX12_unit_72
        rw [em, oB_v]
      refine ⟨h2, G2, i2 + 0, j2 + 0, _, ?_, C12, R12.trans (RD.em S2 w 23 (pc + 1) 0 (nI vv) 1) (by omega) (Nat.le_refl _), .inl ⟨t + 1, v, pc + 1, rc' + 1, u43_y is9 hU (by omega) (by omega) hd, by omega, Nat.le_refl _, by omega, by omega, X3, M1.trans (FM.of (em_i _ _ _ _ _ (by omega)) (em_i _ _ _ _ _ (by omega))), fun _ => ⟨[(0, vv, 0)], ?_, okD_push (by show 0 ≤ 2; omega) (by omega), rfl, rfl, Cc.one rfl va', ?_⟩⟩⟩
      · unfold fX4_unit fX4_unit_0
        rw [oC_d S0.t23, if_pos x262, e1, oB2_v, S0.r512_23, oN_v, oC_d S1.t5, ea, oB3_v, oC_d S2.t23, es, oB2_v, if_pos rfl, oK3_v]
      · intro x hx
        rw [List.mem_singleton.mp hx]
        exact ⟨by show 0 ≤ 6; omega, fun _ => v9, fun q => absurd q (by show ¬ 0 = 1; omega), fun q => absurd q (by show ¬ 0 = 2; omega)⟩
      · obtain ⟨q1, q2, q3⟩ := em_c u1 rc' 0 (nI vv) 1
        exact Cr.one q1 q2 q3
    · rw [c47] at es
      have is14' : fX12_is u1 14 = some 1 := is14
      have R3 : RD h2 u1 h3 u3 G2 G2 w 23 (pc + 1) rc' := RD.q S2 Q3 W3 23 (pc + 1) rc'
      have S3 := R3.sx
      have R13 : RD h u h3 u3 G G2 w 23 pc rc' := R12.trans R3 (by omega) (Nat.le_refl _)
      have C13 : RC h h3 G G2 i2 j2 := C12.trans (RC.n (G := G2) Q3.N)
      rcases o3 with ⟨r31, c3, V3, F3, M3⟩ | ⟨r30, Xd⟩
      · subst r31
        have X3 : FX h3 u3 G2 z w v L n D (t + 1 + 1) p (pc + 1) rc' (S.length + 1) d S := X2.mv Q3 W3 V3 F3 (by omega) (by omega)
        obtain ⟨h4, u4, r4, e4, Q4, W4, o4⟩ := int0_v X3.i X3.V X3.F
        have R4 : RD h3 u3 h4 u4 G2 G2 w 23 (pc + 1) rc' := RD.q S3 Q4 W4 23 (pc + 1) rc'
        have S4 := R4.sx
        have hC : ∀ {hh : PH} {GG : Gh} {ii jj : Nat}, fX1_addStep h4 5 1 r4 = some (hh, ii, jj) → fX4_unit kF h 23 (nI d) = some (hh, i2 + (ii + 0), j2 + (jj + 0)) := fun {hh GG ii jj} ex => by
          unfold fX4_unit fX4_unit_0
          rw [oC_d S0.t23, if_pos x262, e1, oB2_v, S0.r512_23, oN_v, oC_d S1.t5, ea, oB3_v, oC_d S2.t23, es, oB2_v, if_neg (by decide), oC_d S3.t23, e4, oB2_v, S3.r512_23, oN_v, oC_d S4.t5, ex, oB3_v, oK3_v, oK3_v]
        rcases o4 with ⟨v2, x, mx, f0, Wx, m72, v29, c4, V4, F4, M4, o5⟩ | ⟨Xd, er, mx⟩
        · have X4 : FX h4 u4 G2 z w v L n D (t + 1 + 1 + 1) p (pc + 1) rc' (S.length + 1) d S := X3.mv Q4 W4 V4 F4 (by omega) (by omega)
          obtain ⟨h5, G5, i5, j5, ea5, C5, R5, va5, X5⟩ := X4.addC 1 r4
          have S5 := X5.i.sx
          obtain ⟨em, X6⟩ := X5.emR (by omega) 0 (nI vv) (nI v2)
          have hU : fX12_unit u = some (mSI (mSA (mSA (mSA u4 60 rc' 0) 61 rc' (nI vv)) 62 rc' (nI v2)) 24 (nI (rc' + 1))) := by
            have m72' : mA x 7 (t + 1 + 1) = nI v2 := by rw [Wx.A]; exact m72
            rw [hM, nx, oB_v, is14', oB_v, if_neg (by decide), nx3, oB_v, oL_v, V3.t0, mx, oB_v, f0, if_pos (by decide), oC_t (i7 _ (by omega)), nI_clamp (show t + 1 + 1 < 2147483648 by omega), m72', oL_v, m7]
            rcases o5 with ⟨q1, _, q3⟩ | ⟨q1, _, _, q4⟩
            · rw [if_neg (fun e => by have := (nI_eq (b := 0) (by omega) (by omega)).mp e; omega), ← q3]
              unfold fX12_unit_72
              rw [em, oB_v]
            · rw [q1, if_pos (show nI 0 = 0 from rfl), q4, oB_v]
              unfold fX12_unit_72
              rw [q1] at em
              rw [em, oB_v]
          refine ⟨h5, G5, i2 + (i5 + 0), j2 + (j5 + 0), _, hC (GG := G5) ea5, C13.trans (RC.q Q4.N C5), ((R13.trans R4 (by omega) (Nat.le_refl _)).trans R5 (by omega) (Nat.le_refl _)).trans (RD.em S5 w 23 (pc + 1 + 1) 0 (nI vv) (nI v2)) (by omega) (Nat.le_refl _), .inl ⟨t + 1 + 1 + 1, v, pc + 1 + 1, rc' + 1, u43_y is9 hU (by omega) (by omega) hd, by omega, Nat.le_refl _, by omega, by omega, X6, (M1.trans M3).trans (M4.trans (FM.of (em_i _ _ _ _ _ (by omega)) (em_i _ _ _ _ _ (by omega)))), fun e0 => ?_⟩⟩
          have e0' : mI u4 15 = 0 := (em_i _ _ _ _ _ (by omega)).symm.trans e0
          have o5' : 1 ≤ v2 ∧ r4 = nI v2 := by
            rcases o5 with ⟨q1, q2, _⟩ | ⟨_, _, q3, _⟩
            · exact ⟨q1, q2⟩
            · exact absurd e0' q3.1
          have va5' : hA h5 G5.pg (pc + 1) = nI (1048576 + v2) := by
            rw [va5, o5'.2]
            exact (step_n (op := 1) (x := v2) (by omega) (by omega)).trans (by congr 1)
          have vb : hA h5 G5.pg pc = nI vv := (R5.pg pc (by omega)).trans ((R4.pg pc (by omega)).trans ((R3.pg pc (by omega)).trans va'))
          refine ⟨[(1, vv, v2)], ?_, okD_push (by show 1 ≤ 2; omega) (by omega), rfl, rfl, ?_, ?_⟩
          · intro x hx
            rw [List.mem_singleton.mp hx]
            exact ⟨by show 1 ≤ 6; omega, fun q => absurd q (by show ¬ 1 = 0; omega), fun _ => ⟨v9, o5'.1, v29⟩, fun q => absurd q (by show ¬ 1 = 2; omega)⟩
          · intro i hi
            have hi' : i < 2 := hi
            have : i = 0 ∨ i = 1 := by omega
            rcases this with q | q <;> subst q
            · exact vb
            · exact va5'
          · obtain ⟨q1, q2, q3⟩ := em_c u4 rc' 0 (nI vv) (nI v2)
            exact Cr.one q1 q2 q3
        · obtain ⟨h5, G5, i5, j5, ea5, C5, R5, X5, z5, p5⟩ := addD (X3.i.q Q4 W4) Xd ((Q4.I _ _ (by omega)).trans X3.sz) (by rw [Q4.N]; exact X3.hp) (by omega) 1 r4 w rc'
          have hU : fX12_unit u = some u4 := by
            rw [hM, nx, oB_v, is14', oB_v, if_neg (by decide), nx3, oB_v, oL_v, mx, oB_v, if_neg Xd.f.2.1]
          refine ⟨h5, G5, i2 + (i5 + 0), j2 + (j5 + 0), u4, hC (GG := G5) ea5, C13.trans (RC.q Q4.N C5), (R13.trans R4 (by omega) (Nat.le_refl _)).trans R5 (by omega) (Nat.le_refl _), .inr ⟨u43_d is9 hU Xd (by omega), X5, pc + 1 + 1, z5, p5, by omega, by omega⟩⟩
      · subst r30
        have hU : fX12_unit u = some u3 := by
          rw [hM, nx, oB_v, is14', oB_v, if_neg (by decide), nx3, oB_v, oL_v, must_d Xd, oB_v, if_neg Xd.f.2.1]
        refine ⟨h3, G2, i2 + 0, j2 + 0, u3, ?_, C13, R13, .inr ⟨u43_d is9 hU Xd (by omega), Xd, pc + 1, (Q3.I _ _ (by omega)).trans X2.sz, by rw [Q3.N]; exact X2.hp, by omega, by omega⟩⟩
        unfold fX4_unit fX4_unit_0
        rw [oC_d S0.t23, if_pos x262, e1, oB2_v, S0.r512_23, oN_v, oC_d S1.t5, ea, oB3_v, oC_d S2.t23, es, oB2_v, if_pos rfl, oK3_v]
  · have e1' : fX4_integer h 23 0 999999 = some (h1, 0) := e1
    have nx := next_of_must X.i X.V (kw := 3) (by omega) e3 e2
    obtain ⟨h5, G5, i5, j5, ea5, C5, R5, X5, z5, p5⟩ := addD I1 Xd ((Q1.I _ _ (by omega)).trans X.sz) (by rw [Q1.N]; exact X.hp) (by omega) 0 0 w rc'
    have S5 := R5.sx
    have em := emit_v (u := u1) (rc := rc') ((W1.I 24 (by omega)).trans X.m24) (by omega) 0 (mA u 7 t) 1
    have hU : fX12_unit u = some (mSI (mSA (mSA (mSA u1 60 rc' 0) 61 rc' (mA u 7 t)) 62 rc' 1) 24 (nI (rc' + 1))) := by
      rw [hM, nx, oB_v, is_d Xd, oB_v, if_pos rfl]
      unfold fX12_unit_72
      rw [em, oB_v]
    have es := skip_d S5 X5 (k := 14) (by omega) (by omega)
    rw [c47] at es
    refine ⟨h5, G5, i5 + 0, j5 + 0, _, ?_, RC.q Q1.N C5, (R1.trans R5 (Nat.le_refl _) (Nat.le_refl _)).trans (RD.em S5 w 23 (pc + 1) 0 (mA u 7 t) 1) (by omega) (Nat.le_refl _), .inr ⟨u43_d is9 hU (Xd.em rc' 0 (mA u 7 t) 1) (by omega), X5.em rc' 0 (mA u 7 t) 1, pc + 1, z5, p5, by omega, by omega⟩⟩
    unfold fX4_unit fX4_unit_0
    rw [oC_d S0.t23, if_pos x262, e1', oB2_v, S0.r512_23, oN_v, oC_d S1.t5, ea5, oB3_v, oC_d S5.t23, es, oB2_v, if_pos rfl, oK3_v]
end U7
