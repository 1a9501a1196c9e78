section U8
variable {h h' : PH} {u u' : MS} {G G' : Gh} {z : Sz} {w v L n t p pc rc' q d f k : Nat} {D : Nat → Nat × Nat × Nat × List Nat} {S : List Nat}
/-- a person's number -/
theorem unit_term (X : FX h u G z w v L n D t p pc rc' S.length d S) (n3 : (D t).2.1 ≠ 3) (n9 : (D t).2.1 ≠ 9) (hf : 5000 ≤ f + t) (hd : d ≤ 8) (hk : k ≤ 18) (kF : PH → Nat → Int32 → Option (PH × Nat × Nat)) : GO h u G z w v L n D t p pc rc' d S k (k + 1) (1203 + 3 * (8 - d)) [] (TgB d t) (fX4_unit kF h 23 (nI d)) (fX12_expression_43 (fX12_expression_14 f) u 1) := by
  have S0 := X.i.sx
  have b := X.bp
  have b1 := X.b1
  have b2 := X.b2
  have x262 : ¬ hI h 521 23 = 262 := kd_n X.i X.V (kw := 3) (by omega) n3
  have x40 : ¬ hI h 521 23 = 40 := kd_n X.i X.V (kw := 9) (by omega) n9
  have is9 : fX12_is u 9 = some 0 := is_n X.i X.V (kw := 9) (by omega) n9
  have is3 : fX12_is u 3 = some 0 := is_n X.i X.V (kw := 3) (by omega) n3
  have c46 : cK 8 = 46 := rfl
  obtain ⟨h1, u1, r, r', e1, e2, T1, o1⟩ := term_v X.i X.V X.F X.K X.hw X.rp X.m18
  have R1 : RD h u h1 u1 G G w 23 pc rc' := RD.ld S0 (LD.of T1) pc rc'
  have S1 := R1.sx
  have I1 := X.i.rd R1 X.hw X.zp X.zr
  rcases o1 with ⟨v', hv, V1, F1, M1, K1, oT⟩ | X1
  · have X1 : FX h1 u1 G z w v' L n D (t + 1) p pc rc' S.length d S := X.td T1 V1 F1 K1 (by omega) (by omega)
    obtain ⟨h2, u2, r2, e3, e4, Q2, W2, o2⟩ := want_v X1.i X1.V X1.F (k := 8) (by omega) (by omega) (by omega)
    rw [c46] at e3
    have e4' : fX12_must u1 8 = some u2 := e4
    have R2 : RD h1 u1 h2 u2 G G w 23 pc rc' := RD.q S1 Q2 W2 23 pc rc'
    have S2 := R2.sx
    have I2 := I1.rd R2 X.hw X.zp X.zr
    have R12 := R1.trans R2 (Nat.le_refl _) (Nat.le_refl _)
    rcases o2 with ⟨_, _, c2, V2, F2, M2⟩ | ⟨_, X2⟩
    · have X2 : FX h2 u2 G z w v' L n D (t + 1 + 1) p pc rc' (S.length + 1) d S := X1.mv Q2 W2 V2 F2 (by omega) (by omega)
      obtain ⟨h3, u3, r3, e5, e6, Q3, W3, o3⟩ := whole_v X2.i X2.V X2.F (hi := 3) (by omega)
      have e5' : fX4_integer h2 23 0 3 = some (h3, r3) := e5
      have e6' : fX12_whole u2 3 = some (u3, nI (t + 1 + 1)) := e6
      have R3 : RD h2 u2 h3 u3 G G w 23 pc rc' := RD.q S2 Q3 W3 23 pc rc'
      have S3 := R3.sx
      have I3 := I2.rd R3 X.hw X.zp X.zr
      have R13 := R12.trans R3 (Nat.le_refl _) (Nat.le_refl _)
      have n13 : hN h3 = hN h := Q3.N.trans (Q2.N.trans T1.N)
      have hC : ∀ {hh : PH} {ii jj : Nat}, fX1_addStep h3 5 2 (r * 4 + r3) = some (hh, ii, jj) → fX4_unit kF h 23 (nI d) = some (hh, ii + 0, jj + 0) := fun {hh ii jj} ex => by
        unfold fX4_unit fX4_unit_0
        rw [oC_d S0.t23, if_neg x262, if_neg x40, e1, oB2_v, oC_d S1.t23, e3, oB2_v, oC_d S2.t23, e5', oB2_v, S2.r512_23, oN_v, oC_d S3.t5, ex, oB3_v, oK3_v]
      rcases o3 with ⟨vv, v9, m7, c3, V3, F3, M3, orr⟩ | ⟨X3, er⟩
      · have X3 : FX h3 u3 G z w v' L n D (t + 1 + 1 + 1) p pc rc' (S.length + 1) d S := X2.mv Q3 W3 V3 F3 (by omega) (by omega)
        obtain ⟨h4, G4, i4, j4, ea, C4, R4, va, X4⟩ := X3.addC 2 (r * 4 + r3)
        have S4 := X4.i.sx
        obtain ⟨em, X5⟩ := X4.emR (by omega) 1 r' (nI vv)
        have m7' : mA u3 7 (t + 1 + 1) = nI vv := by rw [W3.A]; exact m7
        have hU : fX12_unit u = some (mSI (mSA (mSA (mSA u3 60 rc' 1) 61 rc' r') 62 rc' (nI vv)) 24 (nI (rc' + 1))) := by
          unfold fX12_unit fX12_unit_0
          rw [is3, oB_v, if_pos rfl, e2, oB2_v, e4', oB_v, e6', oB2_v, if_pos V3.f0, oC_t (ix_n (show t + 1 + 1 < mlen 7 by show t + 1 + 1 < 1203; omega) (by decide)), nI_clamp (show t + 1 + 1 < 2147483648 by omega), m7', em, oB_v]
        refine ⟨h4, G4, i4 + 0, j4 + 0, _, hC ea, RC.q n13 C4, (R13.trans R4 (Nat.le_refl _) (Nat.le_refl _)).trans (RD.em S4 w 23 (pc + 1) 1 r' (nI vv)) (by omega) (Nat.le_refl _), .inl ⟨t + 1 + 1 + 1, v', pc + 1, rc' + 1, u43_y is9 hU (by omega) (by omega) hd, by omega, hv, by omega, by omega, X5, (M1.trans M2).trans (M3.trans (FM.of (em_i _ _ _ _ _ (by omega)) (em_i _ _ _ _ _ (by omega)))), fun e0 => ?_⟩⟩
        have e0' : mI u3 15 = 0 := (em_i _ _ _ _ _ (by omega)).symm.trans e0
        obtain ⟨v3, er3⟩ : vv ≤ 3 ∧ r3 = nI vv := by
          rcases orr with q | ⟨_, _, q⟩
          · exact q
          · exact absurd e0' q.1
        obtain ⟨tt, ot, er, er'⟩ : ∃ tt, okTm v' p tt ∧ r = nI tt ∧ r' = nI (tmr tt) := by
          rcases oT with q | ⟨_, _, q⟩
          · exact q
          · exact absurd e0' (M3 _ (M2 _ q)).1
        have t8 : tt < 8 := by unfold okTm at ot; omega
        have va' : hA h4 G4.pg pc = nI (2097152 + (4 * tt + vv)) := by
          have e4t : nI tt * 4 + nI vv = nI (4 * tt + vv) := by
            rw [show (4 : Int32) = nI 4 from rfl, nI_mul, nI_add]
            congr 1; omega
          rw [va, er, er3, e4t]
          exact (step_n (op := 2) (x := 4 * tt + vv) (by omega) (by omega)).trans (by congr 1)
        refine ⟨[(2, tt, vv)], ?_, okD_push (by show 2 ≤ 2; omega) (by omega), rfl, rfl, Cc.one rfl va', ?_⟩
        · intro x hx
          rw [List.mem_singleton.mp hx]
          exact ⟨by show 2 ≤ 6; omega, fun q => absurd q (by show ¬ 2 = 0; omega), fun q => absurd q (by show ¬ 2 = 1; omega), fun _ => ⟨ot, by show vv < 4; omega⟩⟩
        · obtain ⟨q1, q2, q3⟩ := em_c u3 rc' 1 r' (nI vv)
          exact Cr.one q1 (q2.trans er') q3
      · obtain ⟨h5, G5, i5, j5, ea5, C5, R5, X5, z5, p5⟩ := addD I3 X3 ((Q3.I _ _ (by omega)).trans X2.sz) (by rw [Q3.N]; exact X2.hp) (by omega) 2 (r * 4 + r3) w rc'
        have hU : fX12_unit u = some u3 := by
          unfold fX12_unit fX12_unit_0
          rw [is3, oB_v, if_pos rfl, e2, oB2_v, e4', oB_v, e6', oB2_v, if_neg X3.f.1]
        exact ⟨h5, G5, i5 + 0, j5 + 0, u3, hC ea5, RC.q n13 C5, R13.trans R5 (Nat.le_refl _) (Nat.le_refl _), .inr ⟨u43_d is9 hU X3 (by omega), X5, pc + 1, z5, p5, by omega, by omega⟩⟩
    · obtain ⟨h5, G5, i5, j5, ea5, C5, R5, X5, z5, p5⟩ := addD I2 X2 ((Q2.I _ _ (by omega)).trans X1.sz) (by rw [Q2.N]; exact X1.hp) (by omega) 2 (r * 4 + 0) w rc'
      have hU : fX12_unit u = some u2 := by
        unfold fX12_unit fX12_unit_0
        rw [is3, oB_v, if_pos rfl, e2, oB2_v, e4', oB_v, whole_d X2, oB2_v, if_neg X2.f.1]
      refine ⟨h5, G5, i5 + 0, j5 + 0, u2, ?_, RC.q (Q2.N.trans T1.N) C5, R12.trans R5 (Nat.le_refl _) (Nat.le_refl _), .inr ⟨u43_d is9 hU X2 (by omega), X5, pc + 1, z5, p5, by omega, by omega⟩⟩
      unfold fX4_unit fX4_unit_0
      rw [oC_d S0.t23, if_neg x262, if_neg x40, e1, oB2_v, oC_d S1.t23, e3, oB2_v, oC_d S2.t23, int_d S2 X2, oB2_v, S2.r512_23, oN_v, oC_d S2.t5, ea5, oB3_v, oK3_v]
  · obtain ⟨h5, G5, i5, j5, ea5, C5, R5, X5, z5, p5⟩ := addD I1 X1 ((T1.I _ _ (by omega)).trans X.sz) (by rw [T1.N]; exact X.hp) (by omega) 2 (r * 4 + 0) w rc'
    have hU : fX12_unit u = some u1 := by
      unfold fX12_unit fX12_unit_0
      rw [is3, oB_v, if_pos rfl, e2, oB2_v, must_d X1, oB_v, whole_d X1, oB2_v, if_neg X1.f.1]
    have ed := expect_d S1 X1 (k := 8) (by omega) (by omega)
    rw [c46] at ed
    refine ⟨h5, G5, i5 + 0, j5 + 0, u1, ?_, RC.q T1.N C5, R1.trans R5 (Nat.le_refl _) (Nat.le_refl _), .inr ⟨u43_d is9 hU X1 (by omega), X5, pc + 1, z5, p5, by omega, by omega⟩⟩
    unfold fX4_unit fX4_unit_0
    rw [oC_d S0.t23, if_neg x262, if_neg x40, e1, oB2_v, oC_d S1.t23, ed, oB2_v, oC_d S1.t23, int_d S1 X1, oB2_v, S1.r512_23, oN_v, oC_d S1.t5, ea5, oB3_v, oK3_v]
/-! behind a stop -/
/-- both stopped; the class's program may still grow -/
def DX (h : PH) (u : MS) (G : Gh) (z : Sz) (L : Nat) (n : Nat) (D : Nat → Nat × Nat × Nat × List Nat) (pc : Nat) : Prop := (PI h u G z L n D) ∧ (Ded h u) ∧ (∃ s, s ≤ 5 ∧ hI h 897 6 = nI s) ∧ (hI h 142 5 = nI pc) ∧ (pc ≤ hN h G.pg)
theorem DX.i {h : PH} {u : MS} {G : Gh} {z : Sz} {L : Nat} {n : Nat} {D : Nat → Nat × Nat × Nat × List Nat} {pc : Nat} (X_ : DX h u G z L n D pc) : PI h u G z L n D := X_.1
theorem DX.X {h : PH} {u : MS} {G : Gh} {z : Sz} {L : Nat} {n : Nat} {D : Nat → Nat × Nat × Nat × List Nat} {pc : Nat} (X_ : DX h u G z L n D pc) : Ded h u := X_.2.1
theorem DX.s6 {h : PH} {u : MS} {G : Gh} {z : Sz} {L : Nat} {n : Nat} {D : Nat → Nat × Nat × Nat × List Nat} {pc : Nat} (X_ : DX h u G z L n D pc) : ∃ s, s ≤ 5 ∧ hI h 897 6 = nI s := X_.2.2.1
theorem DX.sz {h : PH} {u : MS} {G : Gh} {z : Sz} {L : Nat} {n : Nat} {D : Nat → Nat × Nat × Nat × List Nat} {pc : Nat} (X_ : DX h u G z L n D pc) : hI h 142 5 = nI pc := X_.2.2.2.1
theorem DX.hp {h : PH} {u : MS} {G : Gh} {z : Sz} {L : Nat} {n : Nat} {D : Nat → Nat × Nat × Nat × List Nat} {pc : Nat} (X_ : DX h u G z L n D pc) : pc ≤ hN h G.pg := X_.2.2.2.2
theorem DX.mk {h : PH} {u : MS} {G : Gh} {z : Sz} {L : Nat} {n : Nat} {D : Nat → Nat × Nat × Nat × List Nat} {pc : Nat} (i_ : PI h u G z L n D) (X_ : Ded h u) (s6_ : ∃ s, s ≤ 5 ∧ hI h 897 6 = nI s) (sz_ : hI h 142 5 = nI pc) (hp_ : pc ≤ hN h G.pg) : DX h u G z L n D pc := ⟨i_, X_, s6_, sz_, hp_⟩
/-- a piece read behind a stop: at most m steps more -/
def DO (h : PH) (u : MS) (G : Gh) (z : Sz) (w L n : Nat) (D : Nat → Nat × Nat × Nat × List Nat) (pc rc m : Nat) (F : Option (PH × Nat × Nat)) : Prop := ∃ h' G' i j pc', F = some (h', i, j) ∧ RC h h' G G' i j ∧ RD h u h' u G G' w 23 pc rc ∧ DX h' u G' z L n D pc' ∧ pc ≤ pc' ∧ pc' ≤ pc + m
theorem DX.add (X : DX h u G z L n D pc) (hw : z.nr ≤ w) (zp : z.pc ≤ pc) (zr : z.rc ≤ rc') (h6 : pc ≤ 60000) (op x : Int32) : ∃ h' G' i j, fX1_addStep h 5 op x = some (h', i, j) ∧ RC h h' G G' i j ∧ RD h u h' u G G' w 23 pc rc' ∧ DX h' u G' z L n D (pc + 1) := by
  obtain ⟨h5, G5, i5, j5, ea5, C5, R5, X5, z5, p5⟩ := addD X.i X.X X.sz X.hp h6 op x w rc'
  obtain ⟨s, hs, e⟩ := X.s6
  exact ⟨h5, G5, i5, j5, ea5, C5, R5, X.i.rd R5 hw zp zr, X5, ⟨s, hs, (R5.I 897 6 (by omega) (by omega) (by omega)).trans e⟩, z5, p5⟩
theorem DO.pre {h1 : PH} {G1 : Gh} {ci cj pc1 m m' : Nat} {F : Option (PH × Nat × Nat)} (c : RC h h1 G G1 ci cj) (R : RD h u h1 u G G1 w 23 pc rc') (g : DO h1 u G1 z w L n D pc1 rc' m F) (hp : pc ≤ pc1) (hm : pc1 + m ≤ pc + m') : DO h u G z w L n D pc rc' m' (oK3 ci cj F) := by
  obtain ⟨h', G', i, j, pc', e, c1, R1, X, q1, q2⟩ := g
  exact ⟨h', G', ci + i, cj + j, pc', by rw [e, oK3_v], c.trans c1, R.trans R1 hp (Nat.le_refl _), X, by omega, by omega⟩
theorem unit_d (X : DX h u G z L n D pc) (hw : z.nr ≤ w) (zp : z.pc ≤ pc) (zr : z.rc ≤ rc') (h6 : pc ≤ 60000) (kF : PH → Nat → Int32 → Option (PH × Nat × Nat)) (x : Int32) : DO h u G z w L n D pc rc' 1 (fX4_unit kF h 23 x) := by
  have S := X.i.sx
  have k1 : ¬ hI h 521 23 = 262 := by rw [X.X.kd]; decide
  have k2 : ¬ hI h 521 23 = 40 := by rw [X.X.kd]; decide
  obtain ⟨r, e1⟩ := term_dc S X.X X.s6
  have ed := expect_d S X.X (k := 8) (by omega) (by omega)
  rw [show cK 8 = 46 from rfl] at ed
  obtain ⟨h5, G5, i5, j5, ea5, C5, R5, X5⟩ := X.add (w := w) (rc' := rc') hw zp zr h6 2 (r * 4 + 0)
  refine ⟨h5, G5, i5 + 0, j5 + 0, pc + 1, ?_, C5, R5, X5, by omega, by omega⟩
  unfold fX4_unit fX4_unit_0
  rw [oC_d S.t23, if_neg k1, if_neg k2, e1, oB2_v, oC_d S.t23, ed, oB2_v, oC_d S.t23, int_d S X.X, oB2_v, S.r512_23, oN_v, oC_d S.t5, ea5, oB3_v, oK3_v]
theorem f92_d (X : DX h u G z L n D pc) (kF : PH → Nat → Int32 → Option (PH × Nat × Nat)) (g : Nat) (x1 x4 : Int32) : fX4_formula_92 kF (fX4_formula_20 kF (g + 1)) h 23 x1 x4 = some (h, 0, 0) := by
  have S := X.i.sx
  have k1 : ¬ hI h 521 23 = 43 := by rw [X.X.kd]; decide
  have s43 := skip_d S X.X (k := 11) (by omega) (by omega)
  have s45 := skip_d S X.X (k := 12) (by omega) (by omega)
  rw [show cK 11 = 43 from rfl] at s43
  rw [show cK 12 = 45 from rfl] at s45
  unfold fX4_formula_92
  rw [oC_d S.t23, if_neg k1]
  unfold fX4_formula_106
  rw [oC_d S.t23, s43, oB2_v, if_pos rfl, oC_d S.t23, s45, oB2_v, if_pos rfl]
  unfold fX4_formula_130
  rw [oL_v]
  show fX4_formula_20F kF (fX4_formula_20 kF g) h 23 x1 5 0 (x4 + 1) = _
  unfold fX4_formula_20F
  by_cases c : 1200 ≤ x4 + 1
  · rw [if_pos c]
  · rw [if_neg c, if_pos rfl]
theorem f78_d (X : DX h u G z L n D pc) (hw : z.nr ≤ w) (zp : z.pc ≤ pc) (zr : z.rc ≤ rc') (h6 : pc ≤ 60000) (kF : PH → Nat → Int32 → Option (PH × Nat × Nat)) (g : Nat) (x1 x2 x4 : Int32) : DO h u G z w L n D pc rc' 1 (fX4_formula_78 kF (fX4_formula_20 kF (g + 1)) h 23 x1 x2 x4) := by
  have S := X.i.sx
  unfold fX4_formula_78
  by_cases c : x2 = -1
  · rw [if_pos c, f92_d X]
    exact ⟨h, G, 0, 0, pc, rfl, RC.refl h G, RD.refl S u w 23 pc rc', X, Nat.le_refl _, by omega⟩
  · obtain ⟨h5, G5, i5, j5, ea5, C5, R5, X5⟩ := X.add (w := w) (rc' := rc') hw zp zr h6 x2 0
    rw [if_neg c, oC_d S.t23, S.r512_23, oN_v, oC_d S.t5, ea5, oB3_v, f92_d X5, oK3_v]
    exact ⟨h5, G5, i5 + 0, j5 + 0, pc + 1, rfl, C5, R5, X5, by omega, by omega⟩
theorem f40_d (X : DX h u G z L n D pc) (kF : PH → Nat → Int32 → Option (PH × Nat × Nat)) (k20 : PH → Nat → Int32 → Int32 → Int32 → Int32 → Option (PH × Nat × Nat)) (g : Nat) (x1 x2 x4 x5 : Int32) : fX4_formula_40 kF k20 (g + 1) h 23 x1 x2 x4 x5 = fX4_formula_78 kF k20 h 23 x1 x2 x4 := by
  have S := X.i.sx
  have s42 := skip_d S X.X (k := 13) (by omega) (by omega)
  rw [show cK 13 = 42 from rfl] at s42
  show fX4_formula_40F kF k20 (fX4_formula_40 kF k20 g) h 23 x1 x2 x4 x5 = _
  unfold fX4_formula_40F
  by_cases c : 1200 ≤ x5
  · rw [if_pos c]
  · rw [if_neg c, oC_d S.t23, s42, oB2_v, if_pos rfl]
/-- a formula behind a stop -/
theorem formula_d (X : DX h u G z L n D pc) (hw : z.nr ≤ w) (zp : z.pc ≤ pc) (zr : z.rc ≤ rc') (h6 : pc ≤ 50000) (kF : PH → Nat → Int32 → Option (PH × Nat × Nat)) (x : Int32) : DO h u G z w L n D pc rc' 2 (fX4_formulaG kF h 23 x) := by
  have S := X.i.sx
  have s45 := skip_d S X.X (k := 12) (by omega) (by omega)
  rw [show cK 12 = 45 from rfl] at s45
  obtain ⟨g, hg⟩ : ∃ g, FU = g + 1 + 1 := ⟨FU - 2, by rw [FU_v]⟩
  obtain ⟨h1, G1, i1, j1, pc1, e1, C1, R1, X1, q1, q2⟩ := unit_d (w := w) (rc' := rc') X hw zp zr (by omega) kF x
  have S1 := X1.i.sx
  obtain ⟨h2, G2, i2, j2, pc2, e2, C2, R2, X2, q3, q4⟩ := f78_d (w := w) (rc' := rc') X1 hw (by omega) zr (by omega) kF g x (-1) 0
  refine ⟨h2, G2, i1 + i2, j1 + j2, pc2, ?_, C1.trans C2, R1.trans R2 q1 (Nat.le_refl _), X2, by omega, by omega⟩
  unfold fX4_formulaG fX4_formula_0
  rw [oC_d S.t23, s45, oB2_v, if_pos rfl]
  unfold fX4_formula_14
  rw [hg]
  show fX4_formula_20F kF (fX4_formula_20 kF (g + 1)) h 23 x (-1) 1 0 = _
  unfold fX4_formula_20F
  rw [if_neg (by decide), if_neg (by decide), oC_d S.t23, e1, oB3_v, hg, f40_d X1, e2, oK3_v]
end U8
