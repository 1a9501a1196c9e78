section LP
variable (z : Sz) (w L n : Nat) (D : Nat → Nat × Nat × Nat × List Nat) (p d : Nat) (kF : PH → Nat → Int32 → Option (PH × Nat × Nat))
def Pin (N : Nat) : Prop := ∀ (h : PH) (u : MS) (G : Gh) (v t pc rc' : Nat) (S W M : List Nat) (K k1 : Nat) (x2 : Int32) (x4 x5 f g g20 g40 : Nat), 1301 ≤ N + t → FX h u G z w v L n D t p pc rc' (S ++ W).length d (S ++ W ++ M) → WK x2 W K k1 → MKt M → SB S → K ≤ 2 * d → S.length ≤ 3 * d → x4 + 1 ≤ t → x5 + 1 ≤ t → 5000 ≤ f + t → 99992 + d ≤ g → 2000 ≤ g20 + t → 2000 ≤ g40 + t → GO h u G z w v L n D t p pc rc' d S (k1 + 1) (K + 1) (1205 + 3 * (8 - d)) (M.map oT) (TgC d) (fX4_formula_40 kF (fX4_formula_20 kF g20) g40 h 23 (nI d) x2 (nI x4) (nI x5)) (fX12_expression_95 (fX12_expression_14 f) g u 0 1 1)
def Pout (N : Nat) : Prop := ∀ (h : PH) (u : MS) (G : Gh) (v t pc rc' : Nat) (S W : List Nat) (K k1 : Nat) (x2 : Int32) (x4 f g20 : Nat), 1301 ≤ N + t → FX h u G z w v L n D t p pc rc' (S ++ W).length d (S ++ W) → WK x2 W K k1 → SB S → K ≤ 2 * d → S.length ≤ 3 * d → x4 + 1 ≤ t → 5000 ≤ f + t → 2000 ≤ g20 + t → GO h u G z w v L n D t p pc rc' d S k1 (K + 1) (1205 + 3 * (8 - d)) [] (TgC d) (fX4_formula_20 kF g20 h 23 (nI d) x2 1 (nI x4)) (fX12_expression_43 (fX12_expression_14 f) u 1)
end LP
section LQ
variable {z : Sz} {w L n : Nat} {D : Nat → Nat × Nat × Nat × List Nat} {p d : Nat} {kF : PH → Nat → Int32 → Option (PH × Nat × Nat)}
theorem GO.dead {h h1 h2 : PH} {u u1 : MS} {G G1 G2 : Gh} {v t pc pc1 pc2 rc' k k' B ci cj di dj : Nat} {S : List Nat} {l : List Tok} {Tg : MS → Nat → Option MS → Prop} {F : Option (PH × Nat × Nat)} {M : Option MS} (c : RC h h1 G G1 ci cj) (R : RD h u h1 u1 G G1 w 23 pc rc') (hp : pc ≤ pc1) (c2 : RC h1 h2 G1 G2 di dj) (R2 : RD h1 u1 h2 u1 G1 G2 w 23 pc1 rc') (X2 : DX h2 u1 G2 z L n D pc2) (q1 : pc1 ≤ pc2) (q2 : pc2 ≤ z.pc + B) (eF : F = some (h2, ci + di, cj + dj)) (eM : M = some u1) : GO h u G z w v L n D t p pc rc' d S k k' B l Tg F M :=
  ⟨h2, G2, ci + di, cj + dj, u1, eF, c.trans c2, R.trans R2 hp (Nat.le_refl _), .inr ⟨eM, X2.X, pc2, X2.sz, X2.hp, by omega, q2⟩⟩
theorem pout_v (uv : UV z w L n D p d kF) (hd : d ≤ 8) {N : Nat} (pin : Pin z w L n D p d kF N) : Pout z w L n D p d kF (N + 1) := by
  intro h u G v t pc rc' S W K k1 x2 x4 f g20 hN' X wk sb hK hS h4 hf hg
  have S0 := X.i.sx
  have b := X.bp
  have wl := wk.l
  obtain ⟨g1, rfl⟩ : ∃ g1, g20 = g1 + 1 + 1 := ⟨g20 - 2, by omega⟩
  obtain ⟨h1, G1, i1, j1, u1, eF, C1, R1, o⟩ := uv h u G v t pc rc' (S ++ W) k1 f X (by omega) hf (by omega) (by rw [List.length_append]; omega)
  have S1 := R1.sx
  have hC : fX4_formula_20 kF (g1 + 1 + 1) h 23 (nI d) x2 1 (nI x4) = oK3 i1 j1 (fX4_formula_40 kF (fX4_formula_20 kF (g1 + 1)) FU h1 23 (nI d) x2 (nI x4) (nI 0)) := by
    show fX4_formula_20F kF (fX4_formula_20 kF (g1 + 1)) h 23 (nI d) x2 1 (nI x4) = _
    unfold fX4_formula_20F
    rw [if_neg (show ¬ (1200 : Int32) ≤ nI x4 from nI_ge (b := 1200) (by omega) (by omega)), if_neg (by decide), oC_d S0.t23, eF, oB3_v]
    rfl
  rcases o with ⟨t1, v1, pc1, rc1, ⟨lt1, f1, g2, eM, hf1, hg2⟩, q1, q2, q3, q4, X1, fm1, E1⟩ | ⟨eM, Xd, pc1, z1, p1, q1, q2⟩
  · have X1' : FX h1 u1 G1 z w v1 L n D t1 p pc1 rc1 (S ++ W).length d (S ++ W ++ []) := by rw [List.append_nil]; exact X1
    have gi := pin h1 u1 G1 v1 t1 pc1 rc1 S W [] K k1 x2 x4 0 f1 g2 (g1 + 1) FU (by omega) X1' wk (.inl rfl) sb hK hS (by omega) (by omega) hf1 hg2 (by omega) (by rw [FU_v]; omega)
    rw [hC, eM]
    refine GO.pre X.F C1 R1 X1.F fm1 q1 q2 q3 q4 (fun e0 => ?_) gi
    obtain ⟨e, a1, a2, a3, a4, a5, a6⟩ := E1 e0
    exact ⟨e, e, a1, a2, a3, a4, (List.append_nil e).symm, a5, a6⟩
  · have dx := X.dx R1 Xd z1 p1
    have zp := X.zp
    obtain ⟨h2, G2, i2, j2, pc2, e2, C2, R2, X2, q3, q4⟩ := f78_d (w := w) (rc' := rc') dx X.hw (by omega) X.zr (by omega) kF g1 (nI d) x2 (nI x4)
    obtain ⟨g, hg⟩ : ∃ g, FU = g + 1 := ⟨FU - 1, by rw [FU_v]⟩
    refine GO.dead C1 R1 q1 C2 R2 X2 q3 (by omega) ?_ eM
    rw [hC, hg, f40_d dx, e2, oK3_v]
theorem pin_v (uv : UV z w L n D p d kF) (hd : d ≤ 8) {N : Nat} (pin : Pin z w L n D p d kF N) (pout : Pout z w L n D p d kF N) : Pin z w L n D p d kF (N + 1) := by
  intro h u G v t pc rc' S W M K k1 x2 x4 x5 f g g20 g40 hN' X wk mk sb hK hS h4 h5 hf hg hg20 hg40
  have S0 := X.i.sx
  have b := X.bp
  have b1 := X.b1
  have wl := wk.l
  have ml := mk.l
  have zp := X.zp
  have lW : (S ++ W).length = S.length + W.length := List.length_append
  have lM : (M.map oT).length = M.length := List.length_map _
  have rM : (rc (M.map oT)).length = M.length := by unfold rc; rw [List.length_map, List.length_map]
  have rW : (rc (W.map oT)).length = W.length := by unfold rc; rw [List.length_map, List.length_map]
  obtain ⟨g1, rfl⟩ : ∃ g1, g = g1 + 1 + 1 := ⟨g - 2, by omega⟩
  obtain ⟨f1, rfl⟩ : ∃ f1, f = f1 + 1 := ⟨f - 1, by omega⟩
  obtain ⟨g2, rfl⟩ : ∃ g2, g20 = g2 + 1 := ⟨g20 - 1, by omega⟩
  obtain ⟨g4, rfl⟩ : ∃ g4, g40 = g4 + 1 + 1 := ⟨g40 - 2, by omega⟩
  have k0 : ∀ u2 : MS, fX12_expression_95 (fX12_expression_14 (f1 + 1)) (g1 + 1) u2 0 1 0 = fX12_expression_14 (f1 + 1) u2 0 1 := fun u2 => by
    show fX12_expression_95F (fX12_expression_14 (f1 + 1)) (fX12_expression_95 (fX12_expression_14 (f1 + 1)) g1) u2 0 1 0 = _
    unfold fX12_expression_95F
    rw [if_pos rfl]
  have k1' : ∀ u2 : MS, mI u2 13 = 0 → fX12_expression_14 (f1 + 1) u2 0 1 = fX12_expression_43 (fX12_expression_14 f1) u2 1 := fun u2 e => by
    show fX12_expression_14F (fX12_expression_14 f1) u2 0 1 = _
    unfold fX12_expression_14F
    rw [if_neg (by decide), if_pos e, if_pos rfl]
  have h40 : fX4_formula_40 kF (fX4_formula_20 kF (g2 + 1)) (g4 + 1 + 1) h 23 (nI d) x2 (nI x4) (nI x5) = oB2 (fX4_skip h 23 42) (fun h28 r27 => if r27 = 0 then (fX4_formula_78 kF (fX4_formula_20 kF (g2 + 1)) h28 23 (nI d) x2 (nI x4)) else (oC (decide (hT h28 23 = 5)) (oB3 (fX4_unit kF h28 23 (nI d)) (fun h32 i33 j34 => oK3 i33 j34 (oC (decide (hT h32 23 = 5)) (oN (hR h32 512 23) (fun a38 => oC (decide (hT h32 a38 = 2)) (oB3 (fX1_addStep h32 a38 6 0) (fun h41 i42 j43 => oK3 i42 j43 (oL (nI x5 + 1) (fun y46 => fX4_formula_40 kF (fX4_formula_20 kF (g2 + 1)) (g4 + 1) h41 23 (nI d) x2 (nI x4) y46))))))))))) := by
    show fX4_formula_40F kF (fX4_formula_20 kF (g2 + 1)) (fX4_formula_40 kF (fX4_formula_20 kF (g2 + 1)) (g4 + 1)) h 23 (nI d) x2 (nI x4) (nI x5) = _
    unfold fX4_formula_40F
    rw [if_neg (show ¬ (1200 : Int32) ≤ nI x5 from nI_ge (b := 1200) (by omega) (by omega)), oC_d S0.t23]
  have c42 : cK 13 = 42 := rfl
  by_cases c13 : (D t).2.1 = 13
  · -- a product
    have is13 : fX12_is u 13 = some 1 := is_y X.i X.V (kw := 13) (by omega) c13
    obtain ⟨u1, e1, R1, fm1, X1, c1⟩ := settle_two X (by omega) wk mk sb
    obtain ⟨h2, u2, r2, e2, e3, N2, R2, Q2, o2⟩ := push_v X1 (by omega) 13 (E := fX4_skip h 23 (cK 13)) (fun I V F => by
      rcases may_v I V F (k := 13) (by omega) (by omega) (by omega) with ⟨q, _⟩ | ⟨_, _, q⟩
      · exact absurd c13 q
      · exact q)
    rw [c42] at e2
    have e3' : fX12_stacks u1 13 = some u2 := e3
    have S2 := R2.sx
    have R02 : RD h u h2 u2 G G w 23 pc rc' := R1.trans R2 (Nat.le_refl _) (by omega)
    have hM : fX12_expression_95 (fX12_expression_14 (f1 + 1)) (g1 + 1 + 1) u 0 1 1 = fX12_expression_14 (f1 + 1) u2 0 1 := by
      show fX12_expression_95F (fX12_expression_14 (f1 + 1)) (fX12_expression_95 (fX12_expression_14 (f1 + 1)) (g1 + 1)) u 0 1 1 = _
      unfold fX12_expression_95F
      rw [if_neg (by decide), if_pos X.V.f0, is13, oB_v, if_neg (by decide), e1, oB_v, e3', oB_v, k0]
    rcases o2 with ⟨er, fm2, X2⟩ | ⟨er, X2⟩
    · subst er
      have l13 : (S ++ W ++ [13]).length = (S ++ W).length + 1 := List.length_append
      have X2' : FX h2 u2 G z w v L n D (t + 1) p pc (rc' + M.length) (S ++ W ++ [13]).length d (S ++ W ++ [13]) := by rw [l13]; exact X2
      obtain ⟨h3, G3, i3, j3, u3, eF, C3, R3, o3⟩ := uv h2 u2 G v (t + 1) pc (rc' + M.length) (S ++ W ++ [13]) (k1 + 1) f1 X2' (by omega) (by omega) (by omega) (by rw [l13]; omega)
      have S3 := R3.sx
      have R03 : RD h u h3 u3 G G3 w 23 pc rc' := R02.trans R3 (Nat.le_refl _) (by omega)
      have C03 : RC h h3 G G3 i3 j3 := RC.q N2 C3
      rw [hM, k1' u2 X2.V.f0]
      rcases o3 with ⟨t3, v3, pc3, rc3, ⟨lt3, f3, g3, eM, hf3, hg3⟩, q1, q2, q3, q4, X3, fm3, E3⟩ | ⟨eM, Xd, pc3, z3, p3, q1, q2⟩
      · have X3' : FX h3 u3 G3 z w v3 L n D t3 p pc3 rc3 ((S ++ W).length + 1) d (S ++ W ++ [13]) := by rw [l13] at X3; exact X3
        obtain ⟨h4', G4, i4, j4, ea, C4, R4, va, X4⟩ := X3'.addC 6 0
        have S4 := R4.sx
        have gi := pin h4' u3 G4 v3 t3 (pc3 + 1) rc3 S W [13] K k1 x2 x4 (x5 + 1) f3 g3 (g2 + 1) (g4 + 1) (by omega) X4 wk (.inr rfl) sb hK hS (by omega) (by omega) hf3 hg3 (by omega) (by omega)
        have hC : fX4_formula_40 kF (fX4_formula_20 kF (g2 + 1)) (g4 + 1 + 1) h 23 (nI d) x2 (nI x4) (nI x5) = oK3 (i3 + i4) (j3 + j4) (fX4_formula_40 kF (fX4_formula_20 kF (g2 + 1)) (g4 + 1) h4' 23 (nI d) x2 (nI x4) (nI (x5 + 1))) := by
          rw [h40, e2, oB2_v, if_neg (by decide), oC_d S2.t23, eF, oB3_v, oC_d S3.t23, S3.r512_23, oN_v, oC_d S3.t5, ea, oB3_v, oL_v, nI_1, oK3_3]
        rw [hC, eM]
        refine GO.pre X.F (C03.trans C4) (R03.trans R4 q3 (by omega)) X4.F ((fm1.trans fm2).trans fm3) (by omega) (by omega) (by omega) (by omega) (fun e0 => ?_) gi
        obtain ⟨e, a1, a2, a3, a4, a5, a6⟩ := E3 e0
        refine ⟨e ++ [oT 13], M.map oT ++ e, fun x hx => ?_, okD.app _ _ _ _ _ a2 (okD_op (op := 6) (k := k1 + 1 + 1) (by omega) (by omega)), ?_, ?_, by rw [List.append_assoc]; rfl, ?_, ?_⟩
        · rcases List.mem_append.mp hx with hx | hx
          · exact a1 x hx
          · rw [List.mem_singleton.mp hx]
            exact ⟨by show 6 ≤ 6; omega, fun q => absurd q (by show ¬ 6 = 0; omega), fun q => absurd q (by show ¬ 6 = 1; omega), fun q => absurd q (by show ¬ 6 = 2; omega)⟩
        · rw [cc_app, List.length_append, show (cc [oT 13]).length = 1 from rfl]; omega
        · rw [rc_app, List.length_append, rM]
          have a4' : rc3 = rc' + M.length + (rc e).length := a4
          omega
        · refine (a5.rd R4 (by omega)).app (Cc.one (tk := oT 13) (x := 6291456) rfl ?_)
          rw [← a3, va]
          exact (step_n (op := 6) (x := 0) (by omega) (by omega)).trans rfl
        · have := (c1.rd R2 (by rw [rM]; exact Nat.le_refl _)).rd R3 (by rw [rM]; exact Nat.le_refl _)
          exact this.app (by rw [rM]; exact a6)
      · have dx := X2.dx R3 Xd z3 p3
        obtain ⟨h4', G4, i4, j4, ea, C4, R4, X4⟩ := dx.add (w := w) (rc' := rc') X.hw (by omega) X.zr (by omega) 6 0
        obtain ⟨h5', G5, i5, j5, pc5, e5, C5, R5, X5, q5, q6⟩ := f78_d (w := w) (rc' := rc') X4 X.hw (by omega) X.zr (by omega) kF g2 (nI d) x2 (nI x4)
        refine GO.dead C03 R03 q1 (C4.trans C5) (R4.trans R5 (by omega) (Nat.le_refl _)) X5 (by omega) (by omega) ?_ eM
        rw [h40, e2, oB2_v, if_neg (by decide), oC_d S2.t23, eF, oB3_v, oC_d S3.t23, S3.r512_23, oN_v, oC_d S3.t5, ea, oB3_v, oL_v, f40_d X4, e5, oK3_v, oK3_v]
    · subst er
      have dx := X.dx R02 X2 ((Q2.I _ _ (by omega)).trans X.sz) (by rw [N2]; exact X.hp)
      obtain ⟨h5', G5, i5, j5, pc5, e5, C5, R5, X5, q5, q6⟩ := f78_d (w := w) (rc' := rc') dx X.hw zp X.zr (by omega) kF g2 (nI d) x2 (nI x4)
      refine GO.dead (RC.n N2) R02 (Nat.le_refl _) C5 R5 X5 q5 (by omega) ?_ (by rw [hM, end14_d X2])
      rw [h40, e2, oB2_v, if_pos rfl, e5, Nat.zero_add, Nat.zero_add]
  · -- the part's end
    have is13 : fX12_is u 13 = some 0 := is_n X.i X.V (kw := 13) (by omega) c13
    have s42 : fX4_skip h 23 42 = some (h, 0) := by
      rcases may_v X.i X.V X.F (k := 13) (by omega) (by omega) (by omega) with ⟨_, q, _⟩ | ⟨q, _⟩
      · exact q
      · exact absurd q c13
    obtain ⟨u1, e1, R1, fm1, X1, c1⟩ := settle_all X (by omega) wk mk sb
    obtain ⟨h2, G2, i2, j2, pc2, e2, C2, R2, X2, ep, cw, okd, okk⟩ := wait_c X1 wk
    have S2 := R2.sx
    have R02 : RD h u h2 u1 G G2 w 23 pc rc' := R1.trans R2 (Nat.le_refl _) (by omega)
    have X1a : FX h u1 G z w v L n D t p pc (rc' + M.length + W.length) (S ++ W).length d S := X1
    have hC : fX4_formula_40 kF (fX4_formula_20 kF (g2 + 1)) (g4 + 1 + 1) h 23 (nI d) x2 (nI x4) (nI x5) = oK3 i2 j2 (fX4_formula_92 kF (fX4_formula_20 kF (g2 + 1)) h2 23 (nI d) (nI x4)) := by
      rw [h40, s42, oB2_v, if_pos rfl, e2]
    have E2 : ∃ e er, (∀ x, x ∈ e → okK v p x) ∧ okD e (k1 + 1) (K + 1) ∧ pc2 = pc + (cc e).length ∧ rc' + M.length + W.length = rc' + (rc er).length ∧ M.map oT ++ e = er ++ [] ∧ Cc h2 G2 pc e ∧ Cr u1 rc' er := ⟨W.map oT, M.map oT ++ W.map oT, okk, okd, ep, by rw [rc_app, List.length_append, rM, rW]; omega, (List.append_nil _).symm, cw, c1⟩
    have hM0 : ∀ {op : Nat}, op = 11 ∨ op = 12 → (D t).2.1 = op → ∀ u3, fX12_stacks u1 (nI op) = some u3 → fX12_expression_95 (fX12_expression_14 (f1 + 1)) (g1 + 1 + 1) u 0 1 1 = fX12_expression_14 (f1 + 1) u3 0 1 := fun {op} ho eo u3 e3 => by
      have m5 : mA u1 5 t = nI op := by
        have := (X1.i.ts.tk t X1.V.lt).2.2.2.1
        rw [this, eo]
      have h149 : fX12_expression_149 (fX12_expression_14 (f1 + 1)) (fX12_expression_95 (fX12_expression_14 (f1 + 1)) (g1 + 1)) u 0 1 0 = fX12_expression_14 (f1 + 1) u3 0 1 := by
        unfold fX12_expression_149
        rw [e1, oB_v, X1.V.t0, oC_t (ix_n (show t < mlen 5 by show t < 1203; omega) (by decide)), nI_clamp (show t < 2147483648 by omega), m5, e3, oB_v, k0]
      show fX12_expression_95F (fX12_expression_14 (f1 + 1)) (fX12_expression_95 (fX12_expression_14 (f1 + 1)) (g1 + 1)) u 0 1 1 = _
      unfold fX12_expression_95F
      rw [if_neg (by decide), if_pos X.V.f0, is13, oB_v, if_pos rfl]
      rcases ho with q | q
      · have i11 : fX12_is u 11 = some 1 := is_y X.i X.V (kw := 11) (by omega) (by omega)
        rw [i11, oB_v, if_neg (by decide), h149]
      · have i11 : fX12_is u 11 = some 0 := is_n X.i X.V (kw := 11) (by omega) (by omega)
        have i12 : fX12_is u 12 = some 1 := is_y X.i X.V (kw := 12) (by omega) (by omega)
        rw [i11, oB_v, if_pos rfl, i12, oB_v, if_neg (by decide), h149]
    by_cases cs : (D t).2.1 = 11 ∨ (D t).2.1 = 12
    · -- a sign
      obtain ⟨op, ho, eo⟩ : ∃ op, (op = 11 ∨ op = 12) ∧ (D t).2.1 = op := ⟨_, cs, rfl⟩
      obtain ⟨h3, u3, r3, e3, e4, N3, R3, Q3, o3⟩ := push_v X2 (by omega) op (E := fX4_skip h2 23 (cK op)) (fun I V F => by
        rcases may_v I V F (k := op) (by omega) (by omega) (by omega) with ⟨q, _⟩ | ⟨_, _, q⟩
        · exact absurd eo q
        · exact q)
      have S3 := R3.sx
      have hr : r3 = 0 ∨ r3 = 1 := by
        rcases o3 with ⟨q, _⟩ | ⟨q, _⟩
        · exact .inr q
        · exact .inl q
      have sc := sign_c X2.i X2.V X2.F S3 (fun q => by
        rcases o3 with ⟨q', _⟩ | ⟨_, X⟩
        · rw [q'] at q; exact absurd q (by decide)
        · exact ⟨u3, X⟩) ho eo e3 hr kF (fX4_formula_20 kF (g2 + 1)) (nI d) (nI x4)
      rw [hC, sc, hM0 ho eo u3 e4, nI_1]
      have R03 : RD h u h3 u3 G G2 w 23 pc rc' := R02.trans R3 (by omega) (by omega)
      rcases o3 with ⟨er, fm3, X3⟩ | ⟨er, X3⟩
      · subst er
        rw [k1' u3 X3.V.f0]
        have l3 : (S ++ [op]).length = S.length + 1 := List.length_append
        have go := pout h3 u3 G2 v (t + 1) pc2 (rc' + M.length + W.length) S [op] K (K + 1) (nI (opT op)) (x4 + 1) f1 (g2 + 1) (by omega) (by rw [l3]; exact X3) (.inr ⟨op, rfl, rfl, .inr ⟨ho, rfl⟩⟩) sb hK hS (by omega) (by omega) (by omega)
        refine GO.pre X.F (C2.trans (RC.n N3)) R03 X3.F (fm1.trans fm3) (by omega) (Nat.le_refl _) (by omega) (by omega) (fun _ => ?_) go
        obtain ⟨e, er, a1, a2, a3, a4, a5, a6, a7⟩ := E2
        exact ⟨e, er, a1, a2, a3, a4, a5, a6.rd R3 (by omega), a7.rd R3 (by omega)⟩
      · subst er
        have X3b := X2.b1
        refine ⟨h3, G2, i2 + 0, j2 + 0, u3, ?_, C2.trans (RC.n N3), R03, .inr ⟨end14_d X3 _ _ _, X3, pc2, (Q3.I _ _ (by omega)).trans X2.sz, by rw [N3]; exact X2.hp, by omega, by omega⟩⟩
        show oK3 i2 j2 (fX4_formula_20F kF (fX4_formula_20 kF g2) h3 23 (nI d) (nI (opT op)) 0 (nI (x4 + 1))) = _
        unfold fX4_formula_20F
        by_cases c : 1200 ≤ nI (x4 + 1)
        · rw [if_pos c, oK3_v]
        · rw [if_neg c, if_pos rfl, oK3_v]
    · -- the formula's end
      have n11 : (D t).2.1 ≠ 11 := fun q => cs (.inl q)
      have n12 : (D t).2.1 ≠ 12 := fun q => cs (.inr q)
      have i11 : fX12_is u 11 = some 0 := is_n X.i X.V (kw := 11) (by omega) n11
      have i12 : fX12_is u 12 = some 0 := is_n X.i X.V (kw := 12) (by omega) n12
      have hM : fX12_expression_95 (fX12_expression_14 (f1 + 1)) (g1 + 1 + 1) u 0 1 1 = fC (fX12_expression_14 (f1 + 1)) (fX12_expression_95 (fX12_expression_14 (f1 + 1)) (g1 + 1)) u1 := by
        show fX12_expression_95F (fX12_expression_14 (f1 + 1)) (fX12_expression_95 (fX12_expression_14 (f1 + 1)) (g1 + 1)) u 0 1 1 = _
        unfold fX12_expression_95F
        rw [if_neg (by decide), if_pos X.V.f0, is13, oB_v, if_pos rfl, i11, oB_v, if_pos rfl, i12, oB_v, if_pos rfl, e1, oB_v]
        rfl
      refine ⟨h2, G2, i2 + 0, j2 + 0, u1, by rw [hC, sign_n X2 n11 n12, oK3_v], C2, R02, .inl ⟨t, v, pc2, rc' + M.length + W.length, ⟨f1 + 1, g1 + 1, hM, hf, by omega⟩, Nat.le_refl _, Nat.le_refl _, by omega, by omega, X2, fm1, fun _ => ?_⟩⟩
      obtain ⟨e, er, a1, a2, a3, a4, a5, a6, a7⟩ := E2
      have a5' : er = M.map oT ++ e := by rw [List.append_nil] at a5; exact a5.symm
      exact ⟨e, a1, a2, a3, by rw [← a5']; exact a4, a6, by rw [← a5']; exact a7⟩
end LQ
