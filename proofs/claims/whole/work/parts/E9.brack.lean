/-- the reference behind a formula, its waits settled -/
def fC (k14 : MS → Int32 → Int32 → Option MS) (k95 : MS → Int32 → Int32 → Int32 → Option MS) (u : MS) : Option MS := if mI u 70 ≤ 0 then fX12_expression_187 k14 k95 u 0 0 else fX12_expression_187 k14 k95 u 0 1
def TgC (d : Nat) (u : MS) (t : Nat) (M : Option MS) : Prop := ∃ f g, M = fC (fX12_expression_14 f) (fX12_expression_95 (fX12_expression_14 f) g) u ∧ 5000 ≤ f + t ∧ 99991 + d ≤ g
def SB (S : List Nat) : Prop := S = [] ∨ ∃ S0, S = S0 ++ [9]
def UV (z : Sz) (w L n : Nat) (D : Nat → Nat × Nat × Nat × List Nat) (p d : Nat) (kF : PH → Nat → Int32 → Option (PH × Nat × Nat)) : Prop := ∀ (h : PH) (u : MS) (G : Gh) (v t pc rc' : Nat) (S : List Nat) (k f : Nat), FX h u G z w v L n D t p pc rc' S.length d S → 1 ≤ t → 5000 ≤ f + t → k ≤ 2 * d + 2 → S.length ≤ 3 * d + 2 → GO h u G z w v L n D t p pc rc' d S k (k + 1) (1203 + 3 * (8 - d)) [] (TgB d t) (fX4_unit kF h 23 (nI d)) (fX12_expression_43 (fX12_expression_14 f) u 1)
def FV (z : Sz) (w L n : Nat) (D : Nat → Nat × Nat × Nat × List Nat) (p d : Nat) (kF : PH → Nat → Int32 → Option (PH × Nat × Nat)) : Prop := ∀ (h : PH) (u : MS) (G : Gh) (v t pc rc' : Nat) (S : List Nat) (k f : Nat), FX h u G z w v L n D t p pc rc' S.length d S → 1 ≤ t → 5000 ≤ f + t → k ≤ 2 * d → S.length ≤ 3 * d → SB S → GO h u G z w v L n D t p pc rc' d S k (k + 1) (1205 + 3 * (8 - d)) [] (TgC d) (kF h 23 (nI d)) (fX12_expression_14 (f + 1) u 1 1)
def FVd (z : Sz) (w L n : Nat) (D : Nat → Nat × Nat × Nat × List Nat) (kF : PH → Nat → Int32 → Option (PH × Nat × Nat)) : Prop := ∀ (h : PH) (u : MS) (G : Gh) (pc rc' : Nat) (x : Int32), DX h u G z L n D pc → z.nr ≤ w → z.pc ≤ pc → z.rc ≤ rc' → pc ≤ 50000 → DO h u G z w L n D pc rc' 2 (kF h 23 x)
section BR
variable {h h' : PH} {u u' : MS} {G G' : Gh} {z : Sz} {w v L n t p pc rc' q q' d f k : Nat} {D : Nat → Nat × Nat × Nat × List Nat} {S : List Nat}
theorem FX.dx (X : FX h u G z w v L n D t p pc rc' q d S) (R : RD h u h' u' G G' w 23 pc rc') {pc1 : Nat} (Y : Ded h' u') (sz : hI h' 142 5 = nI pc1) (hp : pc1 ≤ hN h' G'.pg) : DX h' u' G' z L n D pc1 := ⟨X.i.rd R X.hw X.zp X.zr, Y, ⟨p, X.c5, (R.I 897 6 (by omega) (by omega) (by omega)).trans X.s6⟩, sz, hp⟩
theorem Ded.i2 (X : Ded h u) {k : Nat} (hk : k = 12 ∨ 15 ≤ k) (x : Int32) : Ded h (mSI u k x) := by
  obtain ⟨t, ht, e⟩ := X.tt
  have g : ∀ j, j = 11 ∨ j = 13 ∨ j = 14 → mI (mSI u k x) j = mI u j := fun j hj => by simp only [z_mI_mSI, z_mL_mSI, z_mA_mSI, z_mB_mSI, z_mI_mSL, z_mL_mSL, z_mA_mSL, z_mB_mSL, z_mI_mSA, z_mL_mSA, z_mA_mSA, z_mB_mSA, z_mI_mSB, z_mL_mSB, z_mA_mSB, z_mB_mSB]; rw [if_neg (by omega)]
  exact ⟨X.st, (g 13 (by omega)).trans X.fa, X.pl.trans (g 14 (by omega)).symm, X.kd, t, ht, (g 11 (by omega)).trans e⟩
theorem Ded.a2 (X : Ded h u) (k i : Nat) (x : Int32) : Ded h (mSA u k i x) := ⟨X.st, X.fa, X.pl, X.kd, X.tt⟩
theorem stacks_d (S0 : SX h G) (X : Ded h u) {s : Nat} (s1 : mI u 70 = nI s) (hs : s < 40) (op : Int32) (w pc rc' : Nat) : ∃ u', fX12_stacks u op = some u' ∧ Ded h u' ∧ RD h u h u' G G w 23 pc rc' := by
  have e : mI (mSA u 71 s op) 70 = nI s := s1
  obtain ⟨u', e1, W1, X1⟩ := next_d ((X.a2 71 s op).i2 (k := 70) (by omega) (nI (s + 1)))
  refine ⟨u', ?_, X1, ?_⟩
  · unfold fX12_stacks fX12_stacks_0
    rw [s1, oC_t (ix_n (show s < mlen 71 from hs) (by decide)), oL_v, nI_clamp (show s < 2147483648 by omega), e, nI_1, oL_v, e1, oB_v]
  · have R0 : RD h u h (mSI (mSA u 71 s op) 70 (nI (s + 1))) G G w 23 pc rc' := RD.mm S0 (fun zz h1 h2 => ((MD.refl u zz).sA (by omega) (by unfold kM; omega)).sI (by omega)) (fun k hk => by simp only [z_mI_mSI, z_mL_mSI, z_mA_mSI, z_mB_mSI, z_mI_mSL, z_mL_mSL, z_mA_mSL, z_mB_mSL, z_mI_mSA, z_mL_mSA, z_mA_mSA, z_mB_mSA, z_mI_mSB, z_mL_mSB, z_mA_mSB, z_mB_mSB]; rw [if_neg (by omega)]) (fun k i h1 h2 h3 h4 => by simp only [z_mI_mSI, z_mL_mSI, z_mA_mSI, z_mB_mSI, z_mI_mSL, z_mL_mSL, z_mA_mSL, z_mB_mSL, z_mI_mSA, z_mL_mSA, z_mA_mSA, z_mB_mSA, z_mI_mSB, z_mL_mSB, z_mA_mSB, z_mB_mSB]; rw [if_neg (fun e => h4 e.1)]) (fun k i h1 h2 h3 => by simp only [z_mI_mSI, z_mL_mSI, z_mA_mSI, z_mB_mSI, z_mI_mSL, z_mL_mSL, z_mA_mSL, z_mB_mSL, z_mI_mSA, z_mL_mSA, z_mA_mSA, z_mB_mSA, z_mI_mSB, z_mL_mSB, z_mA_mSB, z_mB_mSB]; rw [if_neg (fun e => by omega)]) rfl
    exact R0.trans (RD.q S0 (Q.refl h) W1 23 pc rc') (Nat.le_refl _) (Nat.le_refl _)
theorem RD.si (S0 : SX h G) (u : MS) (w pc rc' : Nat) {k : Nat} (hk : k = 12 ∨ (66 ≤ k ∧ k ≤ 70)) (x : Int32) : RD h u h (mSI u k x) G G w 23 pc rc' := RD.mm S0 (fun zz h1 h2 => (MD.refl u zz).sI (by omega)) (fun j hj => by simp only [z_mI_mSI, z_mL_mSI, z_mA_mSI, z_mB_mSI, z_mI_mSL, z_mL_mSL, z_mA_mSL, z_mB_mSL, z_mI_mSA, z_mL_mSA, z_mA_mSA, z_mB_mSA, z_mI_mSB, z_mL_mSB, z_mA_mSB, z_mB_mSB]; rw [if_neg (by omega)]) (fun _ _ _ _ _ _ => rfl) (fun _ _ _ _ _ => rfl) rfl
theorem FX.setD (X : FX h u G z w v L n D t p pc rc' q d S) (e : Nat) : FX h (mSI u 12 (nI e)) G z w v L n D t p pc rc' q e S := by
  have g : ∀ j, j ≠ 12 → mI (mSI u 12 (nI e)) j = mI u j := fun j hj => by simp only [z_mI_mSI, z_mL_mSI, z_mA_mSI, z_mB_mSI, z_mI_mSL, z_mL_mSL, z_mA_mSL, z_mB_mSL, z_mI_mSA, z_mL_mSA, z_mA_mSA, z_mB_mSA, z_mI_mSB, z_mL_mSB, z_mA_mSB, z_mB_mSB]; rw [if_neg hj]
  exact X.rd (RD.si X.i.sx u w pc rc' (by omega) _) (X.V.fr (fun _ _ => rfl) rfl (g 11 (by omega)) (g 13 (by omega))) (X.F.fr rfl rfl (g 15 (by omega)) (g 16 (by omega))) ⟨X.K.v3, X.K.w3, X.K.vc, (g 65 (by omega)).trans X.K.m65, X.K.m42, X.K.vl⟩ (Nat.le_refl _) (Nat.le_refl _) X.sz X.hp ((g 24 (by omega)).trans X.m24) X.b1 X.b2 ((g 70 (by omega)).trans X.s1) X.s2 (by simp only [z_mI_mSI, z_mL_mSI, z_mA_mSI, z_mB_mSI, z_mI_mSL, z_mL_mSL, z_mA_mSL, z_mB_mSL, z_mI_mSA, z_mL_mSA, z_mA_mSA, z_mB_mSA, z_mI_mSB, z_mL_mSB, z_mA_mSB, z_mB_mSB, if_true, if_false, and_false, false_and, and_true, true_and, and_self, decide_true, decide_false, reduceCtorEq, not_false_eq_true, not_true_eq_false, Nat.reduceEqDiff, Nat.reduceAdd, Nat.reduceMul, Nat.add_zero, Nat.zero_add])
/-- a bracket closed -/
theorem FX.pop {op : Nat} (X : FX h u G z w v L n D t p pc rc' q d (S ++ [op])) (hq : q' ≤ q) : FX h (mSI u 70 (nI S.length)) G z w v L n D t p pc rc' q' d S := by
  have g : ∀ j, j ≠ 70 → mI (mSI u 70 (nI S.length)) j = mI u j := fun j hj => by simp only [z_mI_mSI, z_mL_mSI, z_mA_mSI, z_mB_mSI, z_mI_mSL, z_mL_mSL, z_mA_mSL, z_mB_mSL, z_mI_mSA, z_mL_mSA, z_mA_mSA, z_mB_mSA, z_mI_mSB, z_mL_mSB, z_mA_mSB, z_mB_mSB]; rw [if_neg hj]
  have b2 := X.b2
  rw [List.length_append] at b2
  exact X.rd (RD.si X.i.sx u w pc rc' (by omega) _) (X.V.fr (fun _ _ => rfl) rfl (g 11 (by omega)) (g 13 (by omega))) (X.F.fr rfl rfl (g 15 (by omega)) (g 16 (by omega))) ⟨X.K.v3, X.K.w3, X.K.vc, (g 65 (by omega)).trans X.K.m65, X.K.m42, X.K.vl⟩ (Nat.le_refl _) (Nat.le_refl _) X.sz X.hp ((g 24 (by omega)).trans X.m24) (by have := X.b1; omega) (by omega) (by simp only [z_mI_mSI, z_mL_mSI, z_mA_mSI, z_mB_mSI, z_mI_mSL, z_mL_mSL, z_mA_mSL, z_mB_mSL, z_mI_mSA, z_mL_mSA, z_mA_mSA, z_mB_mSA, z_mI_mSB, z_mL_mSB, z_mA_mSB, z_mB_mSB, if_true, if_false, and_false, false_and, and_true, true_and, and_self, decide_true, decide_false, reduceCtorEq, not_false_eq_true, not_true_eq_false, Nat.reduceEqDiff, Nat.reduceAdd, Nat.reduceMul, Nat.add_zero, Nat.zero_add]) (fun i hi => by
    have := X.s2 i (by rw [List.length_append]; omega)
    rw [gdl_ _ _ _ _ hi] at this
    exact this) ((g 12 (by omega)).trans X.d1)
theorem unit_br (X : FX h u G z w v L n D t p pc rc' S.length d S) (e9 : (D t).2.1 = 9) (hf : 5000 ≤ f + t) (hd : d ≤ 8) (hk : k ≤ 2 * d + 2) (hS : S.length ≤ 3 * d + 2) (kF : PH → Nat → Int32 → Option (PH × Nat × Nat)) (fv : d < 8 → FV z w L n D p (d + 1) kF) (fd : FVd z w L n D kF) : GO h u G z w v L n D t p pc rc' d S k (k + 1) (1203 + 3 * (8 - d)) [] (TgB d t) (fX4_unit kF h 23 (nI d)) (fX12_expression_43 (fX12_expression_14 f) u 1) := by
  have S0 := X.i.sx
  have b := X.bp
  have b1 := X.b1
  have b2 := X.b2
  have x262 : ¬ hI h 521 23 = 262 := kd_n X.i X.V (kw := 3) (by omega) (by omega)
  have x40 : hI h 521 23 = 40 := kd_y X.V e9
  have is9 : fX12_is u 9 = some 1 := is_y X.i X.V (kw := 9) (by omega) e9
  obtain ⟨f1, rfl⟩ : ∃ f1, f = f1 + 1 := ⟨f - 1, by omega⟩
  have e8 : nI d = 8 ↔ d = 8 := nI_eq (b := 8) (by omega) (by omega)
  by_cases c8 : d = 8
  · have Xd := Ded.of X.V (by omega) (f := 2) (.inr rfl)
    have R1 : RD h u (stH h 2) (mSI (mSI u 13 2) 14 (nI (D t).1)) G G w 23 pc rc' := RD.q S0 (Q.st h 2) (W'.fa u 2 (nI (D t).1)) 23 pc rc'
    have S1 := R1.sx
    have R2 : RD (stH h 2) (mSI (mSI u 13 2) 14 (nI (D t).1)) (stH h 2) (mSI (mSI (mSI u 13 2) 14 (nI (D t).1)) 12 (mI (mSI (mSI u 13 2) 14 (nI (D t).1)) 12 + 1)) G G w 23 pc rc' := RD.si S1 _ w pc rc' (by omega) _
    have s70 : mI (mSI (mSI (mSI u 13 2) 14 (nI (D t).1)) 12 (mI (mSI (mSI u 13 2) 14 (nI (D t).1)) 12 + 1)) 70 = nI S.length := by
      simp only [z_mI_mSI, z_mL_mSI, z_mA_mSI, z_mB_mSI, z_mI_mSL, z_mL_mSL, z_mA_mSL, z_mB_mSL, z_mI_mSA, z_mL_mSA, z_mA_mSA, z_mB_mSA, z_mI_mSB, z_mL_mSB, z_mA_mSB, z_mB_mSB, if_true, if_false, and_false, false_and, and_true, true_and, and_self, decide_true, decide_false, reduceCtorEq, not_false_eq_true, not_true_eq_false, Nat.reduceEqDiff, Nat.reduceAdd, Nat.reduceMul, Nat.add_zero, Nat.zero_add]; exact X.s1
    obtain ⟨u3, e3, X3, R3⟩ := stacks_d S1 (Xd.i2 (k := 12) (by omega) (mI (mSI (mSI u 13 2) 14 (nI (D t).1)) 12 + 1)) s70 (by omega) 9 w pc rc'
    have hN' : hN (stH h 2) = hN h := (Q.st h 2).N
    refine ⟨stH h 2, G, 0, 0, u3, ?_, RC.n hN', (R1.trans R2 (Nat.le_refl _) (Nat.le_refl _)).trans R3 (Nat.le_refl _) (Nat.le_refl _), .inr ⟨?_, X3, pc, ((Q.st h 2).I _ _ (by omega)).trans X.sz, by rw [hN']; exact X.hp, Nat.le_refl _, by omega⟩⟩
    · unfold fX4_unit fX4_unit_0
      rw [oC_d S0.t23, if_neg x262, if_pos x40, if_neg (show ¬ nI d < 8 from nI_nlt (b := 8) (by omega) (by omega)), stopAt_v X.i X.V, oB_v]
    · unfold fX12_expression_43
      rw [is9, oB_v, if_neg (by decide), X.d1, if_pos (e8.mpr c8), fail_v X.i X.V, oB_v]
      unfold fX12_expression_68
      rw [oL_v, e3, oB_v, end14_d X3]
  · have n8 : ¬ mI u 12 = 8 := by rw [X.d1]; exact fun q => c8 (e8.mp q)
    have X0 := X.setD (d + 1)
    have c40 : cK 9 = 40 := rfl
    have c41 : cK 10 = 41 := rfl
    obtain ⟨h1, u1, r1, e1, e2, N1, R1, Q1, o1⟩ := push_v X0 (by omega) 9 (E := fX4_expect h 23 (cK 9)) (fun I V F => pass_v I V F (kw := 9) (by omega) (by omega) (by omega) e9)
    rw [c40] at e1
    have e2' : fX12_stacks (mSI u 12 (nI (d + 1))) 9 = some u1 := e2
    have R01 : RD h u h1 u1 G G w 23 pc rc' := (RD.si S0 u w pc rc' (k := 12) (by omega) _).trans R1 (Nat.le_refl _) (Nat.le_refl _)
    have S1 := R01.sx
    have hM : fX12_expression_43 (fX12_expression_14 (f1 + 1)) u 1 = fX12_expression_14 (f1 + 1) u1 1 1 := by
      unfold fX12_expression_43
      rw [is9, oB_v, if_neg (by decide), if_neg n8]
      unfold fX12_expression_68
      rw [X.d1, nI_1, oL_v, e2', oB_v]
    have hC : ∀ {h2 h3 : PH} {i2 j2 : Nat} {r3 : Int32}, kF h1 23 (nI (d + 1)) = some (h2, i2, j2) → hT h2 23 = 5 → fX4_expect h2 23 41 = some (h3, r3) → fX4_unit kF h 23 (nI d) = some (h3, i2 + 0, j2 + 0) := fun {h2 h3 i2 j2 r3} q1 q2 q3 => by
      unfold fX4_unit fX4_unit_0
      rw [oC_d S0.t23, if_neg x262, if_pos x40, if_pos (show nI d < 8 from nI_lt (b := 8) (by omega) (by omega)), e1, oB2_v, oC_d S1.t23, nI_1, q1, oB3_v, oC_d q2, q3, oB2_v, oK3_v]
    have fm0 : FM u (mSI u 12 (nI (d + 1))) := FM.of (by simp only [z_mI_mSI, z_mL_mSI, z_mA_mSI, z_mB_mSI, z_mI_mSL, z_mL_mSL, z_mA_mSL, z_mB_mSL, z_mI_mSA, z_mL_mSA, z_mA_mSA, z_mB_mSA, z_mI_mSB, z_mL_mSB, z_mA_mSB, z_mB_mSB, if_true, if_false, and_false, false_and, and_true, true_and, and_self, decide_true, decide_false, reduceCtorEq, not_false_eq_true, not_true_eq_false, Nat.reduceEqDiff, Nat.reduceAdd, Nat.reduceMul, Nat.add_zero, Nat.zero_add]) (by simp only [z_mI_mSI, z_mL_mSI, z_mA_mSI, z_mB_mSI, z_mI_mSL, z_mL_mSL, z_mA_mSL, z_mB_mSL, z_mI_mSA, z_mL_mSA, z_mA_mSA, z_mB_mSA, z_mI_mSB, z_mL_mSB, z_mA_mSB, z_mB_mSB, if_true, if_false, and_false, false_and, and_true, true_and, and_self, decide_true, decide_false, reduceCtorEq, not_false_eq_true, not_true_eq_false, Nat.reduceEqDiff, Nat.reduceAdd, Nat.reduceMul, Nat.add_zero, Nat.zero_add])
    rcases o1 with ⟨_, fm1, X1⟩ | ⟨_, X1⟩
    · have hl : (S ++ [9]).length = S.length + 1 := by rw [List.length_append]; rfl
      have X1' : FX h1 u1 G z w v L n D (t + 1) p pc rc' (S ++ [9]).length (d + 1) (S ++ [9]) := by rw [hl]; exact X1
      obtain ⟨h2, G2, i2, j2, u2, eF, C2, R2, o2⟩ := fv (by omega) h1 u1 G v (t + 1) pc rc' (S ++ [9]) k f1 X1' (by omega) (by omega) (by omega) (by rw [hl]; omega) (.inr ⟨S, rfl⟩)
      have S2 := R2.sx
      have R02 := R01.trans R2 (Nat.le_refl _) (Nat.le_refl _)
      have C02 : RC h h2 G G2 i2 j2 := RC.q N1 C2
      rcases o2 with ⟨t2, v2, pc2, rc2, ⟨f2, g2, eM, hf2, hg2⟩, q1, q2, q3, q4, X2, fm2, E2⟩ | ⟨eM, Xd, pc2, z2, p2, q1, q2⟩
      · obtain ⟨h3, u3, r3, e5, e6, Q3, W3, o3⟩ := want_v X2.i X2.V X2.F (k := 10) (by omega) (by omega) (by omega)
        rw [c41] at e5
        have e6' : fX12_must u2 10 = some u3 := e6
        have R3 : RD h2 u2 h3 u3 G2 G2 w 23 pc2 rc2 := RD.q S2 Q3 W3 23 pc2 rc2
        have S3 := R3.sx
        have s70 : mI u3 70 = nI (S.length + 1) := (W3.I 70 (by omega)).trans (by rw [X2.s1, hl])
        have s12 : mI (mSI u3 70 (nI S.length)) 12 = nI (d + 1) := by simp only [z_mI_mSI, z_mL_mSI, z_mA_mSI, z_mB_mSI, z_mI_mSL, z_mL_mSL, z_mA_mSL, z_mB_mSL, z_mI_mSA, z_mL_mSA, z_mA_mSA, z_mB_mSA, z_mI_mSB, z_mL_mSB, z_mA_mSB, z_mB_mSB, if_true, if_false, and_false, false_and, and_true, true_and, and_self, decide_true, decide_false, reduceCtorEq, not_false_eq_true, not_true_eq_false, Nat.reduceEqDiff, Nat.reduceAdd, Nat.reduceMul, Nat.add_zero, Nat.zero_add]; exact (W3.I 12 (by omega)).trans X2.d1
        have sb : ∀ m, nI (m + 1) - 1 = nI m := fun m => by rw [show (1 : Int32) = nI 1 from rfl, nI_sub (by omega)]; rfl
        have eM3 : fX12_expression_43 (fX12_expression_14 (f1 + 1)) u 1 = fX12_expression_95 (fX12_expression_14 f2) g2 (mSI (mSI u3 70 (nI S.length)) 12 (nI d)) 0 1 1 := by
          rw [hM, eM]
          unfold fC
          rw [X2.s1, hl, if_neg (show ¬ nI (S.length + 1) ≤ 0 from nI_ge (a := 0) (by omega) (by omega))]
          unfold fX12_expression_187
          rw [if_neg (by decide), e6', oB_v, s70, sb, oL_v, s12, sb, oL_v]
        have R4 : RD h2 u2 h3 (mSI (mSI u3 70 (nI S.length)) 12 (nI d)) G2 G2 w 23 pc2 rc2 := (R3.trans (RD.si S3 u3 w pc2 rc2 (k := 70) (by omega) _) (Nat.le_refl _) (Nat.le_refl _)).trans (RD.si S3 _ w pc2 rc2 (k := 12) (by omega) _) (Nat.le_refl _) (Nat.le_refl _)
        refine ⟨h3, G2, i2 + 0, j2 + 0, mSI (mSI u3 70 (nI S.length)) 12 (nI d), hC eF S2.t23 e5, C02.trans (RC.n Q3.N), R02.trans R4 q3 q4, ?_⟩
        rcases o3 with ⟨_, _, c3, V3, F3, M3⟩ | ⟨_, X3⟩
        · have X3 : FX h3 u3 G2 z w v2 L n D (t2 + 1) p pc2 rc2 S.length (d + 1) (S ++ [9]) := X2.mv Q3 W3 V3 F3 (by omega) (by rw [hl]; omega)
          have X4 := (X3.pop (q' := S.length) (Nat.le_refl _)).setD d
          have fm4 : FM u3 (mSI (mSI u3 70 (nI S.length)) 12 (nI d)) := FM.of (by simp only [z_mI_mSI, z_mL_mSI, z_mA_mSI, z_mB_mSI, z_mI_mSL, z_mL_mSL, z_mA_mSL, z_mB_mSL, z_mI_mSA, z_mL_mSA, z_mA_mSA, z_mB_mSA, z_mI_mSB, z_mL_mSB, z_mA_mSB, z_mB_mSB, if_true, if_false, and_false, false_and, and_true, true_and, and_self, decide_true, decide_false, reduceCtorEq, not_false_eq_true, not_true_eq_false, Nat.reduceEqDiff, Nat.reduceAdd, Nat.reduceMul, Nat.add_zero, Nat.zero_add]) (by simp only [z_mI_mSI, z_mL_mSI, z_mA_mSI, z_mB_mSI, z_mI_mSL, z_mL_mSL, z_mA_mSL, z_mB_mSL, z_mI_mSA, z_mL_mSA, z_mA_mSA, z_mB_mSA, z_mI_mSB, z_mL_mSB, z_mA_mSB, z_mB_mSB, if_true, if_false, and_false, false_and, and_true, true_and, and_self, decide_true, decide_false, reduceCtorEq, not_false_eq_true, not_true_eq_false, Nat.reduceEqDiff, Nat.reduceAdd, Nat.reduceMul, Nat.add_zero, Nat.zero_add])
          refine .inl ⟨t2 + 1, v2, pc2, rc2, ⟨by omega, f2, g2, eM3, by omega, by omega⟩, by omega, q2, q3, q4, X4, (fm0.trans fm1).trans ((fm2.trans M3).trans fm4), fun e0 => ?_⟩
          have e0' : mI u2 15 = 0 := FM.z X2.F (M3.trans fm4) e0
          obtain ⟨e, a1, a2, a3, a4, a5, a6⟩ := E2 e0'
          exact ⟨e, a1, a2, a3, a4, a5.rd R4 (by omega), a6.rd R4 (by omega)⟩
        · have X4 : Ded h3 (mSI (mSI u3 70 (nI S.length)) 12 (nI d)) := (X3.i2 (k := 70) (by omega) _).i2 (k := 12) (by omega) _
          obtain ⟨f3, rfl⟩ : ∃ f3, f2 = f3 + 1 := ⟨f2 - 1, by have := X2.bp; omega⟩
          obtain ⟨g3, rfl⟩ : ∃ g3, g2 = g3 + 1 := ⟨g2 - 1, by omega⟩
          have := X2.b1
          have := X2.bp
          exact .inr ⟨by rw [eM3, end95_d X4], X4, pc2, (Q3.I _ _ (by omega)).trans X2.sz, by rw [Q3.N]; exact X2.hp, q3, by omega⟩
      · have ed := expect_d S2 Xd (k := 10) (by omega) (by omega)
        rw [c41] at ed
        exact ⟨h2, G2, i2 + 0, j2 + 0, u2, hC eF S2.t23 ed, C02, R02, .inr ⟨by rw [hM, eM], Xd, pc2, z2, p2, q1, by omega⟩⟩
    · have dx : DX h1 u1 G z L n D pc := X.dx R01 X1 ((Q1.I _ _ (by omega)).trans X.sz) (by rw [N1]; exact X.hp)
      obtain ⟨h2, G2, i2, j2, pc2, eF, C2, R2, X2, q1, q2⟩ := fd h1 u1 G pc rc' (nI (d + 1)) dx X.hw X.zp X.zr (by omega)
      have S2 := R2.sx
      have ed := expect_d S2 X2.X (k := 10) (by omega) (by omega)
      rw [c41] at ed
      exact ⟨h2, G2, i2 + 0, j2 + 0, u1, hC eF S2.t23 ed, RC.q N1 C2, R01.trans R2 (Nat.le_refl _) (Nat.le_refl _), .inr ⟨by rw [hM, end14_d X1], X2.X, pc2, X2.sz, X2.hp, q1, by omega⟩⟩
/-- a unit -/
theorem unit_v (hd : d ≤ 8) (kF : PH → Nat → Int32 → Option (PH × Nat × Nat)) (fv : d < 8 → FV z w L n D p (d + 1) kF) (fd : FVd z w L n D kF) : UV z w L n D p d kF := by
  intro h u G v t pc rc' S k f X ht hf hk hS
  by_cases c3 : (D t).2.1 = 3
  · exact unit_int X c3 hf hd (by omega) kF
  · by_cases c9 : (D t).2.1 = 9
    · exact unit_br X c9 hf hd hk hS kF fv fd
    · exact unit_term X c3 c9 hf hd (by omega) kF
end BR
