def cmp2 (a : Nat) (h : PH) : Option (PH × Nat × Nat) := oC (decide (hT h 23 = 5)) (oN (hR h 512 23) (fun a38 => oC (decide (hT h a38 = 2)) (oC (decide (hT h a = 3)) (oL (sI h 262 a (hI h 142 a38)) (fun h41 => oL (sI h41 256 a (hI h41 521 23)) (fun h44 => oL (hI h44 256 a) (fun y46 => if y46 = 60 then (fX4_comparison_88 h44 23 (some a)) else (if y46 = 257 then (fX4_comparison_88 h44 23 (some a)) else (if y46 = 258 then (fX4_comparison_88 h44 23 (some a)) else (if y46 = 259 then (fX4_comparison_88 h44 23 (some a)) else (oB (fX4_stopAt h44 23 1) (fun h53 => fX4_comparison_105 h53 23 (some a)))))))))))))
def cmp1 (a : Nat) (h : PH) : Option (PH × Nat × Nat) := oC (decide (hT h 23 = 5)) (oN (hR h 512 23) (fun a25 => oC (decide (hT h a25 = 2)) (oC (decide (hT h a = 3)) (oL (sI h 261 a (hI h 142 a25)) (fun h29 => oB3 (fX4_formula 12 h29 23 0) (fun h32 i33 j34 => oK3 i33 j34 (cmp2 a h32)))))))
def cM4 (u : MS) (x : Int32) : Option MS := oB (fX12_expression u) (fun h27 => oC (ix x (mlen 59)) (oL (mSA h27 59 (Int32.toNatClampNeg x) (mI h27 24)) (fun h29 => fX12_tellCond_356 h29)))
def cM2 (u : MS) (x : Int32) : Option MS := oC (ix x (mlen 58)) (oL (mSA u 58 (Int32.toNatClampNeg x) (mI u 24)) (fun h70 => if (mI h70 13) = 0 then (oC (ix (mI h70 11) (mlen 5)) (if (mA h70 5 (Int32.toNatClampNeg (mI h70 11))) < 16 then (fX12_tellCond_253 h70 x) else (oC (ix (mI h70 11) (mlen 5)) (if (mA h70 5 (Int32.toNatClampNeg (mI h70 11))) ≤ 19 then (fX12_tellCond_258 h70 x) else (fX12_tellCond_253 h70 x))))) else (fX12_tellCond_258 h70 x)))
def cM1 (u : MS) (x : Int32) : Option MS := oC (ix x (mlen 57)) (oL (mSA u 57 (Int32.toNatClampNeg x) (mI u 24)) (fun h66 => oB (fX12_expression h66) (fun h68 => cM2 h68 x)))
/-- a piece of the class behind a stop, the object a of rule w -/
def DC (h : PH) (u : MS) (G : Gh) (z : Sz) (w L n : Nat) (D : Nat → Nat × Nat × Nat × List Nat) (pc m : Nat) (F : Option (PH × Nat × Nat)) : Prop := ∃ h' G' i j pc', F = some (h', i, j) ∧ RC h h' G G' i j ∧ DD h u h' u G G' z w ∧ Ded h' u ∧ hI h' 142 5 = nI pc' ∧ pc' ≤ hN h' G'.pg ∧ pc ≤ pc' ∧ pc' ≤ pc + m
/-- a formula's steps, as they stand in both programs -/
theorem pgr_of {h : PH} {u : MS} {G : Gh} {c : Sz} {v pc pc' r r' : Nat} (E : EMt h u G c.np v pc r pc' r' 0 1 []) : PgR h u G (c.wC pc' r') v (nI pc) (nI pc') (nI r) (nI r') := by
  obtain ⟨e, a1, a2, a3, a4, a5, a6⟩ := E
  have a4' : r' = r + (rc e).length := a4
  exact ⟨e, pc, r, ⟨a1, a2⟩, rfl, by rw [a3], rfl, by rw [a4'], by show _ ≤ pc'; omega, by show _ ≤ r'; omega, a5, a6⟩
section CP
variable {h h' : PH} {u u' : MS} {G G' : Gh} {z c : Sz} {w v v' L n t t' pc rc pc' rc' y kc k a B : Nat} {D : Nat → Nat × Nat × Nat × List Nat}
theorem OB.rd (ob : OB G w a) (la : a < hZ h) (R : RD h u h' u' G G' w kc pc rc) : OB G' w a := by
  have e := R.c0.gd.ow a la
  unfold OB at *
  rw [e]
  exact ob
theorem DR.sI (X : DR h u G z w L n D pc B) (ob : OB G w a) (f : Nat) (hf : 256 ≤ f ∧ f ≤ 263) (x : Int32) : DR (sI h f a x) u G z w L n D pc B := by
  have S := X.d.i.sx
  have a5 : 5 ≠ a := ob.ne X.w3 S.o5 (by omega)
  exact X.dd ((RD.ld S (LD.sI (u := u) S ob X.w3 f hf x) z.pc z.rc).dd S (.inr ob) X.w3 (Nat.le_refl _) (Nat.le_refl _)) (X.d.X.setC S ob X.w3 f x) (by simp only [z_hI_sI, z_hL_sI, z_hR_sI, z_hA_sI, z_hB_sI, z_hC_sI, z_hT_sI, z_hN_sI, z_hZ_sI, z_hI_sL, z_hL_sL, z_hR_sL, z_hA_sL, z_hB_sL, z_hC_sL, z_hT_sL, z_hN_sL, z_hZ_sL, z_hI_sR, z_hL_sR, z_hR_sR, z_hA_sR, z_hB_sR, z_hC_sR, z_hT_sR, z_hN_sR, z_hZ_sR, z_hI_sA, z_hL_sA, z_hR_sA, z_hA_sA, z_hB_sA, z_hC_sA, z_hT_sA, z_hN_sA, z_hZ_sA, z_hI_sB, z_hL_sB, z_hR_sB, z_hA_sB, z_hB_sB, z_hC_sB, z_hT_sB, z_hN_sB, z_hZ_sB, z_hI_sC, z_hL_sC, z_hR_sC, z_hA_sC, z_hB_sC, z_hC_sC, z_hT_sC, z_hN_sC, z_hZ_sC, z_hI_sY, z_hL_sY, z_hR_sY, z_hA_sY, z_hB_sY, z_hC_sY, z_hT_sY, z_hN_sY, z_hZ_sY, z_hI_nO, z_hL_nO, z_hR_nO, z_hA_nO, z_hB_nO, z_hC_nO, z_hT_nO, z_hN_nO, z_hZ_nO, z_hI_nA, z_hL_nA, z_hR_nA, z_hA_nA, z_hB_nA, z_hC_nA, z_hT_nA, z_hN_nA, z_hZ_nA]; rw [if_neg (fun q => a5 q.2)]; exact X.d.sz) X.d.hp (Nat.le_refl _) X.pb
theorem formula12_d (X : DR h u G z w L n D pc B) (hB : B ≤ 2000) : DO h u G z w L n D pc z.rc 2 (fX4_formula 12 h 23 0) := formula_d X.d X.hw X.zp (Nat.le_refl _) (by have := X.pb; have := X.zb; omega) (fX4_formula 11) 0
theorem c105_d (X : DR h u G z w L n D pc B) (hB : B ≤ 2000) (ta : hT h a = 3) (ob : OB G w a) : DC h u G z w L n D pc 2 (fX4_comparison_105 h 23 (some a)) := by
  have S := X.d.i.sx
  have w3 := X.w3
  have la := S.lt ta (by omega)
  obtain ⟨h1, G1, i1, j1, pc1, e1, C1, R1, X1, q1, q2⟩ := formula12_d X hB
  have S1 := X1.i.sx
  have ob1 := ob.rd la R1
  have a5 : 5 ≠ a := ob1.ne w3 S1.o5 (by omega)
  have ta1 : hT h1 a = 3 := (R1.T a la).trans ta
  have T1 : LD h1 u (sI h1 263 a (nI pc1)) u G1 w a := LD.sI S1 ob1 w3 263 (by omega) _
  refine ⟨sI h1 263 a (nI pc1), G1, i1 + 0, j1 + 0, pc1, ?_, C1, (R1.dd S (.inl rfl) w3 X.zp (Nat.le_refl _)).trans ((RD.ld S1 T1 pc1 z.rc).dd S1 (.inr ob1) w3 (by have := X.zp; omega) (Nat.le_refl _)), X1.X.setC S1 ob1 w3 263 _, by simp only [z_hI_sI, z_hL_sI, z_hR_sI, z_hA_sI, z_hB_sI, z_hC_sI, z_hT_sI, z_hN_sI, z_hZ_sI, z_hI_sL, z_hL_sL, z_hR_sL, z_hA_sL, z_hB_sL, z_hC_sL, z_hT_sL, z_hN_sL, z_hZ_sL, z_hI_sR, z_hL_sR, z_hR_sR, z_hA_sR, z_hB_sR, z_hC_sR, z_hT_sR, z_hN_sR, z_hZ_sR, z_hI_sA, z_hL_sA, z_hR_sA, z_hA_sA, z_hB_sA, z_hC_sA, z_hT_sA, z_hN_sA, z_hZ_sA, z_hI_sB, z_hL_sB, z_hR_sB, z_hA_sB, z_hB_sB, z_hC_sB, z_hT_sB, z_hN_sB, z_hZ_sB, z_hI_sC, z_hL_sC, z_hR_sC, z_hA_sC, z_hB_sC, z_hC_sC, z_hT_sC, z_hN_sC, z_hZ_sC, z_hI_sY, z_hL_sY, z_hR_sY, z_hA_sY, z_hB_sY, z_hC_sY, z_hT_sY, z_hN_sY, z_hZ_sY, z_hI_nO, z_hL_nO, z_hR_nO, z_hA_nO, z_hB_nO, z_hC_nO, z_hT_nO, z_hN_nO, z_hZ_nO, z_hI_nA, z_hL_nA, z_hR_nA, z_hA_nA, z_hB_nA, z_hC_nA, z_hT_nA, z_hN_nA, z_hZ_nA]; rw [if_neg (fun q => a5 q.2)]; exact X1.sz, X1.hp, q1, q2⟩
  unfold fX4_comparison_105
  rw [oC_d S.t23, e1, oB3_v, oC_d S1.t23, S1.r512_23, oN_v, oC_d S1.t5, oN_v, oC_d ta1, X1.sz, oL_v, oK3_v]
theorem cmp2_d (X : DR h u G z w L n D pc B) (hB : B ≤ 2000) (ta : hT h a = 3) (ob : OB G w a) : DC h u G z w L n D pc 2 (cmp2 a h) := by
  have S := X.d.i.sx
  have w3 := X.w3
  have n23 := ob.n23 S w3
  have Y1 := X.sI ob 262 (by omega) (nI pc)
  have Y2 := Y1.sI ob 256 (by omega) 264
  have S2 := Y2.d.i.sx
  have k1 : hI (sI h 262 a (nI pc)) 521 23 = 264 := Y1.d.X.kd
  have k2 : hI (sI (sI h 262 a (nI pc)) 256 a 264) 256 a = 264 := by simp only [z_hI_sI, z_hL_sI, z_hR_sI, z_hA_sI, z_hB_sI, z_hC_sI, z_hT_sI, z_hN_sI, z_hZ_sI, z_hI_sL, z_hL_sL, z_hR_sL, z_hA_sL, z_hB_sL, z_hC_sL, z_hT_sL, z_hN_sL, z_hZ_sL, z_hI_sR, z_hL_sR, z_hR_sR, z_hA_sR, z_hB_sR, z_hC_sR, z_hT_sR, z_hN_sR, z_hZ_sR, z_hI_sA, z_hL_sA, z_hR_sA, z_hA_sA, z_hB_sA, z_hC_sA, z_hT_sA, z_hN_sA, z_hZ_sA, z_hI_sB, z_hL_sB, z_hR_sB, z_hA_sB, z_hB_sB, z_hC_sB, z_hT_sB, z_hN_sB, z_hZ_sB, z_hI_sC, z_hL_sC, z_hR_sC, z_hA_sC, z_hB_sC, z_hC_sC, z_hT_sC, z_hN_sC, z_hZ_sC, z_hI_sY, z_hL_sY, z_hR_sY, z_hA_sY, z_hB_sY, z_hC_sY, z_hT_sY, z_hN_sY, z_hZ_sY, z_hI_nO, z_hL_nO, z_hR_nO, z_hA_nO, z_hB_nO, z_hC_nO, z_hT_nO, z_hN_nO, z_hZ_nO, z_hI_nA, z_hL_nA, z_hR_nA, z_hA_nA, z_hB_nA, z_hC_nA, z_hT_nA, z_hN_nA, z_hZ_nA, if_true, if_false, and_false, false_and, and_true, true_and, and_self, decide_true, decide_false, reduceCtorEq, not_false_eq_true, not_true_eq_false, Nat.reduceEqDiff, Nat.reduceAdd, Nat.reduceMul, Nat.add_zero, Nat.zero_add]
  obtain ⟨h1, G1, i1, j1, pc1, e1, C1, D1, X1, q1, q2, q3, q4⟩ := c105_d Y2 hB ta ob
  have T2 : LD h u (sI (sI h 262 a (nI pc)) 256 a 264) u G w a := (LD.sI S ob w3 262 (by omega) _).trans (LD.sI (h := sI h 262 a (nI pc)) S ob w3 256 (by omega) _)
  refine ⟨h1, G1, i1, j1, pc1, ?_, RC.q (h1 := sI (sI h 262 a (nI pc)) 256 a 264) rfl C1, ((RD.ld S T2 pc z.rc).dd S (.inr ob) w3 X.zp (Nat.le_refl _)).trans D1, X1, q1, q2, q3, q4⟩
  unfold cmp2
  rw [oC_d S.t23, S.r512_23, oN_v, oC_d S.t5, oC_d ta, X.d.sz, oL_v, k1, oL_v, k2, oL_v, if_neg (by decide), if_neg (by decide), if_neg (by decide), if_neg (by decide), stopAt_d S2 Y2.d.X, oB_v, e1]
theorem cmp1_d (X : DR h u G z w L n D pc B) (hB : B + 2 ≤ 2000) (ta : hT h a = 3) (ob : OB G w a) : DC h u G z w L n D pc 4 (cmp1 a h) := by
  have S := X.d.i.sx
  have w3 := X.w3
  have la := S.lt ta (by omega)
  have Y1 := X.sI ob 261 (by omega) (nI pc)
  have T1 : LD h u (sI h 261 a (nI pc)) u G w a := LD.sI S ob w3 261 (by omega) _
  obtain ⟨h1, G1, i1, j1, pc1, e1, C1, R1, X1, q1, q2⟩ := formula12_d Y1 (by omega)
  have S1 := X1.i.sx
  have ob1 := ob.rd (h := sI h 261 a (nI pc)) la R1
  have ta1 : hT h1 a = 3 := (R1.T a la).trans ta
  have D1 : DD (sI h 261 a (nI pc)) u h1 u G G1 z w := R1.dd (h := sI h 261 a (nI pc)) S (.inl rfl) w3 X.zp (Nat.le_refl _)
  have Y2 : DR h1 u G1 z w L n D pc1 (B + 2) := Y1.dd D1 X1.X X1.sz X1.hp q1 (by have := X.pb; omega)
  obtain ⟨h2, G2, i2, j2, pc2, e2, C2, D2, X2, q3, q4, q5, q6⟩ := cmp2_d Y2 (by omega) ta1 ob1
  refine ⟨h2, G2, i1 + i2, j1 + j2, pc2, ?_, RC.q (h1 := sI h 261 a (nI pc)) rfl (C1.trans C2), (((RD.ld S T1 pc z.rc).dd S (.inr ob) w3 X.zp (Nat.le_refl _)).trans D1).trans D2, X2, q3, q4, by omega, by omega⟩
  unfold cmp1
  rw [oC_d S.t23, S.r512_23, oN_v, oC_d S.t5, oC_d ta, X.d.sz, oL_v, e1, oB3_v, e2, oK3_v]
/-! the reference behind a stop -/
theorem DD.a1 (S : SX h G) {j : Nat} (hj : 51 ≤ j ∧ j ≤ 59) (x : Int32) : DD h u h (mSA u j (6 * w + k) x) G G z w := RMs.dd S (k := k) ((RMs.refl u w k).sA (.inl ⟨hj.1, hj.2, rfl⟩))
theorem cM4_d (S : SX h G) (X : Ded h u) (m65 : mI u 65 = nI w) (w3 : w < 30) (h6 : k < 6) : ∃ u', cM4 u (nI (6 * w + k)) = some u' ∧ DD h u h u' G G z w ∧ Ded h u' := by
  obtain ⟨e1, X1⟩ := express_d X
  have cl : (nI (6 * w + k)).toNatClampNeg = 6 * w + k := nI_clamp (show 6 * w + k < 2147483648 by omega)
  have m1 : mI (mSA (mSI (mSI u 70 0) 12 0) 59 (6 * w + k) (mI (mSI (mSI u 70 0) 12 0) 24)) 65 = nI w := m65
  refine ⟨mSA (mSA (mSI (mSI u 70 0) 12 0) 59 (6 * w + k) (mI (mSI (mSI u 70 0) 12 0) 24)) 41 w (mA (mSA (mSI (mSI u 70 0) 12 0) 59 (6 * w + k) (mI (mSI (mSI u 70 0) 12 0) 24)) 41 w + 1), ?_, (((RD.si S u w z.pc z.rc (k := 70) (by omega) 0).trans (RD.si S _ w z.pc z.rc (k := 12) (by omega) 0) (Nat.le_refl _) (Nat.le_refl _)).dd S (.inl rfl) w3 (Nat.le_refl _) (Nat.le_refl _)).trans ((DD.a1 S (k := k) (j := 59) (by omega) (mI (mSI (mSI u 70 0) 12 0) 24)).trans (DD.of41 S _)), (X1.a2 59 (6 * w + k) _).a2 41 w _⟩
  unfold cM4
  rw [e1, oB_v, oC_t (i6 w3 h6 (by decide)), oL_v, cl, t356_v m1 w3]
theorem c283_h (u : MS) (w3 : w < 30) (h6 : k < 6) (s : Int32) : fX12_tellCond_283 u (nI (6 * w + k)) s (nI (6 * w + k)) = oB (fX12_next (mSA u 56 (6 * w + k) s)) (fun h25 => cM4 h25 (nI (6 * w + k))) := by
  have cl : (nI (6 * w + k)).toNatClampNeg = 6 * w + k := nI_clamp (show 6 * w + k < 2147483648 by omega)
  unfold fX12_tellCond_283 cM4
  rw [oC_t (i6 w3 h6 (by decide)), oL_v, cl]
theorem c258_d (S : SX h G) (X : Ded h u) (m65 : mI u 65 = nI w) (w3 : w < 30) (h6 : k < 6) : ∃ u', fX12_tellCond_258 u (nI (6 * w + k)) = some u' ∧ DD h u h u' G G z w ∧ Ded h u' := by
  obtain ⟨u1, e1, W1, X1⟩ := next_d (X.a2 56 (6 * w + k) 0)
  have m1 : mI u1 65 = nI w := (W1.I 65 (by omega)).trans m65
  obtain ⟨u2, e2, D2, X2⟩ := cM4_d (z := z) S X1 m1 w3 h6
  refine ⟨u2, ?_, ((DD.a1 S (k := k) (j := 56) (by omega) 0).trans ((RD.q S (Q.refl h) W1 23 z.pc z.rc).dd S (.inl rfl) w3 (Nat.le_refl _) (Nat.le_refl _))).trans D2, X2⟩
  unfold fX12_tellCond_258
  rw [if_neg X.f.2.1, c283_h u w3 h6, e1, oB_v, e2]
theorem cM2_d (S : SX h G) (X : Ded h u) (m65 : mI u 65 = nI w) (w3 : w < 30) (h6 : k < 6) : ∃ u', cM2 u (nI (6 * w + k)) = some u' ∧ DD h u h u' G G z w ∧ Ded h u' := by
  have cl : (nI (6 * w + k)).toNatClampNeg = 6 * w + k := nI_clamp (show 6 * w + k < 2147483648 by omega)
  have X1 := X.a2 58 (6 * w + k) (mI u 24)
  have m1 : mI (mSA u 58 (6 * w + k) (mI u 24)) 65 = nI w := m65
  obtain ⟨u2, e2, D2, X2⟩ := c258_d (z := z) S X1 m1 w3 h6
  refine ⟨u2, ?_, (DD.a1 S (k := k) (j := 58) (by omega) (mI u 24)).trans D2, X2⟩
  unfold cM2
  rw [oC_t (i6 w3 h6 (by decide)), oL_v, cl, if_neg X1.f.1, e2]
theorem cM1_d (S : SX h G) (X : Ded h u) (m65 : mI u 65 = nI w) (w3 : w < 30) (h6 : k < 6) : ∃ u', cM1 u (nI (6 * w + k)) = some u' ∧ DD h u h u' G G z w ∧ Ded h u' := by
  have cl : (nI (6 * w + k)).toNatClampNeg = 6 * w + k := nI_clamp (show 6 * w + k < 2147483648 by omega)
  obtain ⟨e1, X1⟩ := express_d (X.a2 57 (6 * w + k) (mI u 24))
  have m1 : mI (mSI (mSI (mSA u 57 (6 * w + k) (mI u 24)) 70 0) 12 0) 65 = nI w := m65
  obtain ⟨u2, e2, D2, X2⟩ := cM2_d (z := z) S X1 m1 w3 h6
  refine ⟨u2, ?_, ((DD.a1 S (k := k) (j := 57) (by omega) (mI u 24)).trans (((RD.si S _ w z.pc z.rc (k := 70) (by omega) 0).trans (RD.si S _ w z.pc z.rc (k := 12) (by omega) 0) (Nat.le_refl _) (Nat.le_refl _)).dd S (.inl rfl) w3 (Nat.le_refl _) (Nat.le_refl _))).trans D2, X2⟩
  unfold cM1
  rw [oC_t (i6 w3 h6 (by decide)), oL_v, cl, e1, oB_v, e2]
end CP
