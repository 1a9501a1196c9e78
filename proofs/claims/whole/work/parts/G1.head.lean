/-! heads -/
def tk5 (a : Nat) (h : PH) : Option (PH × Nat × Nat) := oC (decide (hT h 23 = 5)) (oC (decide (hT h a = 3)) (oL (sI h 256 a (hI h 521 23)) (fun h52 => oL (hI h52 256 a) (fun y54 => if y54 = 42 then (fX4_takeHead_96 h52 23 (some a)) else (if y54 = 43 then (fX4_takeHead_96 h52 23 (some a)) else (if y54 = 312 then (fX4_takeHead_96 h52 23 (some a)) else (if y54 = 313 then (fX4_takeHead_96 h52 23 (some a)) else (oB (fX4_stopAt h52 23 1) (fun h61 => fX4_takeHead_113 h61 23 (some a))))))))))
def tk4 (a : Nat) (h : PH) : Option (PH × Nat × Nat) := oC (decide (hT h 23 = 5)) (oB2 (fX4_expect h 23 41) (fun h49 _ => tk5 a h49))
def tk3 (a : Nat) (h : PH) : Option (PH × Nat × Nat) := oC (decide (hT h 23 = 5)) (oB2 (fX4_term h 23) (fun h43 r42 => oC (decide (hT h43 a = 3)) (oL (sI h43 259 a r42) (fun h45 => tk4 a h45))))
def tk2 (a : Nat) (h : PH) : Option (PH × Nat × Nat) := oC (decide (hT h 23 = 5)) (oB2 (fX4_expect h 23 40) (fun h39 _ => tk3 a h39))
def tM3 (u : MS) : Option MS := oB (fX12_is u 11) (fun r55 => if r55 = 0 then (oB (fX12_is u 13) (fun r58 => if r58 = 0 then (oB (fX12_is u 36) (fun r61 => if r61 = 0 then (oB (fX12_is u 37) (fun r64 => if r64 = 0 then (fX12_tellRule_293 u (-1)) else (fX12_tellRule_293 u 3))) else (fX12_tellRule_293 u 2))) else (fX12_tellRule_293 u 1))) else (fX12_tellRule_293 u 0))
def tM2 (u : MS) : Option MS := oB (fX12_must u 10) (fun h53 => tM3 h53)
def tM1 (u : MS) : Option MS := oB2 (fX12_term u) (fun h47 r46 => oC (ix (mI u 65) (mlen 46)) (oL (mSA h47 46 (Int32.toNatClampNeg (mI u 65)) r46) (fun h49 => oC (ix (mI h49 65) (mlen 47)) (oL (mSA h49 47 (Int32.toNatClampNeg (mI h49 65)) (-1)) (fun h51 => tM2 h51)))))
def tM0 (u : MS) : Option MS := oB (fX12_must u 9) (fun h44 => tM1 h44)
def hMt (u : MS) : Option MS := oL (mI u 11) (fun y32 => oB (fX12_must u 1) (fun h34 => if (mI h34 13) ≤ 0 then (oB2 (fX12_known h34 29 (mI h34 20) y32) (fun h38 r37 => oC (ix (mI h34 65) (mlen 44)) (oL (mSA h38 44 (Int32.toNatClampNeg (mI h34 65)) r37) (fun h40 => oC (ix (mI h40 65) (mlen 45)) (oL (mSA h40 45 (Int32.toNatClampNeg (mI h40 65)) 1) (fun h42 => tM0 h42)))))) else (some (h34))))
def hMl (u : MS) : Option MS := oB (fX12_literal u) (fun h22 => oC (ix (mI h22 65) (mlen 44)) (oL (mSA h22 44 (Int32.toNatClampNeg (mI h22 65)) (mI h22 66)) (fun h24 => oC (isB (mI h24 67)) (oC (ix (mI h24 65) (mlen 45)) (oL (mSA h24 45 (Int32.toNatClampNeg (mI h24 65)) (mI h24 67)) (fun h27 => oC (ix (mI h27 65) (mlen 46)) (oL (mSA h27 46 (Int32.toNatClampNeg (mI h27 65)) (mI h27 68)) (fun h29 => oC (ix (mI h29 65) (mlen 47)) (oL (mSA h29 47 (Int32.toNatClampNeg (mI h29 65)) (mI h29 69)) (fun h31 => fX12_tellRule_410 h31))))))))))
section HD
variable {h h' : PH} {u u' : MS} {G G' : Gh} {z c : Sz} {w v v' L n t t' pc rc pc' rc' y kc k a B : Nat} {D : Nat → Nat × Nat × Nat × List Nat}
theorem iw {j : Nat} (w3 : w < 30) (hj : mlen j = 30) : ix (nI w) (mlen j) = true := ix_n (by rw [hj]; exact w3) (by rw [hj]; omega)
theorem DD.aw (S : SX h G) {j : Nat} (hj : 44 ≤ j ∧ j ≤ 50) (x : Int32) : DD h u h (mSA u j w x) G G z w := RMs.dd S (k := 0) ((RMs.refl u w 0).sA (.inr ⟨hj.1, hj.2, rfl⟩))
theorem t410_d (X : Ded h u) : fX12_tellRule_410 u = some u := by
  unfold fX12_tellRule_410
  rw [must_d X, oB_v, if_neg X.f.1]
theorem lit_dc (X : DR h u G z w L n D pc B) (ta : hT h a = 3) (ob : OB G w a) : ∃ h', fX4_literal h 23 (some a) = some h' ∧ LD h u h' u G w a ∧ Ded h' u := by
  have S := X.d.i.sx
  have Y := X.sI ob 256 (by omega) 260
  have S1 := Y.d.i.sx
  obtain ⟨m, m1, m2⟩ := Y.s8
  have es := skip_d S1 Y.d.X (k := 35) (by omega) (by omega)
  have es' : fX4_skip (sI h 256 a 260) 23 317 = some (sI h 256 a 260, 0) := es
  obtain ⟨h2, e2, T2, X2⟩ := lword_d (s0 := 1) S1 Y.d.X ta ob X.w3 m2 m1 (.inr rfl)
  refine ⟨h2, ?_, (LD.sI S ob X.w3 256 (by omega) 260).trans T2, X2⟩
  unfold fX4_literal fX4_literal_0
  rw [oN_v, oC_d ta, oL_v, oC_d S1.t23, es', oB2_v, if_pos rfl, e2]
theorem lit_dm (X : Ded h u) : fX12_literal u = some (mSI u 67 1) ∧ Ded h (mSI u 67 1) := by
  have X1 := X.setM 67 (by omega) 1
  have m1 : mI (mSI u 67 1) 67 = 1 := by simp only [z_mI_mSI, z_mL_mSI, z_mA_mSI, z_mB_mSI, z_mI_mSL, z_mL_mSL, z_mA_mSL, z_mB_mSL, z_mI_mSA, z_mL_mSA, z_mA_mSA, z_mB_mSA, z_mI_mSB, z_mL_mSB, z_mA_mSB, z_mB_mSB, if_true, if_false, and_false, false_and, and_true, true_and, and_self, decide_true, decide_false, reduceCtorEq, not_false_eq_true, not_true_eq_false, Nat.reduceEqDiff, Nat.reduceAdd, Nat.reduceMul, Nat.add_zero, Nat.zero_add]
  refine ⟨?_, X1⟩
  unfold fX12_literal fX12_literal_0
  rw [is_d X, oB_v, if_pos rfl]
  unfold fX12_literal_15
  rw [oC_t (by decide), oL_v, m1, if_neg (by decide), l29_d X1]
/-- the reference's rows of a head that is a literal -/
def h4 (u : MS) (w : Nat) : MS := mSA (mSA (mSA (mSA u 44 w (mI u 66)) 45 w (mI u 67)) 46 w (mI u 68)) 47 w (mI u 69)
theorem hMl_v (e : fX12_literal u = some u') (m65 : mI u' 65 = nI w) (w3 : w < 30) (s67 : mI u' 67 = 0 ∨ mI u' 67 = 1) : hMl u = fX12_tellRule_410 (h4 u' w) := by
  have hb : isB (mI u' 67) = true := by rcases s67 with q | q <;> rw [q] <;> decide
  have cl : (nI w).toNatClampNeg = w := nI_clamp (show w < 2147483648 by omega)
  have a1 : ∀ j x, mI (mSA u' j w x) 65 = nI w := fun _ _ => m65
  have a2 : ∀ j x j' x', mI (mSA (mSA u' j w x) j' w x') 65 = nI w := fun _ _ _ _ => m65
  have a3 : ∀ j x j' x' j2 x2, mI (mSA (mSA (mSA u' j w x) j' w x') j2 w x2) 65 = nI w := fun _ _ _ _ _ _ => m65
  unfold hMl
  rw [e, oB_v, m65, oC_t (iw w3 (by decide)), oL_v, cl]
  show oC (isB (mI u' 67)) _ = _
  rw [oC_t hb, a1, oC_t (iw w3 (by decide)), oL_v, cl, a2, oC_t (iw w3 (by decide)), oL_v, cl, a3, oC_t (iw w3 (by decide)), oL_v, cl]
  rfl
theorem h4_m (u : MS) (w k : Nat) : RMs u (h4 u w) w k := ((((RMs.refl u w k).sA (.inr ⟨by omega, by omega, rfl⟩)).sA (.inr ⟨by omega, by omega, rfl⟩)).sA (.inr ⟨by omega, by omega, rfl⟩)).sA (.inr ⟨by omega, by omega, rfl⟩)
theorem Ded.rm (X : Ded h u) (M : RMs u u' w k) : Ded h u' := ⟨X.st, by rw [M.I]; exact X.fa, by rw [M.I]; exact X.pl, X.kd, by rw [M.I]; exact X.tt⟩
/-- a head that is a literal -/
theorem head_lit (X : RX h u G z c w v L n D t pc rc y k k) (hy : y ≠ 2) : TO h G z c w L n D t 0 0 (fun f => hI h f 23) (oB (fX4_literal h 23 (some (G.hd w))) (fun h18 => fX4_tellRule_195 h18 23 (some (G.rl w)))) (hMl u) := by
  have S := X.i.sx
  have wG := X.wG
  have w3 := X.K.w3
  have bp := X.bp
  have b1 := X.b1
  have ta := S.hdT w wG
  have ob : OB G w (G.hd w) := .inl (S.hdo w wG)
  have oa : OA G w k (G.hd w) := .inr (.inl (S.hdo w wG))
  obtain ⟨h2, u2, e1, e2, T, s67, o⟩ := literal_v (X.lx ob ta)
  have m65 : mI u2 65 = nI w := (T.mi 65 (by omega)).trans X.K.m65
  have R := RD.ld S T pc rc
  have S2 := R.sx
  rw [e1, oB_v, hMl_v e2 m65 w3 s67]
  have C : RCx h h2 G G 0 0 0 0 := (RC.n T.N).x 0 0
  rcases o with ⟨t2, v2, lt2, lv2, X2l, fm2, e256, LT⟩ | Xd
  · have X2 : RX h2 u2 G z c w v2 L n D t2 pc rc y k k := X.ld T oa X2l.V X2l.F fm2 X2l.K lv2 (by omega)
    have X3 := X2.am (h4_m u2 w k)
    have go := tail_v X3 (fun e0 => by
      have e0' : mI u2 15 = 0 := e0
      have LT' := LT e0'
      refine .inl ⟨?_, ?_⟩
      · rw [X3.kd.2]
        exact fun q => hy ((nI_eq (b := 2) (by have := X.y2; omega) (by omega)).mp q)
      · have := LT'.x (c := c) (u' := h4 u2 w) (c' := c.wC pc rc) (nv' := v2) (fun j hj => (h4_m u2 w k).A 28 j (by omega)) ⟨Nat.le_refl _, Nat.le_refl _, Nat.le_refl _, Nat.le_refl _, Nat.le_refl _, Nat.le_refl _, X.p0, X.r0⟩ (Nat.le_refl _)
        have a1 : mA (h4 u2 w) 44 w = mI u2 66 := by unfold h4; simp only [z_mI_mSI, z_mL_mSI, z_mA_mSI, z_mB_mSI, z_mI_mSL, z_mL_mSL, z_mA_mSL, z_mB_mSL, z_mI_mSA, z_mL_mSA, z_mA_mSA, z_mB_mSA, z_mI_mSB, z_mL_mSB, z_mA_mSB, z_mB_mSB, if_true, if_false, and_false, false_and, and_true, true_and, and_self, decide_true, decide_false, reduceCtorEq, not_false_eq_true, not_true_eq_false, Nat.reduceEqDiff, Nat.reduceAdd, Nat.reduceMul, Nat.add_zero, Nat.zero_add]
        have a2 : mA (h4 u2 w) 45 w = mI u2 67 := by unfold h4; simp only [z_mI_mSI, z_mL_mSI, z_mA_mSI, z_mB_mSI, z_mI_mSL, z_mL_mSL, z_mA_mSL, z_mB_mSL, z_mI_mSA, z_mL_mSA, z_mA_mSA, z_mB_mSA, z_mI_mSB, z_mL_mSB, z_mA_mSB, z_mB_mSB, if_true, if_false, and_false, false_and, and_true, true_and, and_self, decide_true, decide_false, reduceCtorEq, not_false_eq_true, not_true_eq_false, Nat.reduceEqDiff, Nat.reduceAdd, Nat.reduceMul, Nat.add_zero, Nat.zero_add]
        have a3 : mA (h4 u2 w) 46 w = mI u2 68 := by unfold h4; simp only [z_mI_mSI, z_mL_mSI, z_mA_mSI, z_mB_mSI, z_mI_mSL, z_mL_mSL, z_mA_mSL, z_mB_mSL, z_mI_mSA, z_mL_mSA, z_mA_mSA, z_mB_mSA, z_mI_mSB, z_mL_mSB, z_mA_mSB, z_mB_mSB, if_true, if_false, and_false, false_and, and_true, true_and, and_self, decide_true, decide_false, reduceCtorEq, not_false_eq_true, not_true_eq_false, Nat.reduceEqDiff, Nat.reduceAdd, Nat.reduceMul, Nat.add_zero, Nat.zero_add]
        have a4 : mA (h4 u2 w) 47 w = mI u2 69 := by unfold h4; simp only [z_mI_mSI, z_mL_mSI, z_mA_mSI, z_mB_mSI, z_mI_mSL, z_mL_mSL, z_mA_mSL, z_mB_mSL, z_mI_mSA, z_mL_mSA, z_mA_mSA, z_mB_mSA, z_mI_mSB, z_mL_mSB, z_mA_mSB, z_mB_mSB, if_true, if_false, and_false, false_and, and_true, true_and, and_self, decide_true, decide_false, reduceCtorEq, not_false_eq_true, not_true_eq_false, Nat.reduceEqDiff, Nat.reduceAdd, Nat.reduceMul, Nat.add_zero, Nat.zero_add]
        rw [a1, a2, a3, a4]
        exact this)
    obtain ⟨h5, G5, ci, cj, u5, f1, f2, f3, f4, f5⟩ := go
    refine ⟨h5, G5, ci, cj, u5, f1, f2, ?_, fun x q1 q2 => (f4 x q1 q2).trans (T.g x q1 q2), ?_⟩
    · have a := f3.c1
      have b := f3.c2
      rw [pot_n G T.N] at a b
      exact ⟨a, b⟩
    · rcases f5 with ⟨t', p', r', b1, b2⟩ | b
      · exact .inl ⟨t', p', r', by omega, b2⟩
      · exact .inr b
  · have Y : DR h2 (h4 u2 w) G z w L n D pc 1201 := X.dr ((R.dd S (.inr ob) w3 X.zs.2.1 X.zs.2.2).trans ((h4_m u2 w k).dd S2)) (Xd.rm (h4_m u2 w k)) ((T.I _ _ (by omega) (ob.ne w3 S.o5 (by omega))).trans X.sz) (by rw [T.N]; exact X.hp) (Nat.le_refl _) (by omega)
    obtain ⟨h5, G5, ci, cj, u5, f1, f2, f3, f4, f5⟩ := tail_d (c := c) (t := t) Y
    refine ⟨h5, G5, ci, cj, u5, f1, f2, ?_, fun x q1 q2 => (f4 x q1 q2).trans (T.g x q1 q2), f5⟩
    have a := f3.c1
    have b := f3.c2
    rw [pot_n G T.N] at a b
    exact ⟨a, b⟩
/-! a take's head behind a stop -/
theorem t113_d (X : DR h u G z w L n D pc B) (hB : B ≤ 2000) (ta : hT h a = 3) (ob : OB G w a) : DC h u G z w L n D pc 2 (fX4_takeHead_113 h 23 (some a)) := by
  have S := X.d.i.sx
  have w3 := X.w3
  have la := S.lt ta (by omega)
  have Y1 := X.sI ob 261 (by omega) (nI pc)
  have T1 : LD h u (sI h 261 a (nI pc)) u G w a := LD.sI S ob w3 261 (by omega) _
  obtain ⟨h1, G1, i1, j1, pc1, e1, C1, R1, X1, q1, q2⟩ := formula12_d Y1 hB
  have S1 := X1.i.sx
  have ob1 := ob.rd (h := sI h 261 a (nI pc)) la R1
  have a5 : 5 ≠ a := ob1.ne w3 S1.o5 (by omega)
  have ta1 : hT h1 a = 3 := (R1.T a la).trans ta
  have D1 : DD (sI h 261 a (nI pc)) u h1 u G G1 z w := R1.dd (h := sI h 261 a (nI pc)) S (.inl rfl) w3 X.zp (Nat.le_refl _)
  refine ⟨sI h1 263 a (nI pc1), G1, i1 + 0, j1 + 0, pc1, ?_, RC.q (h1 := sI h 261 a (nI pc)) rfl C1, (((RD.ld S T1 pc z.rc).dd S (.inr ob) w3 X.zp (Nat.le_refl _)).trans D1).trans (DD.sI S1 ob1 w3 263 (by omega) (nI pc1)), X1.X.setC S1 ob1 w3 263 _, by simp only [z_hI_sI, z_hL_sI, z_hR_sI, z_hA_sI, z_hB_sI, z_hC_sI, z_hT_sI, z_hN_sI, z_hZ_sI, z_hI_sL, z_hL_sL, z_hR_sL, z_hA_sL, z_hB_sL, z_hC_sL, z_hT_sL, z_hN_sL, z_hZ_sL, z_hI_sR, z_hL_sR, z_hR_sR, z_hA_sR, z_hB_sR, z_hC_sR, z_hT_sR, z_hN_sR, z_hZ_sR, z_hI_sA, z_hL_sA, z_hR_sA, z_hA_sA, z_hB_sA, z_hC_sA, z_hT_sA, z_hN_sA, z_hZ_sA, z_hI_sB, z_hL_sB, z_hR_sB, z_hA_sB, z_hB_sB, z_hC_sB, z_hT_sB, z_hN_sB, z_hZ_sB, z_hI_sC, z_hL_sC, z_hR_sC, z_hA_sC, z_hB_sC, z_hC_sC, z_hT_sC, z_hN_sC, z_hZ_sC, z_hI_sY, z_hL_sY, z_hR_sY, z_hA_sY, z_hB_sY, z_hC_sY, z_hT_sY, z_hN_sY, z_hZ_sY, z_hI_nO, z_hL_nO, z_hR_nO, z_hA_nO, z_hB_nO, z_hC_nO, z_hT_nO, z_hN_nO, z_hZ_nO, z_hI_nA, z_hL_nA, z_hR_nA, z_hA_nA, z_hB_nA, z_hC_nA, z_hT_nA, z_hN_nA, z_hZ_nA]; rw [if_neg (fun q => a5 q.2)]; exact X1.sz, X1.hp, q1, q2⟩
  unfold fX4_takeHead_113
  rw [oC_d S.t23, S.r512_23, oN_v, oC_d S.t5, oN_v, oC_d ta, X.d.sz, oL_v, e1, oB3_v, oC_d S1.t23, S1.r512_23, oN_v, oC_d S1.t5, oC_d ta1, X1.sz, oL_v, oK3_v]
theorem DC.ld {m : Nat} {F : Option (PH × Nat × Nat)} (S : SX h G) (T : LD h u h' u G w a) (ob : OB G w a) (w3 : w < 30) (g : DC h' u G z w L n D pc m F) : DC h u G z w L n D pc m F := by
  obtain ⟨h1, G1, i1, j1, pc1, e1, C1, D1, o⟩ := g
  exact ⟨h1, G1, i1, j1, pc1, e1, RC.q T.N C1, ((RD.ld S T z.pc z.rc).dd S (.inr ob) w3 (Nat.le_refl _) (Nat.le_refl _)).trans D1, o⟩
theorem tk5_d (X : DR h u G z w L n D pc B) (hB : B ≤ 2000) (ta : hT h a = 3) (ob : OB G w a) : DC h u G z w L n D pc 2 (tk5 a h) := by
  have S := X.d.i.sx
  have Y := X.sI ob 256 (by omega) 264
  have S1 := Y.d.i.sx
  have k2 : hI (sI h 256 a 264) 256 a = 264 := by simp only [z_hI_sI, z_hL_sI, z_hR_sI, z_hA_sI, z_hB_sI, z_hC_sI, z_hT_sI, z_hN_sI, z_hZ_sI, z_hI_sL, z_hL_sL, z_hR_sL, z_hA_sL, z_hB_sL, z_hC_sL, z_hT_sL, z_hN_sL, z_hZ_sL, z_hI_sR, z_hL_sR, z_hR_sR, z_hA_sR, z_hB_sR, z_hC_sR, z_hT_sR, z_hN_sR, z_hZ_sR, z_hI_sA, z_hL_sA, z_hR_sA, z_hA_sA, z_hB_sA, z_hC_sA, z_hT_sA, z_hN_sA, z_hZ_sA, z_hI_sB, z_hL_sB, z_hR_sB, z_hA_sB, z_hB_sB, z_hC_sB, z_hT_sB, z_hN_sB, z_hZ_sB, z_hI_sC, z_hL_sC, z_hR_sC, z_hA_sC, z_hB_sC, z_hC_sC, z_hT_sC, z_hN_sC, z_hZ_sC, z_hI_sY, z_hL_sY, z_hR_sY, z_hA_sY, z_hB_sY, z_hC_sY, z_hT_sY, z_hN_sY, z_hZ_sY, z_hI_nO, z_hL_nO, z_hR_nO, z_hA_nO, z_hB_nO, z_hC_nO, z_hT_nO, z_hN_nO, z_hZ_nO, z_hI_nA, z_hL_nA, z_hR_nA, z_hA_nA, z_hB_nA, z_hC_nA, z_hT_nA, z_hN_nA, z_hZ_nA, if_true, if_false, and_false, false_and, and_true, true_and, and_self, decide_true, decide_false, reduceCtorEq, not_false_eq_true, not_true_eq_false, Nat.reduceEqDiff, Nat.reduceAdd, Nat.reduceMul, Nat.add_zero, Nat.zero_add]
  have g := (t113_d Y hB ta ob).ld S (LD.sI S ob X.w3 256 (by omega) 264) ob X.w3
  have : tk5 a h = fX4_takeHead_113 (sI h 256 a 264) 23 (some a) := by
    unfold tk5
    rw [oC_d S.t23, oC_d ta, X.d.X.kd, oL_v, k2, oL_v, if_neg (by decide), if_neg (by decide), if_neg (by decide), if_neg (by decide), stopAt_d S1 Y.d.X, oB_v]
  rw [this]
  exact g
theorem tk4_d (X : DR h u G z w L n D pc B) (hB : B ≤ 2000) (ta : hT h a = 3) (ob : OB G w a) : DC h u G z w L n D pc 2 (tk4 a h) := by
  have S := X.d.i.sx
  have ed := expect_d S X.d.X (k := 10) (by omega) (by omega)
  have ed' : fX4_expect h 23 41 = some (h, 0) := ed
  have : tk4 a h = tk5 a h := by
    unfold tk4
    rw [oC_d S.t23, ed', oB2_v]
  rw [this]
  exact tk5_d X hB ta ob
theorem tk3_d (X : DR h u G z w L n D pc B) (hB : B ≤ 2000) (ta : hT h a = 3) (ob : OB G w a) : DC h u G z w L n D pc 2 (tk3 a h) := by
  have S := X.d.i.sx
  obtain ⟨r, e⟩ := term_dc S X.d.X X.d.s6
  have Y := X.sI ob 259 (by omega) r
  have : tk3 a h = tk4 a (sI h 259 a r) := by
    unfold tk3
    rw [oC_d S.t23, e, oB2_v, oC_d ta, oL_v]
  rw [this]
  exact (tk4_d Y hB ta ob).ld S (LD.sI S ob X.w3 259 (by omega) r) ob X.w3
theorem tk2_d (X : DR h u G z w L n D pc B) (hB : B ≤ 2000) (ta : hT h a = 3) (ob : OB G w a) : DC h u G z w L n D pc 2 (tk2 a h) := by
  have S := X.d.i.sx
  have ed := expect_d S X.d.X (k := 9) (by omega) (by omega)
  have ed' : fX4_expect h 23 40 = some (h, 0) := ed
  have : tk2 a h = tk3 a h := by
    unfold tk2
    rw [oC_d S.t23, ed', oB2_v]
  rw [this]
  exact tk3_d X hB ta ob
/-- the reference's take behind a stop -/
theorem t306_d (S : SX h G) (X : Ded h u) (m65 : mI u 65 = nI w) (w3 : w < 30) (x : Int32) : ∃ u', fX12_tellRule_306 u x = some u' ∧ DD h u h u' G G z w ∧ Ded h u' := by
  have cl : (nI w).toNatClampNeg = w := nI_clamp (show w < 2147483648 by omega)
  obtain ⟨u1, e1, W1, X1⟩ := next_d (X.a2 48 w x)
  have m1 : mI u1 65 = nI w := (W1.I 65 (by omega)).trans m65
  obtain ⟨e2, X2⟩ := express_d (X1.a2 49 w (mI u1 24))
  have m2 : mI (mSI (mSI (mSA u1 49 w (mI u1 24)) 70 0) 12 0) 65 = nI w := m1
  have X3 := X2.a2 50 w (mI (mSI (mSI (mSA u1 49 w (mI u1 24)) 70 0) 12 0) 24)
  refine ⟨_, ?_, (((DD.aw S (j := 48) (by omega) x).trans (DD.q S w3 (Q.refl h) W1)).trans ((DD.aw S (j := 49) (by omega) (mI u1 24)).trans (((RD.si S _ w z.pc z.rc (k := 70) (by omega) 0).trans (RD.si S _ w z.pc z.rc (k := 12) (by omega) 0) (Nat.le_refl _) (Nat.le_refl _)).dd S (.inl rfl) w3 (Nat.le_refl _) (Nat.le_refl _)))).trans (DD.aw S (j := 50) (by omega) (mI (mSI (mSI (mSA u1 49 w (mI u1 24)) 70 0) 12 0) 24)), X3⟩
  unfold fX12_tellRule_306
  rw [m65, oC_t (iw w3 (by decide)), oL_v, cl, e1, oB_v, m1, oC_t (iw w3 (by decide)), oL_v, cl, e2, oB_v, m2, oC_t (iw w3 (by decide)), oL_v, cl, t410_d X3]
theorem tM3_d (S : SX h G) (X : Ded h u) (m65 : mI u 65 = nI w) (w3 : w < 30) : ∃ u', tM3 u = some u' ∧ DD h u h u' G G z w ∧ Ded h u' := by
  obtain ⟨u1, e1, D1, X1⟩ := t306_d (z := z) S X m65 w3 (-1)
  refine ⟨u1, ?_, D1, X1⟩
  unfold tM3
  rw [is_d X, oB_v, if_pos rfl, is_d X, oB_v, if_pos rfl, is_d X, oB_v, if_pos rfl, is_d X, oB_v, if_pos rfl]
  unfold fX12_tellRule_293
  rw [if_pos rfl, fail_d X, oB_v, e1]
theorem tM2_d (S : SX h G) (X : Ded h u) (m65 : mI u 65 = nI w) (w3 : w < 30) : ∃ u', tM2 u = some u' ∧ DD h u h u' G G z w ∧ Ded h u' := by
  obtain ⟨u1, e1, D1, X1⟩ := tM3_d (z := z) S X m65 w3
  refine ⟨u1, ?_, D1, X1⟩
  unfold tM2
  rw [must_d X, oB_v, e1]
theorem tM1_d (S : SX h G) (X : Ded h u) (m65 : mI u 65 = nI w) (w3 : w < 30) : ∃ u', tM1 u = some u' ∧ DD h u h u' G G z w ∧ Ded h u' := by
  have cl : (nI w).toNatClampNeg = w := nI_clamp (show w < 2147483648 by omega)
  have m1 : mI (mSA u 46 w (-1)) 65 = nI w := m65
  have m2 : mI (mSA (mSA u 46 w (-1)) 47 w (-1)) 65 = nI w := m65
  obtain ⟨u1, e1, D1, X1⟩ := tM2_d (z := z) S ((X.a2 46 w (-1)).a2 47 w (-1)) m2 w3
  refine ⟨u1, ?_, ((DD.aw S (j := 46) (by omega) (-1)).trans (DD.aw S (j := 47) (by omega) (-1))).trans D1, X1⟩
  unfold tM1
  rw [term_dm X, oB2_v, m65, oC_t (iw w3 (by decide)), oL_v, cl, m1, oC_t (iw w3 (by decide)), oL_v, cl, e1]
theorem tM0_d (S : SX h G) (X : Ded h u) (m65 : mI u 65 = nI w) (w3 : w < 30) : ∃ u', tM0 u = some u' ∧ DD h u h u' G G z w ∧ Ded h u' := by
  obtain ⟨u1, e1, D1, X1⟩ := tM1_d (z := z) S X m65 w3
  refine ⟨u1, ?_, D1, X1⟩
  unfold tM0
  rw [must_d X, oB_v, e1]
theorem take_dc (X : DR h u G z w L n D pc B) (hB : B ≤ 2000) (ta : hT h a = 3) (ob : OB G w a) : DC h u G z w L n D pc 2 (fX4_takeHead h 23 (some a)) := by
  have S := X.d.i.sx
  have w3 := X.w3
  have Y1 := X.sI ob 258 (by omega) 1
  have S1 := Y1.d.i.sx
  obtain ⟨m, m1, m2⟩ := Y1.s10
  have fc := find_c (h := sI h 258 a 1) S1.t10 m2 S1.r896_10 S1.t11 (by rw [S1.n11]; exact m1) (by rw [S1.n11]; omega) (hL (sI h 258 a 1) 523 23)
  have e := expect_d S1 Y1.d.X (k := 1) (by omega) (by omega)
  have e' : fX4_expect (sI h 258 a 1) 23 260 = some (sI h 258 a 1, 0) := e
  obtain ⟨r, er⟩ : ∃ r, fX4_knownName (sI h 258 a 1) 23 (some 10) = some (sI h 258 a 1, r) := by
    unfold fX4_knownName fX4_knownName_0
    rw [oC_d S1.t23, oL_v, oN_v, oC_d S1.t10, fc, oB_v, e', oB2_v, if_pos rfl]
    exact ⟨_, rfl⟩
  have Y2 := Y1.sI ob 257 (by omega) r
  have ta1 : hT (sI h 258 a 1) a = 3 := ta
  have : fX4_takeHead h 23 (some a) = tk2 a (sI (sI h 258 a 1) 257 a r) := by
    unfold fX4_takeHead fX4_takeHead_0
    rw [oN_v, oC_d ta, oL_v, oC_d S1.t23, S1.r512_23, oN_v, oC_d S1.t5, S1.r130_5, er, oB2_v, oC_d ta1, oL_v]
    rfl
  rw [this]
  exact (tk2_d Y2 hB ta ob).ld S ((LD.sI S ob w3 258 (by omega) 1).trans (LD.sI (h := sI h 258 a 1) S ob w3 257 (by omega) r)) ob w3
end HD
