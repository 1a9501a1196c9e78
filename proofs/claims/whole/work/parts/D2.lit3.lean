section L2
variable {h : PH} {u : MS} {G : Gh} {z c : Sz} {w v a L n t t0 k : Nat} {D : Nat → Nat × Nat × Nat × List Nat} {r : Int32}
theorem note_t (S : SX h G) (f p : Int32) : ∃ h', fX4_note h 23 f p = some h' ∧ Q h h' ∧ ∀ g, g < 526 → hI h' g 23 = hI h g 23 := by
  have setc : fX4_note_31 h 23 f p = some (sI (sI h 526 23 f) 527 23 p) := by
    simp only [fX4_note_31, S.t0, S.t1, S.t3, S.t5, S.t6, S.t8, S.t10, S.t12, S.t14, S.t23, S.t24, S.t7, S.t9, S.t11, S.t13, S.t15, S.t16, S.t17, S.t18, S.t19, S.t20, S.t21, S.t25, S.t29, S.t30, S.t31, S.n7, S.n9, S.n11, S.n13, S.n15, S.n16, S.n17, S.n18, S.n19, S.n20, S.n21, S.n25, S.n29, S.n30, S.n31, S.r1408_0, S.r1409_0, S.r1410_0, S.r1411_0, S.r1412_0, S.r128_5, S.r129_5, S.r130_5, S.r131_5, S.r132_5, S.r133_5, S.r134_5, S.r135_5, S.r136_5, S.r137_5, S.r138_5, S.r512_23, S.r513_23, S.r514_23, S.r515_23, S.r896_6, S.r896_8, S.r896_10, S.r896_12, S.r896_14, S.r1280_24, S.r0_1, S.ttk, S.otk, S.r0_3, S.twk, S.owk, S.r141_5, S.tpg, S.opg, S.r1281_24, S.tkd, S.okd, S.r1282_24, S.tst, S.ost, S.r1283_24, S.tvl, S.ovl, S.o0, S.o1, S.o3, S.o31, S.o5, S.o6, S.o7, S.o8, S.o9, S.o10, S.o11, S.o12, S.o13, S.o14, S.o15, S.o16, S.o17, S.o18, S.o19, S.o20, S.o21, S.o23, S.o24, S.o25, S.o29, S.o30, oN_v, oC_v, oB_v, oB2_v, oB3_v, oB4_v, oK3_v, oK4_v, oL_v, if_true, if_false, and_false, false_and, and_true, true_and, and_self, decide_true, decide_false, reduceCtorEq, not_false_eq_true, not_true_eq_false, Nat.reduceEqDiff, Nat.reduceAdd, Nat.reduceMul, Nat.add_zero, Nat.zero_add]
  have yes : ∃ h', some (sI (sI h 526 23 f) 527 23 p) = some h' ∧ Q h h' ∧ ∀ g, g < 526 → hI h' g 23 = hI h g 23 := ⟨_, rfl, ((Q.refl h).sI (by omega)).sI (by omega), fun g hg => by simp only [z_hI_sI, z_hL_sI, z_hR_sI, z_hA_sI, z_hB_sI, z_hC_sI, z_hT_sI, z_hN_sI, z_hZ_sI, z_hI_sL, z_hL_sL, z_hR_sL, z_hA_sL, z_hB_sL, z_hC_sL, z_hT_sL, z_hN_sL, z_hZ_sL, z_hI_sR, z_hL_sR, z_hR_sR, z_hA_sR, z_hB_sR, z_hC_sR, z_hT_sR, z_hN_sR, z_hZ_sR, z_hI_sA, z_hL_sA, z_hR_sA, z_hA_sA, z_hB_sA, z_hC_sA, z_hT_sA, z_hN_sA, z_hZ_sA, z_hI_sB, z_hL_sB, z_hR_sB, z_hA_sB, z_hB_sB, z_hC_sB, z_hT_sB, z_hN_sB, z_hZ_sB, z_hI_sC, z_hL_sC, z_hR_sC, z_hA_sC, z_hB_sC, z_hC_sC, z_hT_sC, z_hN_sC, z_hZ_sC, z_hI_sY, z_hL_sY, z_hR_sY, z_hA_sY, z_hB_sY, z_hC_sY, z_hT_sY, z_hN_sY, z_hZ_sY, z_hI_nO, z_hL_nO, z_hR_nO, z_hA_nO, z_hB_nO, z_hC_nO, z_hT_nO, z_hN_nO, z_hZ_nO, z_hI_nA, z_hL_nA, z_hR_nA, z_hA_nA, z_hB_nA, z_hC_nA, z_hT_nA, z_hN_nA, z_hZ_nA]; rw [if_neg (fun e => by omega), if_neg (fun e => by omega)]⟩
  have no : ∃ h', some h = some h' ∧ Q h h' ∧ ∀ g, g < 526 → hI h' g 23 = hI h g 23 := ⟨h, rfl, Q.refl h, fun _ _ => rfl⟩
  unfold fX4_note fX4_note_0
  rw [oC_d S.t23, setc]
  repeat' split
  all_goals first | exact yes | exact no
theorem Ded.fr {h' : PH} (X : Ded h u) (e : ∀ g, g < 526 → hI h' g 23 = hI h g 23) : Ded h' u := ⟨by rw [e _ (by omega)]; exact X.st, by rw [e _ (by omega)]; exact X.fa, by rw [e _ (by omega)]; exact X.pl, by rw [e _ (by omega)]; exact X.kd, X.tt⟩
theorem places_t (S : SX h G) {m : Nat} (sz : hI h 897 8 = nI m) (hm : m ≤ 12) (x : Int32) : ∃ y, fX1_placesOf h 5 x = some y := by
  unfold fX1_placesOf fX1_placesOf_0
  by_cases c1 : x < 0
  · rw [if_pos c1]; exact ⟨_, rfl⟩
  · rw [if_neg c1, oC_d S.t5, S.r129_5, oN_v, oC_d S.t8, sz]
    by_cases c2 : nI m ≤ x
    · rw [if_pos c2]; exact ⟨_, rfl⟩
    · obtain ⟨j, hj, e⟩ := nI_idx (by omega) c1 c2
      rw [if_neg c2, S.r133_5, oN_v, oC_d S.t16, S.n16, e, oC_t (ix_n (show j < 12 by omega) (by omega))]
      exact ⟨_, rfl⟩
theorem fit_dc (S : SX h G) (X : Ded h u) {m : Nat} (sz : hI h 897 8 = nI m) (hm : m ≤ 12) (p r k : Int32) : ∃ h', fX4_literal_108 h 23 p r k = some h' ∧ Q h h' ∧ Ded h' u := by
  unfold fX4_literal_108
  by_cases c1 : r = -1
  · rw [if_pos c1]; exact ⟨h, rfl, Q.refl h, X⟩
  · obtain ⟨y, ey⟩ := places_t S sz hm r
    rw [if_neg c1, oC_d S.t23, S.r512_23, oN_v, oC_d S.t5, ey, oB_v]
    by_cases c2 : y = k
    · rw [if_pos c2]; exact ⟨h, rfl, Q.refl h, X⟩
    · obtain ⟨h', e, q, g⟩ := note_t S 5 p
      rw [if_neg c2, e, oB_v]
      exact ⟨h', rfl, q, X.fr g⟩
theorem fit_dm (X : Ded h u) (x y : Int32) : fX12_literal_128 u x y = some u := by
  unfold fX12_literal_128
  rw [if_neg X.f.1]
/-- the word of a literal, as known_v gives it -/
def Wd (h : PH) (u : MS) (c : Sz) (q : Nat) (r : Int32) : Prop := (r = -1 ∧ FP u q) ∨ ∃ j, j < c.nw ∧ r = nI j ∧ ((∃ k, k ≤ 2 ∧ hA h 16 j = nI k ∧ mA u 28 j = nI k) ∨ ∃ q', FP u q' ∧ q' < q)
theorem Wd.ld {h' : PH} {u' : MS} {q : Nat} (W : Wd h u c q r) (T : LD h u h' u' G w a) (M : FM u u') : Wd h' u' c q r := by
  rcases W with ⟨e, f⟩ | ⟨j, hj, e, o⟩
  · exact .inl ⟨e, M _ f⟩
  · refine .inr ⟨j, hj, e, ?_⟩
    rcases o with ⟨k, k1, k2, k3⟩ | ⟨q', q1, q2⟩
    · exact .inl ⟨k, k1, (T.A 16 j (by omega)).trans k2, (T.ma 28 j (by omega) (by omega)).trans k3⟩
    · exact .inr ⟨q', M _ q1, q2⟩
/-- no terms, or all terms read and the bracket closed: does it fit? -/
theorem lfit (X : LX h u G z c w v a L n D t) (ht0 : t0 < t) (hk : k ≤ 2) (W : Wd h u c (D t0).1 r) (m66 : mI u 66 = r) (s257 : hI h 257 a = r) (T1 : mI u 15 = 0 → (if 0 < k then TmR c v (hI h 259 a) (mI u 68) else NoT (hI h 259 a) (mI u 68)) ∧ (if 1 < k then TmR c v (hI h 260 a) (mI u 69) else NoT (hI h 260 a) (mI u 69))) : LOut h u G z c w v a L n D t (fX4_literal_108 h 23 (nI (D t0).1) r (nI k)) (fX12_literal_128 u (nI t0) (nI k)) := by
  obtain ⟨h', u', e1, e2, Q1, W1, V', F', M', P⟩ := fit_v X.i X.V X.F X.s8 X.c12 X.pl ht0 hk W m66
  have n23 := X.o.n23 X.i.sx X.K.w3
  refine ⟨h', u', e1, e2, LD.q X.i.sx Q1 W1, .inl ⟨t, v, Nat.le_refl _, Nat.le_refl _, X.q Q1 W1 V' F' M' (Nat.le_refl _), M', Q1.I _ _ n23, Q1.I _ _ n23, W1.I 67 (by omega), fun e => ?_⟩⟩
  obtain ⟨j, hj, er, ek⟩ := P e
  obtain ⟨q1, q2⟩ := T1 (FM.z X.F M' e)
  refine ⟨j, k, hj, hk, by rw [W1.A]; exact ek, by rw [Q1.I _ _ n23, s257, er], by rw [W1.I 66 (by omega), m66, er], ?_, ?_⟩
  · rw [Q1.I _ _ n23, W1.I 68 (by omega)]; exact q1
  · rw [Q1.I _ _ n23, W1.I 69 (by omega)]; exact q2
theorem LOut.pre {h1 : PH} {u1 : MS} {v1 t1 : Nat} {F : Option PH} {M : Option MS} (T : LD h u h1 u1 G w a) (fm : FM u u1) (e6 : hI h1 256 a = hI h 256 a) (e8 : hI h1 258 a = hI h 258 a) (e7 : mI u1 67 = mI u 67) (hv : v ≤ v1) (ht : t ≤ t1) (O : LOut h1 u1 G z c w v1 a L n D t1 F M) : LOut h u G z c w v a L n D t F M := by
  obtain ⟨h', u', e1, e2, T2, o⟩ := O
  refine ⟨h', u', e1, e2, T.trans T2, ?_⟩
  rcases o with ⟨t', v', q1, q2, X, M', p6, p8, p7, P⟩ | X
  · exact .inl ⟨t', v', by omega, by omega, X, fm.trans M', p6.trans e6, p8.trans e8, p7.trans e7, P⟩
  · exact .inr X
theorem LOut.dead {h1 : PH} {u1 : MS} {F : Option PH} {M : Option MS} (T : LD h u h1 u1 G w a) (X : Ded h1 u1) (e1 : F = some h1) (e2 : M = some u1) : LOut h u G z c w v a L n D t F M := ⟨h1, u1, e1, e2, T, .inr X⟩
/-- the bracket closed -/
theorem lclose (X : LX h u G z c w v a L n D t) (ht0 : t0 < t) (hk : k ≤ 2) (W : Wd h u c (D t0).1 r) (m66 : mI u 66 = r) (s257 : hI h 257 a = r) (T1 : mI u 15 = 0 → (if 0 < k then TmR c v (hI h 259 a) (mI u 68) else NoT (hI h 259 a) (mI u 68)) ∧ (if 1 < k then TmR c v (hI h 260 a) (mI u 69) else NoT (hI h 260 a) (mI u 69))) : LOut h u G z c w v a L n D t (fX4_literal_101 h 23 (nI (D t0).1) r (nI k)) (fX12_literal_122 u (nI t0) (nI k)) := by
  have S := X.i.sx
  have n23 := X.o.n23 S X.K.w3
  obtain ⟨h1, u1, r1, e1, e2, Q1, W1, o⟩ := want_v X.i X.V X.F (k := 10) (by omega) (by omega) (by omega)
  have e1' : fX4_expect h 23 41 = some (h1, r1) := e1
  have e2' : fX12_must u 10 = some u1 := e2
  have hC : fX4_literal_101 h 23 (nI (D t0).1) r (nI k) = fX4_literal_108 h1 23 (nI (D t0).1) r (nI k) := by
    unfold fX4_literal_101
    rw [oC_d S.t23, e1', oB2_v]
  have hM : fX12_literal_122 u (nI t0) (nI k) = fX12_literal_128 u1 (nI t0) (nI k) := by
    unfold fX12_literal_122
    rw [e2', oB_v]
  rw [hC, hM]
  have T : LD h u h1 u1 G w a := LD.q S Q1 W1
  rcases o with ⟨_, _, c1, V1, F1, M1⟩ | ⟨_, X1⟩
  · have X' := X.q Q1 W1 V1 F1 M1 (by omega)
    refine LOut.pre T M1 (Q1.I _ _ n23) (Q1.I _ _ n23) (W1.I 67 (by omega)) (Nat.le_refl _) (by omega) (lfit X' (by omega) hk (W.ld T M1) ((W1.I 66 (by omega)).trans m66) ((Q1.I _ _ n23).trans s257) (fun e => ?_))
    have := T1 (FM.z X.F M1 e)
    rw [Q1.I _ _ n23, Q1.I _ _ n23, W1.I 68 (by omega), W1.I 69 (by omega)]
    exact this
  · obtain ⟨h2, d1, d2, d3⟩ := fit_dc (Q1.sx S) X1 ((Q1.I _ _ (by omega)).trans X.s8) X.c12 (nI (D t0).1) r (nI k)
    exact LOut.dead (T.trans (LD.q (Q1.sx S) d2 (W'.refl u1))) d3 d1 (fit_dm X1 _ _)
end L2
