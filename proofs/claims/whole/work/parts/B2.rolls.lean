/-- a roll of names in both: the class's o with its row a, the reference's k, s names of at most m -/
def RO (h : PH) (u : MS) (o : Nat) (a : Nat) (k : Nat) (s : Nat) (m : Nat) : Prop := (hT h o = 8) ∧ (hR h 896 o = some a) ∧ (hT h a = 102) ∧ (hN h a = m) ∧ (hI h 897 o = nI s) ∧ (s ≤ m) ∧ (mlen k = m) ∧ ((decide (mk k = 2) && decide (mak k = 2)) = true) ∧ (m < 1000) ∧ (∀ i, i < s → NR (hB h a i) (mB u k i)) ∧ (o ≠ 23)
theorem RO.t1 {h : PH} {u : MS} {o : Nat} {a : Nat} {k : Nat} {s : Nat} {m : Nat} (X_ : RO h u o a k s m) : hT h o = 8 := X_.1
theorem RO.r {h : PH} {u : MS} {o : Nat} {a : Nat} {k : Nat} {s : Nat} {m : Nat} (X_ : RO h u o a k s m) : hR h 896 o = some a := X_.2.1
theorem RO.t2 {h : PH} {u : MS} {o : Nat} {a : Nat} {k : Nat} {s : Nat} {m : Nat} (X_ : RO h u o a k s m) : hT h a = 102 := X_.2.2.1
theorem RO.nn {h : PH} {u : MS} {o : Nat} {a : Nat} {k : Nat} {s : Nat} {m : Nat} (X_ : RO h u o a k s m) : hN h a = m := X_.2.2.2.1
theorem RO.sz {h : PH} {u : MS} {o : Nat} {a : Nat} {k : Nat} {s : Nat} {m : Nat} (X_ : RO h u o a k s m) : hI h 897 o = nI s := X_.2.2.2.2.1
theorem RO.le {h : PH} {u : MS} {o : Nat} {a : Nat} {k : Nat} {s : Nat} {m : Nat} (X_ : RO h u o a k s m) : s ≤ m := X_.2.2.2.2.2.1
theorem RO.mm {h : PH} {u : MS} {o : Nat} {a : Nat} {k : Nat} {s : Nat} {m : Nat} (X_ : RO h u o a k s m) : mlen k = m := X_.2.2.2.2.2.2.1
theorem RO.kk {h : PH} {u : MS} {o : Nat} {a : Nat} {k : Nat} {s : Nat} {m : Nat} (X_ : RO h u o a k s m) : (decide (mk k = 2) && decide (mak k = 2)) = true := X_.2.2.2.2.2.2.2.1
theorem RO.m9 {h : PH} {u : MS} {o : Nat} {a : Nat} {k : Nat} {s : Nat} {m : Nat} (X_ : RO h u o a k s m) : m < 1000 := X_.2.2.2.2.2.2.2.2.1
theorem RO.nm {h : PH} {u : MS} {o : Nat} {a : Nat} {k : Nat} {s : Nat} {m : Nat} (X_ : RO h u o a k s m) : ∀ i, i < s → NR (hB h a i) (mB u k i) := X_.2.2.2.2.2.2.2.2.2.1
theorem RO.o23 {h : PH} {u : MS} {o : Nat} {a : Nat} {k : Nat} {s : Nat} {m : Nat} (X_ : RO h u o a k s m) : o ≠ 23 := X_.2.2.2.2.2.2.2.2.2.2
theorem RO.mk {h : PH} {u : MS} {o : Nat} {a : Nat} {k : Nat} {s : Nat} {m : Nat} (t1_ : hT h o = 8) (r_ : hR h 896 o = some a) (t2_ : hT h a = 102) (nn_ : hN h a = m) (sz_ : hI h 897 o = nI s) (le_ : s ≤ m) (mm_ : mlen k = m) (kk_ : (decide (mk k = 2) && decide (mak k = 2)) = true) (m9_ : m < 1000) (nm_ : ∀ i, i < s → NR (hB h a i) (mB u k i)) (o23_ : o ≠ 23) : RO h u o a k s m := ⟨t1_, r_, t2_, nn_, sz_, le_, mm_, kk_, m9_, nm_, o23_⟩
theorem RO.q {h h' : PH} {u u' : MS} {o a k s m : Nat} (R : RO h u o a k s m) (X : Q h h') (M : W' u u') : RO h' u' o a k s m := ⟨by rw [X.T]; exact R.t1, by rw [X.R]; exact R.r, by rw [X.T]; exact R.t2, by rw [X.N]; exact R.nn, (X.I _ _ R.o23).trans R.sz, R.le, R.mm, R.kk, R.m9, fun i hi => by rw [X.B, M.B]; exact R.nm i hi, R.o23⟩
section RL
variable {h : PH} {u : MS} {G : Gh} {z : Sz} {L n t o a k s m : Nat} {D : Nat → Nat × Nat × Nat × List Nat}
theorem RO.fc (R : RO h u o a k s m) (x : Int64) : fX7_find h o x = some (fd (fun j => decide (hB h a j = x)) s 0) := find_c R.t1 R.sz R.r R.t2 (by rw [R.nn]; exact R.le) (by rw [R.nn]; exact R.m9) x
theorem RO.fm (R : RO h u o a k s m) (y : Int64) : fX12_find u k (nI s) y = some (fd (fun j => decide (mB u k j = y)) s 0) := find_m R.kk (by rw [R.mm]; exact R.le) (by rw [R.mm]; exact R.m9) y
theorem TS.name {h : PH} {u : MS} (T : TS h u G L n D) (ht : t < n) (c : (D t).2.1 = 1) : NR (vD (D t)) (mB u 8 t) := by
  obtain ⟨_, _, _, _, _, _, t7, _⟩ := T.tk t ht
  obtain ⟨e, ok⟩ := t7 (.inl c)
  unfold vD
  rw [if_pos (.inl c), e]
  exact ⟨_, ok, rfl, rfl⟩
/-- a name told -/
theorem tell_v (I : PI h u G z L n D) (V : Liv h u D n t) (F : FL h u) (R : RO h u o a k s m) : ∃ h1 u1, Q h h1 ∧ W' u u1 ∧ ((∃ x y, NR x y ∧ (D t).2.1 = 1 ∧ s < m ∧ t < 1200 ∧ Liv h1 u1 D n (t + 1) ∧ FL h1 u1 ∧ FM u u1 ∧ fX4_tellName h 23 (some o) = some (sI (sB h1 a s x) 897 o (nI (s + 1)), nI s) ∧ fX12_tells u k (nI s) (nI m) = some (mSB u1 k s y, nI t)) ∨ (Ded h1 u1 ∧ fX4_tellName h 23 (some o) = some (h1, -1) ∧ fX12_tells u k (nI s) (nI m) = some (u1, nI t))) := by
  have S := I.sx
  have lt := V.lt
  have n2 := I.ts.n2
  have m9 := R.m9
  have le := R.le
  have tb := (I.ts.tk t lt).2.2.2.2.2.2.2.1
  have t5 := (I.ts.tk t lt).2.2.2.2.1
  have pb := I.ts.pl t lt
  have lL := I.lL
  have e260 : cK (D t).2.1 = 260 ↔ (D t).2.1 = 1 := cK_inj (b := 1) tb (by omega)
  have full : fX7_isFull h o = some (if s < m then 0 else 1) := by
    unfold fX7_isFull fX7_isFull_0
    rw [oC_d R.t1, R.r, oN_v, oC_d R.t2, R.sz, R.nn]
    by_cases c : s < m
    · rw [if_pos (nI_lt c (by omega)), if_pos c]
    · rw [if_neg (nI_nlt (by omega) (by omega)), if_neg c]
  have em : nI s = nI m ↔ s = m := nI_eq (by omega) (by omega)
  have dead : ∀ {h1 : PH} {u1 : MS}, Ded h1 u1 → SX h1 G → fX4_tellName_22 h1 23 (some o) = some (h1, -1) ∧ ∀ y, fX12_tells_24 k u1 (nI s) y = some (u1, y) := by
    intro h1 u1 X S1
    have e := expect_d S1 X (k := 1) (by omega) (by omega)
    have e' : fX4_expect h1 23 260 = some (h1, 0) := e
    refine ⟨?_, fun y => ?_⟩
    · simp only [fX4_tellName_22, S1.t23, oN_v, oC_v, oB_v, oB2_v, oB3_v, oB4_v, oK3_v, oK4_v, oL_v, if_true, if_false, and_false, false_and, and_true, true_and, and_self, decide_true, decide_false, reduceCtorEq, not_false_eq_true, not_true_eq_false, Nat.reduceEqDiff, Nat.reduceAdd, Nat.reduceMul, Nat.add_zero, Nat.zero_add, e']
    · unfold fX12_tells_24
      rw [must_d X, oB_v, if_neg X.f.2.1]
  by_cases c1 : (D t).2.1 = 1 ∧ s = m
  · -- no room
    have X := Ded.of V (by omega) (f := 2) (.inr rfl)
    have Q1 := Q.st h 2
    have W1 := W'.fa u 2 (nI (D t).1)
    obtain ⟨d1, d2⟩ := dead X (Q1.sx S)
    refine ⟨_, _, Q1, W1, .inr ⟨X, ?_, ?_⟩⟩
    · unfold fX4_tellName fX4_tellName_0
      rw [oC_d S.t23, V.kd, if_pos (e260.mpr c1.1), oN_v, oC_d R.t1, full, if_neg (show ¬ s < m by omega), oB_v, if_neg (show ¬ ((1 : Int32) = 0) by decide), stopAt_v I V, oB_v, d1]
    · unfold fX12_tells fX12_tells_0
      rw [oC_t R.kk, oL_v, show (1 : Int32) = nI 1 from rfl, is_v I V (by omega), if_pos c1.1, oB_v, if_neg (by decide), if_pos (em.mpr c1.2), fail_v I V, oB_v, V.t0, d2]
  · obtain ⟨h1, u1, r, e1, e2, Q1, W1, oo⟩ := want_v I V F (k := 1) (by omega) (by omega) (by omega)
    have e1' : fX4_expect h 23 260 = some (h1, r) := e1
    have e2' : fX12_must u 1 = some u1 := e2
    have S1 : SX h1 G := Q1.sx S
    have goC : fX4_tellName h 23 (some o) = fX4_tellName_22 h 23 (some o) := by
      unfold fX4_tellName fX4_tellName_0
      rw [oC_d S.t23, V.kd]
      by_cases c : (D t).2.1 = 1
      · rw [if_pos (e260.mpr c), oN_v, oC_d R.t1, full, oB_v, if_pos (show s < m by omega), if_pos rfl]
      · rw [if_neg (fun q => c (e260.mp q))]
    have goM : fX12_tells u k (nI s) (nI m) = fX12_tells_24 k u (nI s) (nI t) := by
      unfold fX12_tells fX12_tells_0
      rw [oC_t R.kk, oL_v, show (1 : Int32) = nI 1 from rfl, is_v I V (by omega), oB_v, V.t0]
      by_cases c : (D t).2.1 = 1
      · rw [if_pos c, if_neg (by decide), if_neg (fun q => c1 ⟨c, em.mp q⟩)]
      · rw [if_neg c, if_pos rfl]
    rcases oo with ⟨r1, c, c2, V', F', M'⟩ | ⟨r0, X⟩
    · subst r1
      have sm : s < m := by omega
      have N := I.ts.name lt c
      have R1 := R.q Q1 W1
      have fc := R1.fc (vD (D t))
      have fm := R1.fm (mB u1 8 t)
      have N1 : NR (vD (D t)) (mB u1 8 t) := by rw [W1.B]; exact N
      rw [← find_e R1.nm N1] at fm
      have i8 : ix (nI t) (mlen 8) = true := ix_n (show t < mlen 8 by show t < 1203; omega) (by decide)
      have addc : ∀ h2, Q h1 h2 → fX4_tellName_59 h2 (some o) (vD (D t)) = some (sI (sB h2 a s (vD (D t))) 897 o (nI (s + 1)), nI s) := by
        intro h2 q2
        have R2 := R1.q q2 (W'.refl u1)
        have full2 : fX7_isFull h2 o = some 0 := by
          unfold fX7_isFull fX7_isFull_0
          rw [oC_d R2.t1, R2.r, oN_v, oC_d R2.t2, R2.sz, R2.nn, if_pos (nI_lt sm (by omega))]
        have sb : nI (s + 1) - 1 = nI s := by rw [show (1 : Int32) = nI 1 from rfl, nI_sub (by omega)]; rfl
        simp only [fX4_tellName_59, fX7_add, fX7_add_0, R2.t1, R2.r, R2.t2, R2.sz, R2.nn, full2, oN_v, oC_v, oB_v, oB2_v, oB3_v, oB4_v, oK3_v, oK4_v, oL_v, if_true, if_false, and_false, false_and, and_true, true_and, and_self, decide_true, decide_false, reduceCtorEq, not_false_eq_true, not_true_eq_false, Nat.reduceEqDiff, Nat.reduceAdd, Nat.reduceMul, Nat.add_zero, Nat.zero_add, z_hI_sI, z_hL_sI, z_hR_sI, z_hA_sI, z_hB_sI, z_hC_sI, z_hT_sI, z_hN_sI, z_hZ_sI, z_hI_sL, z_hL_sL, z_hR_sL, z_hA_sL, z_hB_sL, z_hC_sL, z_hT_sL, z_hN_sL, z_hZ_sL, z_hI_sR, z_hL_sR, z_hR_sR, z_hA_sR, z_hB_sR, z_hC_sR, z_hT_sR, z_hN_sR, z_hZ_sR, z_hI_sA, z_hL_sA, z_hR_sA, z_hA_sA, z_hB_sA, z_hC_sA, z_hT_sA, z_hN_sA, z_hZ_sA, z_hI_sB, z_hL_sB, z_hR_sB, z_hA_sB, z_hB_sB, z_hC_sB, z_hT_sB, z_hN_sB, z_hZ_sB, z_hI_sC, z_hL_sC, z_hR_sC, z_hA_sC, z_hB_sC, z_hC_sC, z_hT_sC, z_hN_sC, z_hZ_sC, z_hI_sY, z_hL_sY, z_hR_sY, z_hA_sY, z_hB_sY, z_hC_sY, z_hT_sY, z_hN_sY, z_hZ_sY, z_hI_nO, z_hL_nO, z_hR_nO, z_hA_nO, z_hB_nO, z_hC_nO, z_hT_nO, z_hN_nO, z_hZ_nO, z_hI_nA, z_hL_nA, z_hR_nA, z_hA_nA, z_hB_nA, z_hC_nA, z_hT_nA, z_hN_nA, z_hZ_nA, oC_t (ix_n sm (show m < 2147483648 by omega)), nI_clamp (show s < 2147483648 by omega), nI_1, sb]
      have addm : ∀ u2, W' u1 u2 → fX12_tells_62 k u2 (nI s) (nI t) = some (mSB u2 k s (mB u1 8 t), nI t) := by
        intro u2 w2
        unfold fX12_tells_62
        rw [oC_t i8, oC_t (ix_n (show s < mlen k by rw [R.mm]; exact sm) (by rw [R.mm]; omega)), oL_v, nI_clamp (show s < 2147483648 by omega), nI_clamp (show t < 2147483648 by omega), w2.B]
      have bm : fX12_tells_24 k u (nI s) (nI t) = if fd (fun j => decide (hB h1 a j = vD (D t))) s 0 = -1 then fX12_tells_62 k u1 (nI s) (nI t) else oB (fX12_wrong u1 3 (nI t)) (fun h12 => fX12_tells_62 k h12 (nI s) (nI t)) := by
        unfold fX12_tells_24
        rw [e2', oB_v, V'.f0, if_pos (by decide), oC_t i8, nI_clamp (show t < 2147483648 by omega), fm, oB_v]
      have bc : fX4_tellName_22 h 23 (some o) = if fd (fun j => decide (hB h1 a j = vD (D t))) s 0 = -1 then fX4_tellName_59 h1 (some o) (vD (D t)) else oB (fX4_note h1 23 3 (nI (D t).1)) (fun h20 => fX4_tellName_59 h20 (some o) (vD (D t))) := by
        unfold fX4_tellName_22
        rw [oC_d S.t23, oL_v, oL_v, V.pl, V.vl, e1', oB2_v, if_neg (by decide), oN_v, oC_d R1.t1, fc, oB_v, oC_d S1.t23]
      by_cases cf : fd (fun j => decide (hB h1 a j = vD (D t))) s 0 = -1
      · refine ⟨h1, u1, Q1, W1, .inl ⟨vD (D t), mB u1 8 t, N1, c, sm, c2, V', F', M', ?_, ?_⟩⟩
        · rw [goC, bc, if_pos cf, addc h1 (Q.refl h1)]
        · rw [goM, bm, if_pos cf, addm u1 (W'.refl u1)]
      · have pl1 : mA u1 6 t = nI (D t).1 := by rw [W1.A]; exact t5
        obtain ⟨h2, u2, n1, n3, F2, P2, M2, Q2, W2, a2, l2, b2, c3, d2⟩ := note_v S1 F' V'.f0 (i := t) (p := (D t).1) (by omega) (by omega) pl1 (f := 3) (by decide)
        refine ⟨h2, u2, Q1.trans Q2, W1.trans W2, .inl ⟨vD (D t), mB u1 8 t, N1, c, sm, c2, V'.fr a2 l2 b2 c3, F2, M'.trans M2, ?_, ?_⟩⟩
        · rw [goC, bc, if_neg cf, n1, oB_v, addc h2 Q2]
        · rw [goM, bm, if_neg cf, n3, oB_v, addm u2 W2]
    · subst r0
      refine ⟨h1, u1, Q1, W1, .inr ⟨X, ?_, ?_⟩⟩
      · rw [goC]
        simp only [fX4_tellName_22, S.t0, S.t1, S.t3, S.t5, S.t6, S.t8, S.t10, S.t12, S.t14, S.t23, S.t24, S.t7, S.t9, S.t11, S.t13, S.t15, S.t16, S.t17, S.t18, S.t19, S.t20, S.t21, S.t25, S.t29, S.t30, S.t31, S.n7, S.n9, S.n11, S.n13, S.n15, S.n16, S.n17, S.n18, S.n19, S.n20, S.n21, S.n25, S.n29, S.n30, S.n31, S.r1408_0, S.r1409_0, S.r1410_0, S.r1411_0, S.r1412_0, S.r128_5, S.r129_5, S.r130_5, S.r131_5, S.r132_5, S.r133_5, S.r134_5, S.r135_5, S.r136_5, S.r137_5, S.r138_5, S.r512_23, S.r513_23, S.r514_23, S.r515_23, S.r896_6, S.r896_8, S.r896_10, S.r896_12, S.r896_14, S.r1280_24, S.r0_1, S.ttk, S.otk, S.r0_3, S.twk, S.owk, S.r141_5, S.tpg, S.opg, S.r1281_24, S.tkd, S.okd, S.r1282_24, S.tst, S.ost, S.r1283_24, S.tvl, S.ovl, S.o0, S.o1, S.o3, S.o31, S.o5, S.o6, S.o7, S.o8, S.o9, S.o10, S.o11, S.o12, S.o13, S.o14, S.o15, S.o16, S.o17, S.o18, S.o19, S.o20, S.o21, S.o23, S.o24, S.o25, S.o29, S.o30, oN_v, oC_v, oB_v, oB2_v, oB3_v, oB4_v, oK3_v, oK4_v, oL_v, if_true, if_false, and_false, false_and, and_true, true_and, and_self, decide_true, decide_false, reduceCtorEq, not_false_eq_true, not_true_eq_false, Nat.reduceEqDiff, Nat.reduceAdd, Nat.reduceMul, Nat.add_zero, Nat.zero_add, e1']
      · rw [goM]
        unfold fX12_tells_24
        rw [e2', oB_v, if_neg X.f.2.1]
theorem tell_dc (S : SX h G) (X : Ded h u) (o : Nat) : fX4_tellName h 23 (some o) = some (h, -1) := by
  have e := expect_d S X (k := 1) (by omega) (by omega)
  have e' : fX4_expect h 23 260 = some (h, 0) := e
  simp only [fX4_tellName, fX4_tellName_0, fX4_tellName_22, S.t0, S.t1, S.t3, S.t5, S.t6, S.t8, S.t10, S.t12, S.t14, S.t23, S.t24, S.t7, S.t9, S.t11, S.t13, S.t15, S.t16, S.t17, S.t18, S.t19, S.t20, S.t21, S.t25, S.t29, S.t30, S.t31, S.n7, S.n9, S.n11, S.n13, S.n15, S.n16, S.n17, S.n18, S.n19, S.n20, S.n21, S.n25, S.n29, S.n30, S.n31, S.r1408_0, S.r1409_0, S.r1410_0, S.r1411_0, S.r1412_0, S.r128_5, S.r129_5, S.r130_5, S.r131_5, S.r132_5, S.r133_5, S.r134_5, S.r135_5, S.r136_5, S.r137_5, S.r138_5, S.r512_23, S.r513_23, S.r514_23, S.r515_23, S.r896_6, S.r896_8, S.r896_10, S.r896_12, S.r896_14, S.r1280_24, S.r0_1, S.ttk, S.otk, S.r0_3, S.twk, S.owk, S.r141_5, S.tpg, S.opg, S.r1281_24, S.tkd, S.okd, S.r1282_24, S.tst, S.ost, S.r1283_24, S.tvl, S.ovl, S.o0, S.o1, S.o3, S.o31, S.o5, S.o6, S.o7, S.o8, S.o9, S.o10, S.o11, S.o12, S.o13, S.o14, S.o15, S.o16, S.o17, S.o18, S.o19, S.o20, S.o21, S.o23, S.o24, S.o25, S.o29, S.o30, oN_v, oC_v, oB_v, oB2_v, oB3_v, oB4_v, oK3_v, oK4_v, oL_v, if_true, if_false, and_false, false_and, and_true, true_and, and_self, decide_true, decide_false, reduceCtorEq, not_false_eq_true, not_true_eq_false, Nat.reduceEqDiff, Nat.reduceAdd, Nat.reduceMul, Nat.add_zero, Nat.zero_add, X.kd, show ¬ ((264 : Int32) = 260) by decide, e']
theorem tell_dm (X : Ded h u) (kk : (decide (mk k = 2) && decide (mak k = 2)) = true) (x y : Int32) : fX12_tells u k x y = some (u, mI u 11) := by
  unfold fX12_tells fX12_tells_0 fX12_tells_24
  rw [oC_t kk, oL_v, is_d X, oB_v, if_pos rfl, must_d X, oB_v, if_neg X.f.2.1]
/-- a name that must be known -/
theorem known_v (I : PI h u G z L n D) (V : Liv h u D n t) (F : FL h u) (R : RO h u o a k s m) : ∃ h1 u1, Q h h1 ∧ W' u u1 ∧ ((∃ r, (D t).2.1 = 1 ∧ t < 1200 ∧ Liv h1 u1 D n (t + 1) ∧ FL h1 u1 ∧ FM u u1 ∧ (r = -1 ∧ FP u1 (D t).1 ∨ ∃ j, j < s ∧ r = nI j) ∧ fX4_knownName h 23 (some o) = some (h1, r) ∧ ∃ u0, fX12_must u 1 = some u0 ∧ mI u0 13 = 0 ∧ W' u u0 ∧ fX12_known u0 k (nI s) (nI t) = some (u1, r)) ∨ (Ded h1 u1 ∧ (∃ r, fX4_knownName h 23 (some o) = some (h1, r)) ∧ fX12_must u 1 = some u1)) := by
  have S := I.sx
  have lt := V.lt
  have n2 := I.ts.n2
  have m9 := R.m9
  have le := R.le
  have t5 := (I.ts.tk t lt).2.2.2.2.1
  have pb := I.ts.pl t lt
  have lL := I.lL
  obtain ⟨h1, u1, r, e1, e2, Q1, W1, oo⟩ := want_v I V F (k := 1) (by omega) (by omega) (by omega)
  have e1' : fX4_expect h 23 260 = some (h1, r) := e1
  have e2' : fX12_must u 1 = some u1 := e2
  have S1 : SX h1 G := Q1.sx S
  have fc := R.fc (vD (D t))
  rcases oo with ⟨r1, c, c2, V', F', M'⟩ | ⟨r0, X⟩
  · subst r1
    have N := I.ts.name lt c
    have fm := R.fm (mB u 8 t)
    rw [← find_e R.nm N] at fm
    have fm1 : fX12_find u1 k (nI s) (mB u1 8 t) = some (fd (fun j => decide (hB h a j = vD (D t))) s 0) := by
      have R1 := R.q (Q.refl h) W1
      have := R1.fm (mB u1 8 t)
      rw [W1.B] at this ⊢
      rw [this]
      exact congrArg some (find_e R.nm N).symm
    have i8 : ix (nI t) (mlen 8) = true := ix_n (show t < mlen 8 by show t < 1203; omega) (by decide)
    have bc : fX4_knownName h 23 (some o) = if fd (fun j => decide (hB h a j = vD (D t))) s 0 = -1 then oB (fX4_note h1 23 4 (nI (D t).1)) (fun h14 => some (h14, fd (fun j => decide (hB h a j = vD (D t))) s 0)) else some (h1, fd (fun j => decide (hB h a j = vD (D t))) s 0) := by
      unfold fX4_knownName fX4_knownName_0
      rw [oC_d S.t23, oL_v, oN_v, oC_d R.t1, V.vl, fc, oB_v, e1', oB2_v, if_neg (by decide), V.pl, oC_d S1.t23]
    have bm : fX12_known u1 k (nI s) (nI t) = if fd (fun j => decide (hB h a j = vD (D t))) s 0 = -1 then oB (fX12_wrong u1 4 (nI t)) (fun h6 => some (h6, fd (fun j => decide (hB h a j = vD (D t))) s 0)) else some (u1, fd (fun j => decide (hB h a j = vD (D t))) s 0) := by
      unfold fX12_known fX12_known_0
      rw [oC_t R.kk, oC_t i8, nI_clamp (show t < 2147483648 by omega), fm1, oB_v]
    rcases fd_r (fun j => decide (hB h a j = vD (D t))) s 0 with q | ⟨j, _, j2, q, _⟩
    · rw [q] at bc bm
      rw [if_pos rfl] at bc bm
      have pl1 : mA u1 6 t = nI (D t).1 := by rw [W1.A]; exact t5
      obtain ⟨h2, u2, n1, n3, F2, P2, M2, Q2, W2, a2, l2, b2, c3, d2⟩ := note_v S1 F' V'.f0 (i := t) (p := (D t).1) (by omega) (by omega) pl1 (f := 4) (by decide)
      exact ⟨h2, u2, Q1.trans Q2, W1.trans W2, .inl ⟨-1, c, c2, V'.fr a2 l2 b2 c3, F2, M'.trans M2, .inl ⟨rfl, P2⟩, by rw [bc, n1, oB_v], u1, e2', V'.f0, W1, by rw [bm, n3, oB_v]⟩⟩
    · have nj : ¬ nI j = -1 := nI_m1 (by omega)
      rw [q] at bc bm
      rw [if_neg nj] at bc bm
      exact ⟨h1, u1, Q1, W1, .inl ⟨nI j, c, c2, V', F', M', .inr ⟨j, by omega, rfl⟩, bc, u1, e2', V'.f0, W1, bm⟩⟩
  · subst r0
    refine ⟨h1, u1, Q1, W1, .inr ⟨X, ⟨fd (fun j => decide (hB h a j = vD (D t))) s 0, ?_⟩, e2'⟩⟩
    unfold fX4_knownName fX4_knownName_0
    rw [oC_d S.t23, oL_v, oN_v, oC_d R.t1, V.vl, fc, oB_v, e1', oB2_v, if_pos rfl]
end RL
