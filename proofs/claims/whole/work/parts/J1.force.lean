/-! a rule in force -/
def inf (u : MS) (d1 d2 : Int32) (r : Nat) : Prop := ¬ d1 < mA u 32 (mA u 39 r).toNatClampNeg ∧ ¬ d2 < mA u 33 (mA u 39 r).toNatClampNeg ∧ (mA u 34 (mA u 39 r).toNatClampNeg = -1 ∨ ¬ mA u 34 (mA u 39 r).toNatClampNeg ≤ d2)
theorem forceM {h : PH} {u0 u : MS} {G : Gh} {z : Sz} {d1 d2 : Int32} {r : Nat} (K : KR h u0 G z) (zo : z.ok) (g : MAg kS u0 u) (hr : r < z.nr) : ∃ x, fX12_isInForce u (nI r) d1 d2 = some x ∧ Tf x (inf u0 d1 d2 r) := by
  obtain ⟨l, kk, n, v, h1, h2, h3, h4, h5, h6, h7, _⟩ := K.ru r hr
  obtain ⟨o1, o2, o3, o4, o5, o6⟩ := zo
  have mm : ∀ q, kS q → ∀ i, mA u q i = mA u0 q i := fun q hq => (g q hq).2.2.1
  have el : (mA u0 39 r).toNatClampNeg = l := by rw [h7, nI_clamp (by omega)]
  have x32 : ix (nI l) (mlen 32) = true := ix_n (show l < mlen 32 by show l < 10; omega) (by decide)
  have x33 : ix (nI l) (mlen 33) = true := ix_n (show l < mlen 33 by show l < 10; omega) (by decide)
  have x34 : ix (nI l) (mlen 34) = true := ix_n (show l < mlen 34 by show l < 10; omega) (by decide)
  have cl : Int32.toNatClampNeg (nI l) = l := nI_clamp (by omega)
  unfold fX12_isInForce fX12_isInForce_0 inf
  rw [el]
  simp only [oC_t (ix_n (show r < mlen 39 by show r < 30; omega) (by decide)), nI_clamp (show r < 2147483648 by omega), mm 39 (by unfold kS; omega), h7, oN_v, oC_v, oB_v, oB2_v, oB3_v, oB4_v, oK3_v, oK4_v, oL_v, oC_t x32, oC_t x33, oC_t x34, cl, mm 32 (by unfold kS; omega), mm 33 (by unfold kS; omega), mm 34 (by unfold kS; omega)]
  by_cases a : d1 < mA u0 32 l
  · rw [if_pos a]; exact ⟨0, rfl, .inr ⟨rfl, fun e => e.1 a⟩⟩
  rw [if_neg a]
  by_cases b : d2 < mA u0 33 l
  · rw [if_pos b]; exact ⟨0, rfl, .inr ⟨rfl, fun e => e.2.1 b⟩⟩
  rw [if_neg b]
  by_cases c : mA u0 34 l = -1
  · rw [if_pos c]; exact ⟨1, rfl, .inl ⟨rfl, a, b, .inl c⟩⟩
  rw [if_neg c]
  by_cases d : mA u0 34 l ≤ d2
  · rw [if_pos d]
    refine ⟨0, rfl, .inr ⟨rfl, fun e => ?_⟩⟩
    rcases e.2.2 with q | q
    · exact c q
    · exact q d
  · rw [if_neg d]; exact ⟨1, rfl, .inl ⟨rfl, a, b, .inr d⟩⟩
theorem forceC {h : PH} {u0 : MS} {G : Gh} {z : Sz} {d1 d2 : Int32} {r : Nat} (S : SX h G) (C : SzC h z) (K : KR h u0 G z) (zo : z.ok) (hr : r < z.nr) : ∃ x, fX1_isInForce h 5 (some (G.rl r)) d1 d2 = some x ∧ Tf x (inf u0 d1 d2 r) := by
  have kn := K.nrG
  obtain ⟨l, kk, n, v, h1, h2, h3, h4, h5, h6, h7, _⟩ := K.ru r hr
  obtain ⟨o1, o2, o3, o4, o5, o6⟩ := zo
  obtain ⟨c1, c2, c3, c4, c5, c6, c7⟩ := C
  obtain ⟨q0, q1, q2, q3, q4⟩ := K.lw l h1
  have el : (mA u0 39 r).toNatClampNeg = l := by rw [h7, nI_clamp (by omega)]
  have L1 : fX1_lawColumn h 5 (nI l) 1 = some (mA u0 32 l) := by
    rw [← q1]; exact lawCol_v (k := 1) S c4 o4 h1 (by decide)
  have L2 : fX1_lawColumn h 5 (nI l) 2 = some (mA u0 33 l) := by
    rw [← q2]; exact lawCol_v (k := 2) S c4 o4 h1 (by decide)
  have L3 : fX1_lawColumn h 5 (nI l) 3 = some (mA u0 34 l) := by
    rw [← q3]; exact lawCol_v (k := 3) S c4 o4 h1 (by decide)
  unfold fX1_isInForce fX1_isInForce_0 inf
  rw [el]
  simp only [oN_v, oC_v, oB_v, oB2_v, oB3_v, oB4_v, oK3_v, oK4_v, oL_v, S.rlT r (by omega), S.t0, S.t1, S.t3, S.t5, S.t6, S.t8, S.t10, S.t12, S.t14, S.t23, S.t24, S.t7, S.t9, S.t11, S.t13, S.t15, S.t16, S.t17, S.t18, S.t19, S.t20, S.t21, S.t25, S.t29, S.t30, S.t31, S.n7, S.n9, S.n11, S.n13, S.n15, S.n16, S.n17, S.n18, S.n19, S.n20, S.n21, S.n25, S.n29, S.n30, S.n31, S.r1408_0, S.r1409_0, S.r1410_0, S.r1411_0, S.r1412_0, S.r128_5, S.r129_5, S.r130_5, S.r131_5, S.r132_5, S.r133_5, S.r134_5, S.r135_5, S.r136_5, S.r137_5, S.r138_5, S.r512_23, S.r513_23, S.r514_23, S.r515_23, S.r896_6, S.r896_8, S.r896_10, S.r896_12, S.r896_14, S.r1280_24, S.r0_1, S.ttk, S.otk, S.r0_3, S.twk, S.owk, S.r141_5, S.tpg, S.opg, S.r1281_24, S.tkd, S.okd, S.r1282_24, S.tst, S.ost, S.r1283_24, S.tvl, S.ovl, S.o0, S.o1, S.o3, S.o31, S.o5, S.o6, S.o7, S.o8, S.o9, S.o10, S.o11, S.o12, S.o13, S.o14, S.o15, S.o16, S.o17, S.o18, S.o19, S.o20, S.o21, S.o23, S.o24, S.o25, S.o29, S.o30, if_true, if_false, and_false, false_and, and_true, true_and, and_self, decide_true, decide_false, reduceCtorEq, not_false_eq_true, not_true_eq_false, Nat.reduceEqDiff, Nat.reduceAdd, Nat.reduceMul, Nat.add_zero, Nat.zero_add, h6, L1, L2, L3]
  by_cases a : d1 < mA u0 32 l
  · rw [if_pos a]; exact ⟨0, rfl, .inr ⟨rfl, fun e => e.1 a⟩⟩
  rw [if_neg a]
  by_cases b : d2 < mA u0 33 l
  · rw [if_pos b]; exact ⟨0, rfl, .inr ⟨rfl, fun e => e.2.1 b⟩⟩
  rw [if_neg b]
  by_cases c : mA u0 34 l = -1
  · rw [if_pos c]; exact ⟨1, rfl, .inl ⟨rfl, a, b, .inl c⟩⟩
  rw [if_neg c]
  by_cases d : mA u0 34 l ≤ d2
  · rw [if_pos d]
    refine ⟨0, rfl, .inr ⟨rfl, fun e => ?_⟩⟩
    rcases e.2.2 with q | q
    · exact c q
    · exact q d
  · rw [if_neg d]; exact ⟨1, rfl, .inl ⟨rfl, a, b, .inr d⟩⟩
