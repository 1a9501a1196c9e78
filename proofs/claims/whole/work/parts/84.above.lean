theorem lawCol_v {h : PH} {G : Gh} {nl l k : Nat} (S : SX h G) (c4 : hI h 897 12 = nI nl) (hn : nl ≤ 10) (hl : l < nl) (hk : k < 5) : fX1_lawColumn h 5 (nI l) (nI k) = some (hA h 18 (5 * l + k)) := by
  have ei : nI l * 5 + nI k = nI (5 * l + k) := by
    rw [show (5 : Int32) = nI 5 from rfl, show nI l * nI 5 = nI (l * 5) from (Int32.ofNat_mul l 5).symm, nI_add]
    congr 1; omega
  have y5 : ¬ (5 : Int32) ≤ nI k := nI_ge (b := 5) hk (by omega)
  simp only [fX1_lawColumn, fX1_lawColumn_0, fX1_lawColumn_29, S.t0, S.t1, S.t3, S.t5, S.t6, S.t8, S.t10, S.t12, S.t14, S.t23, S.t24, S.t7, S.t9, S.t11, S.t13, S.t15, S.t16, S.t17, S.t18, S.t19, S.t20, S.t21, S.t25, S.t29, S.t30, S.t31, S.n7, S.n9, S.n11, S.n13, S.n15, S.n16, S.n17, S.n18, S.n19, S.n20, S.n21, S.n25, S.n29, S.n30, S.n31, S.r1408_0, S.r1409_0, S.r1410_0, S.r1411_0, S.r1412_0, S.r128_5, S.r129_5, S.r130_5, S.r131_5, S.r132_5, S.r133_5, S.r134_5, S.r135_5, S.r136_5, S.r137_5, S.r138_5, S.r512_23, S.r513_23, S.r514_23, S.r515_23, S.r896_6, S.r896_8, S.r896_10, S.r896_12, S.r896_14, S.r1280_24, S.r0_1, S.ttk, S.otk, S.r0_3, S.twk, S.owk, S.r141_5, S.tpg, S.opg, S.r1281_24, S.tkd, S.okd, S.r1282_24, S.tst, S.ost, S.r1283_24, S.tvl, S.ovl, S.o0, S.o1, S.o3, S.o31, S.o5, S.o6, S.o7, S.o8, S.o9, S.o10, S.o11, S.o12, S.o13, S.o14, S.o15, S.o16, S.o17, S.o18, S.o19, S.o20, S.o21, S.o23, S.o24, S.o25, S.o29, S.o30, oN_v, oC_v, oB_v, oB2_v, oB3_v, oB4_v, oK3_v, oK4_v, oL_v, if_true, if_false, and_false, false_and, and_true, true_and, and_self, decide_true, decide_false, reduceCtorEq, not_false_eq_true, not_true_eq_false, Nat.reduceEqDiff, Nat.reduceAdd, Nat.reduceMul, Nat.add_zero, Nat.zero_add, c4, if_neg (nI_pos (n := l) (by omega)), if_neg (nI_pos (n := k) (by omega)), if_neg (nI_ge hl (show nl < 2147483648 by omega)), if_neg y5, ei, oC_t (ix_n (show 5 * l + k < 50 by omega) (by omega)), nI_clamp (show 5 * l + k < 2147483648 by omega), show ¬ ((1 : Int32) = 0) by decide]
/-- the laws' order -/
def lawCmp (a b : Nat → Int32) : Int32 := if a 0 = b 0 then (if a 1 = b 1 then (if a 2 ≤ b 2 then 0 else 1) else if a 1 ≤ b 1 then 0 else 1) else if a 0 ≤ b 0 then 0 else 1
theorem lawCmp_01 (a b : Nat → Int32) : lawCmp a b = 0 ∨ lawCmp a b = 1 := by
  unfold lawCmp
  repeat' split
  all_goals simp
theorem isAbove_93_v {h : PH} {G : Gh} {nl l l' x y : Nat} (S : SX h G) (c4 : hI h 897 12 = nI nl) (hn : nl ≤ 10) (hl : l < nl) (hl' : l' < nl) (t1 : hT h x = 9) (t2 : hT h y = 9) (e1 : hI h 1024 x = nI l) (e2 : hI h 1024 y = nI l') : fX1_isAbove_93 FU h 5 (some x) (some y) 0 = some (lawCmp (fun k => hA h 18 (5 * l + k)) (fun k => hA h 18 (5 * l' + k))) := by
  obtain ⟨m, hm⟩ : ∃ m, FU = m + 4 := ⟨99996, rfl⟩
  have st : ∀ (f : Nat) (k : Nat), k < 3 → fX1_isAbove_93 (f + 1) h 5 (some x) (some y) (nI k) = if hA h 18 (5 * l + k) = hA h 18 (5 * l' + k) then fX1_isAbove_93 f h 5 (some x) (some y) (nI (k + 1)) else if hA h 18 (5 * l + k) ≤ hA h 18 (5 * l' + k) then some 0 else some 1 := by
    intro f k hk
    have q : ¬ (2 : Int32) < nI k := nI_nlt (a := 2) (by omega) (by omega)
    show fX1_isAbove_93F (fX1_isAbove_93 f) h 5 (some x) (some y) (nI k) = _
    simp only [fX1_isAbove_93F, if_neg q, S.t0, S.t1, S.t3, S.t5, S.t6, S.t8, S.t10, S.t12, S.t14, S.t23, S.t24, S.t7, S.t9, S.t11, S.t13, S.t15, S.t16, S.t17, S.t18, S.t19, S.t20, S.t21, S.t25, S.t29, S.t30, S.t31, S.n7, S.n9, S.n11, S.n13, S.n15, S.n16, S.n17, S.n18, S.n19, S.n20, S.n21, S.n25, S.n29, S.n30, S.n31, S.r1408_0, S.r1409_0, S.r1410_0, S.r1411_0, S.r1412_0, S.r128_5, S.r129_5, S.r130_5, S.r131_5, S.r132_5, S.r133_5, S.r134_5, S.r135_5, S.r136_5, S.r137_5, S.r138_5, S.r512_23, S.r513_23, S.r514_23, S.r515_23, S.r896_6, S.r896_8, S.r896_10, S.r896_12, S.r896_14, S.r1280_24, S.r0_1, S.ttk, S.otk, S.r0_3, S.twk, S.owk, S.r141_5, S.tpg, S.opg, S.r1281_24, S.tkd, S.okd, S.r1282_24, S.tst, S.ost, S.r1283_24, S.tvl, S.ovl, S.o0, S.o1, S.o3, S.o31, S.o5, S.o6, S.o7, S.o8, S.o9, S.o10, S.o11, S.o12, S.o13, S.o14, S.o15, S.o16, S.o17, S.o18, S.o19, S.o20, S.o21, S.o23, S.o24, S.o25, S.o29, S.o30, oN_v, oC_v, oB_v, oB2_v, oB3_v, oB4_v, oK3_v, oK4_v, oL_v, if_true, if_false, and_false, false_and, and_true, true_and, and_self, decide_true, decide_false, reduceCtorEq, not_false_eq_true, not_true_eq_false, Nat.reduceEqDiff, Nat.reduceAdd, Nat.reduceMul, Nat.add_zero, Nat.zero_add, t1, t2, e1, e2, lawCol_v S c4 hn hl (show k < 5 by omega), lawCol_v S c4 hn hl' (show k < 5 by omega), nI_1]
  have en : ∀ f, fX1_isAbove_93 (f + 1) h 5 (some x) (some y) (nI 3) = some 0 := by
    intro f
    show fX1_isAbove_93F (fX1_isAbove_93 f) h 5 (some x) (some y) (nI 3) = _
    unfold fX1_isAbove_93F
    rw [if_pos (by decide)]
  rw [hm]
  have s0 := st (m + 3) 0 (by omega)
  have s1 := st (m + 2) 1 (by omega)
  have s2 := st (m + 1) 2 (by omega)
  rw [show (0 : Int32) = nI 0 from rfl, s0, s1, s2, en]
  unfold lawCmp
  by_cases q0 : hA h 18 (5 * l + 0) = hA h 18 (5 * l' + 0)
  · by_cases q1 : hA h 18 (5 * l + 1) = hA h 18 (5 * l' + 1)
    · by_cases q2 : hA h 18 (5 * l + 2) = hA h 18 (5 * l' + 2)
      · simp only [if_pos q0, if_pos q1, if_pos q2, q2, Int32.le_refl, if_true, ite_self]
      · simp only [if_pos q0, if_pos q1, if_neg q2]
        split <;> rfl
    · simp only [if_pos q0, if_neg q1]
      split <;> rfl
  · simp only [if_neg q0]
    split <;> rfl
theorem above_v {h : PH} {u : MS} {G : Gh} {z : Sz} {r s : Nat} (S : SX h G) (zo : z.ok) (C : SzC h z) (M : SzM u z) (K : KR h u G z) (hr : r < z.nr) (hs : s < z.nr) : ∃ b : Int32, (b = 0 ∨ b = 1) ∧ fX1_isAbove h 5 (nI r) (nI s) = some b ∧ fX12_isHigher u (mA u 39 r) (mA u 39 s) (nI r) (nI s) = some b := by
  obtain ⟨c1, c2, c3, c4, c5, c6, c7⟩ := C
  obtain ⟨m1, m2, m3, m4, m5, m6, m7⟩ := M
  obtain ⟨o1, o2, o3, o4, o5, o6⟩ := zo
  have kn := K.nrG
  obtain ⟨l, _, _, _, h1, _, _, _, _, h6, h7, _⟩ := K.ru r hr
  obtain ⟨l', _, _, _, h1', _, _, _, _, h6', h7', _⟩ := K.ru s hs
  have tr := S.rlT r (by omega)
  have ts := S.rlT s (by omega)
  have lp : ∀ k i f f', i + k = z.no → ∃ b : Int32, (b = 0 ∨ b = 1) ∧ fX1_isAbove_27 (f + (k + 1)) h 5 (nI r) (nI s) (some (G.rl r)) (some (G.rl s)) (nI i) = some b ∧ fX12_isHigher_3 (f' + (k + 1)) u (mA u 39 r) (mA u 39 s) (nI r) (nI s) (nI i) = some b := by
    intro k
    induction k with
    | zero =>
      intro i f f' e
      have ei : i = z.no := by omega
      subst ei
      refine ⟨lawCmp (fun k => hA h 18 (5 * l + k)) (fun k => hA h 18 (5 * l' + k)), lawCmp_01 _ _, ?_, ?_⟩
      · show fX1_isAbove_27F (fX1_isAbove_27 f) h 5 (nI r) (nI s) (some (G.rl r)) (some (G.rl s)) (nI z.no) = _
        simp only [fX1_isAbove_27F, S.t0, S.t1, S.t3, S.t5, S.t6, S.t8, S.t10, S.t12, S.t14, S.t23, S.t24, S.t7, S.t9, S.t11, S.t13, S.t15, S.t16, S.t17, S.t18, S.t19, S.t20, S.t21, S.t25, S.t29, S.t30, S.t31, S.n7, S.n9, S.n11, S.n13, S.n15, S.n16, S.n17, S.n18, S.n19, S.n20, S.n21, S.n25, S.n29, S.n30, S.n31, S.r1408_0, S.r1409_0, S.r1410_0, S.r1411_0, S.r1412_0, S.r128_5, S.r129_5, S.r130_5, S.r131_5, S.r132_5, S.r133_5, S.r134_5, S.r135_5, S.r136_5, S.r137_5, S.r138_5, S.r512_23, S.r513_23, S.r514_23, S.r515_23, S.r896_6, S.r896_8, S.r896_10, S.r896_12, S.r896_14, S.r1280_24, S.r0_1, S.ttk, S.otk, S.r0_3, S.twk, S.owk, S.r141_5, S.tpg, S.opg, S.r1281_24, S.tkd, S.okd, S.r1282_24, S.tst, S.ost, S.r1283_24, S.tvl, S.ovl, S.o0, S.o1, S.o3, S.o31, S.o5, S.o6, S.o7, S.o8, S.o9, S.o10, S.o11, S.o12, S.o13, S.o14, S.o15, S.o16, S.o17, S.o18, S.o19, S.o20, S.o21, S.o23, S.o24, S.o25, S.o29, S.o30, oN_v, oC_v, oB_v, oB2_v, oB3_v, oB4_v, oK3_v, oK4_v, oL_v, if_true, if_false, and_false, false_and, and_true, true_and, and_self, decide_true, decide_false, reduceCtorEq, not_false_eq_true, not_true_eq_false, Nat.reduceEqDiff, Nat.reduceAdd, Nat.reduceMul, Nat.add_zero, Nat.zero_add, c6, if_pos (nI_le (Nat.le_refl z.no) (show z.no < 2147483648 by omega)), isAbove_93_v S c4 o4 h1 h1' tr ts h6 h6']
      · show fX12_isHigher_3F (fX12_isHigher_3 f') u (mA u 39 r) (mA u 39 s) (nI r) (nI s) (nI z.no) = _
        obtain ⟨w0, w1, w2, _⟩ := K.lw l h1
        obtain ⟨v0, v1, v2, _⟩ := K.lw l' h1'
        simp only [fX12_isHigher_3F, m6, if_pos (nI_le (Nat.le_refl z.no) (show z.no < 2147483648 by omega)), h7, h7', oC_t (ix_n (show l < mlen 31 by show l < 10; omega) (by decide)), oC_t (ix_n (show l' < mlen 31 by show l' < 10; omega) (by decide)), oC_t (ix_n (show l < mlen 32 by show l < 10; omega) (by decide)), oC_t (ix_n (show l' < mlen 32 by show l' < 10; omega) (by decide)), oC_t (ix_n (show l < mlen 33 by show l < 10; omega) (by decide)), oC_t (ix_n (show l' < mlen 33 by show l' < 10; omega) (by decide)), nI_clamp (show l < 2147483648 by omega), nI_clamp (show l' < 2147483648 by omega), ← w0, ← w1, ← w2, ← v0, ← v1, ← v2, nI_eq (show r < 2147483648 by omega) (show s < 2147483648 by omega)]
        unfold lawCmp
        by_cases e : r = s
        · subst e
          have : l = l' := (nI_eq (by omega) (by omega)).mp (h7.symm.trans h7')
          subst this
          simp only [if_true, Int32.le_refl]
        · simp only [if_neg e, Nat.add_zero]
          repeat' split
          all_goals rfl
    | succ k ih =>
      intro i f f' e
      obtain ⟨a, b, ha, hb, hab, e1, e2, e3, e4⟩ := K.ov i (by omega)
      have ge : ¬ nI z.no ≤ nI i := nI_ge (by omega) (by omega)
      obtain ⟨b', hb', q1, q2⟩ := ih (i + 1) f f' (by omega)
      have es : nI i + 1 = nI (i + 1) := nI_add i 1
      by_cases p1 : a = r ∧ b = s
      · refine ⟨1, .inr rfl, ?_, ?_⟩
        · show fX1_isAbove_27F (fX1_isAbove_27 (f + (k + 1))) h 5 (nI r) (nI s) (some (G.rl r)) (some (G.rl s)) (nI i) = _
          simp only [fX1_isAbove_27F, S.t0, S.t1, S.t3, S.t5, S.t6, S.t8, S.t10, S.t12, S.t14, S.t23, S.t24, S.t7, S.t9, S.t11, S.t13, S.t15, S.t16, S.t17, S.t18, S.t19, S.t20, S.t21, S.t25, S.t29, S.t30, S.t31, S.n7, S.n9, S.n11, S.n13, S.n15, S.n16, S.n17, S.n18, S.n19, S.n20, S.n21, S.n25, S.n29, S.n30, S.n31, S.r1408_0, S.r1409_0, S.r1410_0, S.r1411_0, S.r1412_0, S.r128_5, S.r129_5, S.r130_5, S.r131_5, S.r132_5, S.r133_5, S.r134_5, S.r135_5, S.r136_5, S.r137_5, S.r138_5, S.r512_23, S.r513_23, S.r514_23, S.r515_23, S.r896_6, S.r896_8, S.r896_10, S.r896_12, S.r896_14, S.r1280_24, S.r0_1, S.ttk, S.otk, S.r0_3, S.twk, S.owk, S.r141_5, S.tpg, S.opg, S.r1281_24, S.tkd, S.okd, S.r1282_24, S.tst, S.ost, S.r1283_24, S.tvl, S.ovl, S.o0, S.o1, S.o3, S.o31, S.o5, S.o6, S.o7, S.o8, S.o9, S.o10, S.o11, S.o12, S.o13, S.o14, S.o15, S.o16, S.o17, S.o18, S.o19, S.o20, S.o21, S.o23, S.o24, S.o25, S.o29, S.o30, oN_v, oC_v, oB_v, oB2_v, oB3_v, oB4_v, oK3_v, oK4_v, oL_v, if_true, if_false, and_false, false_and, and_true, true_and, and_self, decide_true, decide_false, reduceCtorEq, not_false_eq_true, not_true_eq_false, Nat.reduceEqDiff, Nat.reduceAdd, Nat.reduceMul, Nat.add_zero, Nat.zero_add, c6, if_neg ge, oC_t (ix_n (show i < 20 by omega) (by omega)), nI_clamp (show i < 2147483648 by omega), e1, e3, p1.1, p1.2]
        · show fX12_isHigher_3F (fX12_isHigher_3 (f' + (k + 1))) u (mA u 39 r) (mA u 39 s) (nI r) (nI s) (nI i) = _
          simp only [fX12_isHigher_3F, m6, if_neg ge, oN_v, oC_v, oB_v, oB2_v, oB3_v, oB4_v, oK3_v, oK4_v, oL_v, if_true, if_false, and_false, false_and, and_true, true_and, and_self, decide_true, decide_false, reduceCtorEq, not_false_eq_true, not_true_eq_false, Nat.reduceEqDiff, Nat.reduceAdd, Nat.reduceMul, Nat.add_zero, Nat.zero_add, oC_t (ix_n (show i < mlen 36 by show i < 20; omega) (by decide)), oC_t (ix_n (show i < mlen 37 by show i < 20; omega) (by decide)), nI_clamp (show i < 2147483648 by omega), e2, e4, p1.1, p1.2]
      · by_cases p2 : a = s ∧ b = r
        · refine ⟨0, .inl rfl, ?_, ?_⟩
          · show fX1_isAbove_27F (fX1_isAbove_27 (f + (k + 1))) h 5 (nI r) (nI s) (some (G.rl r)) (some (G.rl s)) (nI i) = _
            simp only [fX1_isAbove_27F, fX1_isAbove_60, S.t0, S.t1, S.t3, S.t5, S.t6, S.t8, S.t10, S.t12, S.t14, S.t23, S.t24, S.t7, S.t9, S.t11, S.t13, S.t15, S.t16, S.t17, S.t18, S.t19, S.t20, S.t21, S.t25, S.t29, S.t30, S.t31, S.n7, S.n9, S.n11, S.n13, S.n15, S.n16, S.n17, S.n18, S.n19, S.n20, S.n21, S.n25, S.n29, S.n30, S.n31, S.r1408_0, S.r1409_0, S.r1410_0, S.r1411_0, S.r1412_0, S.r128_5, S.r129_5, S.r130_5, S.r131_5, S.r132_5, S.r133_5, S.r134_5, S.r135_5, S.r136_5, S.r137_5, S.r138_5, S.r512_23, S.r513_23, S.r514_23, S.r515_23, S.r896_6, S.r896_8, S.r896_10, S.r896_12, S.r896_14, S.r1280_24, S.r0_1, S.ttk, S.otk, S.r0_3, S.twk, S.owk, S.r141_5, S.tpg, S.opg, S.r1281_24, S.tkd, S.okd, S.r1282_24, S.tst, S.ost, S.r1283_24, S.tvl, S.ovl, S.o0, S.o1, S.o3, S.o31, S.o5, S.o6, S.o7, S.o8, S.o9, S.o10, S.o11, S.o12, S.o13, S.o14, S.o15, S.o16, S.o17, S.o18, S.o19, S.o20, S.o21, S.o23, S.o24, S.o25, S.o29, S.o30, oN_v, oC_v, oB_v, oB2_v, oB3_v, oB4_v, oK3_v, oK4_v, oL_v, if_true, if_false, and_false, false_and, and_true, true_and, and_self, decide_true, decide_false, reduceCtorEq, not_false_eq_true, not_true_eq_false, Nat.reduceEqDiff, Nat.reduceAdd, Nat.reduceMul, Nat.add_zero, Nat.zero_add, c6, if_neg ge, oC_t (ix_n (show i < 20 by omega) (by omega)), nI_clamp (show i < 2147483648 by omega), e1, e3, p2.1, p2.2, nI_eq (show r < 2147483648 by omega) (show s < 2147483648 by omega), nI_eq (show s < 2147483648 by omega) (show r < 2147483648 by omega), if_neg (show ¬ s = r by omega)]
          · show fX12_isHigher_3F (fX12_isHigher_3 (f' + (k + 1))) u (mA u 39 r) (mA u 39 s) (nI r) (nI s) (nI i) = _
            simp only [fX12_isHigher_3F, fX12_isHigher_37, m6, if_neg ge, oN_v, oC_v, oB_v, oB2_v, oB3_v, oB4_v, oK3_v, oK4_v, oL_v, if_true, if_false, and_false, false_and, and_true, true_and, and_self, decide_true, decide_false, reduceCtorEq, not_false_eq_true, not_true_eq_false, Nat.reduceEqDiff, Nat.reduceAdd, Nat.reduceMul, Nat.add_zero, Nat.zero_add, oC_t (ix_n (show i < mlen 36 by show i < 20; omega) (by decide)), oC_t (ix_n (show i < mlen 37 by show i < 20; omega) (by decide)), nI_clamp (show i < 2147483648 by omega), e2, e4, p2.1, p2.2, nI_eq (show r < 2147483648 by omega) (show s < 2147483648 by omega), nI_eq (show s < 2147483648 by omega) (show r < 2147483648 by omega), if_neg (show ¬ s = r by omega)]
        · have ne : ∀ x y, x < z.nr → y < z.nr → (nI x = nI y ↔ x = y) := fun x y hx hy => nI_eq (by omega) (by omega)
          refine ⟨b', hb', ?_, ?_⟩
          · show fX1_isAbove_27F (fX1_isAbove_27 (f + (k + 1))) h 5 (nI r) (nI s) (some (G.rl r)) (some (G.rl s)) (nI i) = _
            simp only [fX1_isAbove_27F, fX1_isAbove_60, fX1_isAbove_84, S.t0, S.t1, S.t3, S.t5, S.t6, S.t8, S.t10, S.t12, S.t14, S.t23, S.t24, S.t7, S.t9, S.t11, S.t13, S.t15, S.t16, S.t17, S.t18, S.t19, S.t20, S.t21, S.t25, S.t29, S.t30, S.t31, S.n7, S.n9, S.n11, S.n13, S.n15, S.n16, S.n17, S.n18, S.n19, S.n20, S.n21, S.n25, S.n29, S.n30, S.n31, S.r1408_0, S.r1409_0, S.r1410_0, S.r1411_0, S.r1412_0, S.r128_5, S.r129_5, S.r130_5, S.r131_5, S.r132_5, S.r133_5, S.r134_5, S.r135_5, S.r136_5, S.r137_5, S.r138_5, S.r512_23, S.r513_23, S.r514_23, S.r515_23, S.r896_6, S.r896_8, S.r896_10, S.r896_12, S.r896_14, S.r1280_24, S.r0_1, S.ttk, S.otk, S.r0_3, S.twk, S.owk, S.r141_5, S.tpg, S.opg, S.r1281_24, S.tkd, S.okd, S.r1282_24, S.tst, S.ost, S.r1283_24, S.tvl, S.ovl, S.o0, S.o1, S.o3, S.o31, S.o5, S.o6, S.o7, S.o8, S.o9, S.o10, S.o11, S.o12, S.o13, S.o14, S.o15, S.o16, S.o17, S.o18, S.o19, S.o20, S.o21, S.o23, S.o24, S.o25, S.o29, S.o30, oN_v, oC_v, oB_v, oB2_v, oB3_v, oB4_v, oK3_v, oK4_v, oL_v, if_true, if_false, and_false, false_and, and_true, true_and, and_self, decide_true, decide_false, reduceCtorEq, not_false_eq_true, not_true_eq_false, Nat.reduceEqDiff, Nat.reduceAdd, Nat.reduceMul, Nat.add_zero, Nat.zero_add, c6, if_neg ge, oC_t (ix_n (show i < 20 by omega) (by omega)), nI_clamp (show i < 2147483648 by omega), e1, e3, es, q1, ne a r ha hr, ne a s ha hs, ne b r hb hr, ne b s hb hs]
            repeat' split
            all_goals first | rfl | omega
          · show fX12_isHigher_3F (fX12_isHigher_3 (f' + (k + 1))) u (mA u 39 r) (mA u 39 s) (nI r) (nI s) (nI i) = _
            simp only [fX12_isHigher_3F, fX12_isHigher_37, fX12_isHigher_62, m6, if_neg ge, oN_v, oC_v, oB_v, oB2_v, oB3_v, oB4_v, oK3_v, oK4_v, oL_v, if_true, if_false, and_false, false_and, and_true, true_and, and_self, decide_true, decide_false, reduceCtorEq, not_false_eq_true, not_true_eq_false, Nat.reduceEqDiff, Nat.reduceAdd, Nat.reduceMul, Nat.add_zero, Nat.zero_add, oC_t (ix_n (show i < mlen 36 by show i < 20; omega) (by decide)), oC_t (ix_n (show i < mlen 37 by show i < 20; omega) (by decide)), nI_clamp (show i < 2147483648 by omega), e2, e4, es, q2, ne a r ha hr, ne a s ha hs, ne b r hb hr, ne b s hb hs]
            repeat' split
            all_goals first | rfl | omega
  obtain ⟨f, hf⟩ : ∃ f, FU = f + (z.no + 1) := ⟨FU - (z.no + 1), by have : FU = 100000 := rfl; omega⟩
  obtain ⟨b, hb, q1, q2⟩ := lp z.no 0 f f (by omega)
  refine ⟨b, hb, ?_, ?_⟩
  · rw [← hf] at q1
    simp only [fX1_isAbove, fX1_isAbove_0, S.t0, S.t1, S.t3, S.t5, S.t6, S.t8, S.t10, S.t12, S.t14, S.t23, S.t24, S.t7, S.t9, S.t11, S.t13, S.t15, S.t16, S.t17, S.t18, S.t19, S.t20, S.t21, S.t25, S.t29, S.t30, S.t31, S.n7, S.n9, S.n11, S.n13, S.n15, S.n16, S.n17, S.n18, S.n19, S.n20, S.n21, S.n25, S.n29, S.n30, S.n31, S.r1408_0, S.r1409_0, S.r1410_0, S.r1411_0, S.r1412_0, S.r128_5, S.r129_5, S.r130_5, S.r131_5, S.r132_5, S.r133_5, S.r134_5, S.r135_5, S.r136_5, S.r137_5, S.r138_5, S.r512_23, S.r513_23, S.r514_23, S.r515_23, S.r896_6, S.r896_8, S.r896_10, S.r896_12, S.r896_14, S.r1280_24, S.r0_1, S.ttk, S.otk, S.r0_3, S.twk, S.owk, S.r141_5, S.tpg, S.opg, S.r1281_24, S.tkd, S.okd, S.r1282_24, S.tst, S.ost, S.r1283_24, S.tvl, S.ovl, S.o0, S.o1, S.o3, S.o31, S.o5, S.o6, S.o7, S.o8, S.o9, S.o10, S.o11, S.o12, S.o13, S.o14, S.o15, S.o16, S.o17, S.o18, S.o19, S.o20, S.o21, S.o23, S.o24, S.o25, S.o29, S.o30, oN_v, oC_v, oB_v, oB2_v, oB3_v, oB4_v, oK3_v, oK4_v, oL_v, if_true, if_false, and_false, false_and, and_true, true_and, and_self, decide_true, decide_false, reduceCtorEq, not_false_eq_true, not_true_eq_false, Nat.reduceEqDiff, Nat.reduceAdd, Nat.reduceMul, Nat.add_zero, Nat.zero_add, ruleAt_v S c5 kn hr, ruleAt_v S c5 kn hs]
    exact q1
  · rw [← hf] at q2
    exact q2
theorem ranked_c {h : PH} {u : MS} {G : Gh} {z : Sz} {x : Int32} (S : SX h G) (zo : z.ok) (C : SzC h z) (K : KR h u G z) : (fX1_isRanked h 5 x = some 0 ∧ (x < 0 ∨ nI z.nr ≤ x)) ∨ ∃ j, j < z.nr ∧ x = nI j ∧ fX1_isRanked h 5 x = some (if mA u 40 j = 2 then 0 else 1) := by
  obtain ⟨c1, c2, c3, c4, c5, c6, c7⟩ := C
  have kn := K.nrG
  rcases ruleAt_c (x := x) S c5 kn with ⟨e, hx⟩ | ⟨j, hj, hx, e⟩
  · exact .inl ⟨by simp only [fX1_isRanked, fX1_isRanked_0, S.t0, S.t1, S.t3, S.t5, S.t6, S.t8, S.t10, S.t12, S.t14, S.t23, S.t24, S.t7, S.t9, S.t11, S.t13, S.t15, S.t16, S.t17, S.t18, S.t19, S.t20, S.t21, S.t25, S.t29, S.t30, S.t31, S.n7, S.n9, S.n11, S.n13, S.n15, S.n16, S.n17, S.n18, S.n19, S.n20, S.n21, S.n25, S.n29, S.n30, S.n31, S.r1408_0, S.r1409_0, S.r1410_0, S.r1411_0, S.r1412_0, S.r128_5, S.r129_5, S.r130_5, S.r131_5, S.r132_5, S.r133_5, S.r134_5, S.r135_5, S.r136_5, S.r137_5, S.r138_5, S.r512_23, S.r513_23, S.r514_23, S.r515_23, S.r896_6, S.r896_8, S.r896_10, S.r896_12, S.r896_14, S.r1280_24, S.r0_1, S.ttk, S.otk, S.r0_3, S.twk, S.owk, S.r141_5, S.tpg, S.opg, S.r1281_24, S.tkd, S.okd, S.r1282_24, S.tst, S.ost, S.r1283_24, S.tvl, S.ovl, S.o0, S.o1, S.o3, S.o31, S.o5, S.o6, S.o7, S.o8, S.o9, S.o10, S.o11, S.o12, S.o13, S.o14, S.o15, S.o16, S.o17, S.o18, S.o19, S.o20, S.o21, S.o23, S.o24, S.o25, S.o29, S.o30, oN_v, oC_v, oB_v, oB2_v, oB3_v, oB4_v, oK3_v, oK4_v, oL_v, if_true, if_false, and_false, false_and, and_true, true_and, and_self, decide_true, decide_false, reduceCtorEq, not_false_eq_true, not_true_eq_false, Nat.reduceEqDiff, Nat.reduceAdd, Nat.reduceMul, Nat.add_zero, Nat.zero_add, e], hx⟩
  · refine .inr ⟨j, hj, hx, ?_⟩
    obtain ⟨l, k, n, v, h1, h2, h3, h4, h5, h6, h7, h8, h9, _⟩ := K.ru j hj
    simp only [fX1_isRanked, fX1_isRanked_0, S.t0, S.t1, S.t3, S.t5, S.t6, S.t8, S.t10, S.t12, S.t14, S.t23, S.t24, S.t7, S.t9, S.t11, S.t13, S.t15, S.t16, S.t17, S.t18, S.t19, S.t20, S.t21, S.t25, S.t29, S.t30, S.t31, S.n7, S.n9, S.n11, S.n13, S.n15, S.n16, S.n17, S.n18, S.n19, S.n20, S.n21, S.n25, S.n29, S.n30, S.n31, S.r1408_0, S.r1409_0, S.r1410_0, S.r1411_0, S.r1412_0, S.r128_5, S.r129_5, S.r130_5, S.r131_5, S.r132_5, S.r133_5, S.r134_5, S.r135_5, S.r136_5, S.r137_5, S.r138_5, S.r512_23, S.r513_23, S.r514_23, S.r515_23, S.r896_6, S.r896_8, S.r896_10, S.r896_12, S.r896_14, S.r1280_24, S.r0_1, S.ttk, S.otk, S.r0_3, S.twk, S.owk, S.r141_5, S.tpg, S.opg, S.r1281_24, S.tkd, S.okd, S.r1282_24, S.tst, S.ost, S.r1283_24, S.tvl, S.ovl, S.o0, S.o1, S.o3, S.o31, S.o5, S.o6, S.o7, S.o8, S.o9, S.o10, S.o11, S.o12, S.o13, S.o14, S.o15, S.o16, S.o17, S.o18, S.o19, S.o20, S.o21, S.o23, S.o24, S.o25, S.o29, S.o30, oN_v, oC_v, oB_v, oB2_v, oB3_v, oB4_v, oK3_v, oK4_v, oL_v, if_true, if_false, and_false, false_and, and_true, true_and, and_self, decide_true, decide_false, reduceCtorEq, not_false_eq_true, not_true_eq_false, Nat.reduceEqDiff, Nat.reduceAdd, Nat.reduceMul, Nat.add_zero, Nat.zero_add, e, S.rlT j (by omega), h8, h9]
    split <;> rfl
theorem sp_above : SP_above Inv := by
  intro n c s h u x y ⟨G, z, I, B⟩
  have S := I.sx
  have zo := I.zo
  have o5 := zo.2.2.2.2.1
  have m5 := I.zm.2.2.2.2.1
  simp only [fX11_above, fX11_above_0, fX12_above, fX12_above_0, S.t0, S.t1, S.t3, S.t5, S.t6, S.t8, S.t10, S.t12, S.t14, S.t23, S.t24, S.t7, S.t9, S.t11, S.t13, S.t15, S.t16, S.t17, S.t18, S.t19, S.t20, S.t21, S.t25, S.t29, S.t30, S.t31, S.n7, S.n9, S.n11, S.n13, S.n15, S.n16, S.n17, S.n18, S.n19, S.n20, S.n21, S.n25, S.n29, S.n30, S.n31, S.r1408_0, S.r1409_0, S.r1410_0, S.r1411_0, S.r1412_0, S.r128_5, S.r129_5, S.r130_5, S.r131_5, S.r132_5, S.r133_5, S.r134_5, S.r135_5, S.r136_5, S.r137_5, S.r138_5, S.r512_23, S.r513_23, S.r514_23, S.r515_23, S.r896_6, S.r896_8, S.r896_10, S.r896_12, S.r896_14, S.r1280_24, S.r0_1, S.ttk, S.otk, S.r0_3, S.twk, S.owk, S.r141_5, S.tpg, S.opg, S.r1281_24, S.tkd, S.okd, S.r1282_24, S.tst, S.ost, S.r1283_24, S.tvl, S.ovl, S.o0, S.o1, S.o3, S.o31, S.o5, S.o6, S.o7, S.o8, S.o9, S.o10, S.o11, S.o12, S.o13, S.o14, S.o15, S.o16, S.o17, S.o18, S.o19, S.o20, S.o21, S.o23, S.o24, S.o25, S.o29, S.o30, oN_v, oC_v, oB_v, oB2_v, oB3_v, oB4_v, oK3_v, oK4_v, oL_v, if_true, if_false, and_false, false_and, and_true, true_and, and_self, decide_true, decide_false, reduceCtorEq, not_false_eq_true, not_true_eq_false, Nat.reduceEqDiff, Nat.reduceAdd, Nat.reduceMul, Nat.add_zero, Nat.zero_add, m5]
  rcases ranked_c (x := x) S zo I.zc I.kr with ⟨e, hx⟩ | ⟨j, hj, hx, e⟩
  · refine ⟨-1, by simp only [e, oN_v, oC_v, oB_v, oB2_v, oB3_v, oB4_v, oK3_v, oK4_v, oL_v, if_true, if_false, and_false, false_and, and_true, true_and, and_self, decide_true, decide_false, reduceCtorEq, not_false_eq_true, not_true_eq_false, Nat.reduceEqDiff, Nat.reduceAdd, Nat.reduceMul, Nat.add_zero, Nat.zero_add], ?_, G, z, I, B.dn⟩
    rcases one_c (x := x) (n := z.nr) (by omega) with ⟨e2, _⟩ | ⟨j, hj, hx2, e2⟩
    · simp only [e2, oN_v, oC_v, oB_v, oB2_v, oB3_v, oB4_v, oK3_v, oK4_v, oL_v, if_true, if_false, and_false, false_and, and_true, true_and, and_self, decide_true, decide_false, reduceCtorEq, not_false_eq_true, not_true_eq_false, Nat.reduceEqDiff, Nat.reduceAdd, Nat.reduceMul, Nat.add_zero, Nat.zero_add]
    · subst hx2
      rcases hx with hx | hx
      · exact absurd hx (nI_pos (by omega))
      · exact absurd hx (nI_ge hj (by omega))
  · subst hx
    by_cases k2 : mA u 40 j = 2
    · refine ⟨-1, by simp only [e, k2, oN_v, oC_v, oB_v, oB2_v, oB3_v, oB4_v, oK3_v, oK4_v, oL_v, if_true, if_false, and_false, false_and, and_true, true_and, and_self, decide_true, decide_false, reduceCtorEq, not_false_eq_true, not_true_eq_false, Nat.reduceEqDiff, Nat.reduceAdd, Nat.reduceMul, Nat.add_zero, Nat.zero_add], ?_, G, z, I, B.dn⟩
      simp only [one_y hj (show z.nr < 2147483648 by omega), oN_v, oC_v, oB_v, oB2_v, oB3_v, oB4_v, oK3_v, oK4_v, oL_v, show ¬ ((1 : Int32) = 0) by decide, if_false]
      rcases one_c (x := y) (n := z.nr) (by omega) with ⟨e2, _⟩ | ⟨j2, hj2, hx2, e2⟩
      · simp only [e2, oN_v, oC_v, oB_v, oB2_v, oB3_v, oB4_v, oK3_v, oK4_v, oL_v, if_true, if_false, and_false, false_and, and_true, true_and, and_self, decide_true, decide_false, reduceCtorEq, not_false_eq_true, not_true_eq_false, Nat.reduceEqDiff, Nat.reduceAdd, Nat.reduceMul, Nat.add_zero, Nat.zero_add]
      · simp only [e2, oN_v, oC_v, oB_v, oB2_v, oB3_v, oB4_v, oK3_v, oK4_v, oL_v, if_true, if_false, and_false, false_and, and_true, true_and, and_self, decide_true, decide_false, reduceCtorEq, not_false_eq_true, not_true_eq_false, Nat.reduceEqDiff, Nat.reduceAdd, Nat.reduceMul, Nat.add_zero, Nat.zero_add, show ¬ ((1 : Int32) = 0) by decide, oC_t (ix_n (show j < mlen 40 by show j < 30; omega) (by decide)), nI_clamp (show j < 2147483648 by omega), k2]
    · simp only [e, if_neg k2, one_y hj (show z.nr < 2147483648 by omega), oN_v, oC_v, oB_v, oB2_v, oB3_v, oB4_v, oK3_v, oK4_v, oL_v, show ¬ ((1 : Int32) = 0) by decide, if_false, oC_t (ix_n (show j < mlen 40 by show j < 30; omega) (by decide)), nI_clamp (show j < 2147483648 by omega)]
      rcases ranked_c (x := y) S zo I.zc I.kr with ⟨e', hx'⟩ | ⟨j', hj', hx', e'⟩
      · refine ⟨-1, by simp only [e', oN_v, oC_v, oB_v, oB2_v, oB3_v, oB4_v, oK3_v, oK4_v, oL_v, if_true, if_false, and_false, false_and, and_true, true_and, and_self, decide_true, decide_false, reduceCtorEq, not_false_eq_true, not_true_eq_false, Nat.reduceEqDiff, Nat.reduceAdd, Nat.reduceMul, Nat.add_zero, Nat.zero_add], ?_, G, z, I, B.dn⟩
        rcases one_c (x := y) (n := z.nr) (by omega) with ⟨e2, _⟩ | ⟨j2, hj2, hx2, e2⟩
        · simp only [e2, oN_v, oC_v, oB_v, oB2_v, oB3_v, oB4_v, oK3_v, oK4_v, oL_v, if_true, if_false, and_false, false_and, and_true, true_and, and_self, decide_true, decide_false, reduceCtorEq, not_false_eq_true, not_true_eq_false, Nat.reduceEqDiff, Nat.reduceAdd, Nat.reduceMul, Nat.add_zero, Nat.zero_add]
        · subst hx2
          rcases hx' with hx' | hx'
          · exact absurd hx' (nI_pos (by omega))
          · exact absurd hx' (nI_ge hj2 (by omega))
      · subst hx'
        simp only [e', one_y hj' (show z.nr < 2147483648 by omega), oN_v, oC_v, oB_v, oB2_v, oB3_v, oB4_v, oK3_v, oK4_v, oL_v, show ¬ ((1 : Int32) = 0) by decide, if_false, oC_t (ix_n (show j' < mlen 40 by show j' < 30; omega) (by decide)), nI_clamp (show j' < 2147483648 by omega)]
        by_cases k2' : mA u 40 j' = 2
        · exact ⟨-1, by simp only [if_pos k2', if_true, if_false, and_false, false_and, and_true, true_and, and_self, decide_true, decide_false, reduceCtorEq, not_false_eq_true, not_true_eq_false, Nat.reduceEqDiff, Nat.reduceAdd, Nat.reduceMul, Nat.add_zero, Nat.zero_add], by simp only [if_pos k2', if_true, if_false, and_false, false_and, and_true, true_and, and_self, decide_true, decide_false, reduceCtorEq, not_false_eq_true, not_true_eq_false, Nat.reduceEqDiff, Nat.reduceAdd, Nat.reduceMul, Nat.add_zero, Nat.zero_add], G, z, I, B.dn⟩
        · obtain ⟨b, hb, q1, q2⟩ := above_v S zo I.zc I.zm I.kr hj hj'
          simp only [if_neg k2', oC_t (ix_n (show j < mlen 39 by show j < 30; omega) (by decide)), oC_t (ix_n (show j' < mlen 39 by show j' < 30; omega) (by decide)), q1, q2, oN_v, oC_v, oB_v, oB2_v, oB3_v, oB4_v, oK3_v, oK4_v, oL_v, show ¬ ((1 : Int32) = 0) by decide, if_false]
          rcases hb with q | q <;> subst q
          · exact ⟨0, by simp only [if_true, if_false, and_false, false_and, and_true, true_and, and_self, decide_true, decide_false, reduceCtorEq, not_false_eq_true, not_true_eq_false, Nat.reduceEqDiff, Nat.reduceAdd, Nat.reduceMul, Nat.add_zero, Nat.zero_add], by simp only [if_true, if_false, and_false, false_and, and_true, true_and, and_self, decide_true, decide_false, reduceCtorEq, not_false_eq_true, not_true_eq_false, Nat.reduceEqDiff, Nat.reduceAdd, Nat.reduceMul, Nat.add_zero, Nat.zero_add], G, z, I, B.dn⟩
          · exact ⟨1, by simp only [if_true, if_false, and_false, false_and, and_true, true_and, and_self, decide_true, decide_false, reduceCtorEq, not_false_eq_true, not_true_eq_false, Nat.reduceEqDiff, Nat.reduceAdd, Nat.reduceMul, Nat.add_zero, Nat.zero_add, show ¬ ((1 : Int32) = 0) by decide], by simp only [if_true, if_false, and_false, false_and, and_true, true_and, and_self, decide_true, decide_false, reduceCtorEq, not_false_eq_true, not_true_eq_false, Nat.reduceEqDiff, Nat.reduceAdd, Nat.reduceMul, Nat.add_zero, Nat.zero_add, show ¬ ((1 : Int32) = 0) by decide], G, z, I, B.dn⟩
