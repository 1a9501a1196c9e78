theorem nameAt_v {h : PH} {o a n w m : Nat} (t1 : hT h o = 8) (r : hR h 896 o = some a) (t2 : hT h a = 102) (i : hI h 897 o = nI n) (hn : hN h a = m) (hm : n ≤ m) (hm2 : m < 2147483648) (hw : w < n) : fX7_nameAt h o (nI w) = some (hB h a w) := by
  simp only [fX7_nameAt, fX7_nameAt_0, if_neg (nI_pos (n := w) (by omega)), t1, r, t2, i, hn, oN_v, oC_v, oB_v, oB2_v, oB3_v, oB4_v, oK3_v, oK4_v, oL_v, if_true, if_false, and_false, false_and, and_true, true_and, and_self, decide_true, decide_false, reduceCtorEq, not_false_eq_true, not_true_eq_false, Nat.reduceEqDiff, Nat.reduceAdd, Nat.reduceMul, Nat.add_zero, Nat.zero_add, if_neg (nI_ge hw (show n < 2147483648 by omega)), oC_t (ix_n (show w < m by omega) hm2), nI_clamp (show w < 2147483648 by omega)]
theorem placesOf_v {h h0 : PH} {G : Gh} {n w : Nat} (V : TV h h0 G) (i : hI h0 897 8 = nI n) (hn : n ≤ 12) (hw : w < n) : fX1_placesOf h 5 (nI w) = some (hA h0 16 w) := by
  simp only [fX1_placesOf, fX1_placesOf_0, if_neg (nI_pos (n := w) (by omega)), V.t0, V.t5, V.t6, V.t8, V.t10, V.t14, V.t7, V.t9, V.t11, V.t15, V.t16, V.t3, V.n7, V.n9, V.n11, V.n15, V.n16, V.r128_5, V.r129_5, V.r130_5, V.r132_5, V.r133_5, V.r896_6, V.r896_8, V.r896_10, V.r896_14, V.r1409_0, V.r1410_0, V.r1416_0, V.tj0, V.tj10, V.tj11, V.tj19, V.tj20, V.nj10, V.nj11, V.nj19, V.nj20, V.rj640, V.rj646, V.rj647, V.rj657, V.rj658, V.i8, i, oN_v, oC_v, oB_v, oB2_v, oB3_v, oB4_v, oK3_v, oK4_v, oL_v, if_true, if_false, and_false, false_and, and_true, true_and, and_self, decide_true, decide_false, reduceCtorEq, not_false_eq_true, not_true_eq_false, Nat.reduceEqDiff, Nat.reduceAdd, Nat.reduceMul, Nat.add_zero, Nat.zero_add, if_neg (nI_ge hw (show n < 2147483648 by omega)), oC_t (ix_n (show w < 12 by omega) (by omega)), nI_clamp (show w < 2147483648 by omega), V.a16]
/-- the names that a text holds -/
def NA (h : PH) (u : MS) (z : Sz) : Prop := (z.ok) ∧ (∀ i, i < z.np → NR (hB h 7 i) (mB u 25 i)) ∧ (∀ i, i < z.nw → NR (hB h 9 i) (mB u 27 i)) ∧ (∀ i, i < z.nw → ∃ k, k ≤ 2 ∧ hA h 16 i = nI k ∧ mA u 28 i = nI k) ∧ (∀ i, i < z.ns → NR (hB h 11 i) (mB u 29 i)) ∧ (∀ i, i < z.nr → NR (hB h 15 i) (mB u 38 i)) ∧ (hI h 897 6 = nI z.np) ∧ (hI h 897 8 = nI z.nw) ∧ (hI h 897 10 = nI z.ns) ∧ (hI h 897 14 = nI z.nr)
theorem NA.zo {h : PH} {u : MS} {z : Sz} (X_ : NA h u z) : z.ok := X_.1
theorem NA.pn {h : PH} {u : MS} {z : Sz} (X_ : NA h u z) : ∀ i, i < z.np → NR (hB h 7 i) (mB u 25 i) := X_.2.1
theorem NA.wn {h : PH} {u : MS} {z : Sz} (X_ : NA h u z) : ∀ i, i < z.nw → NR (hB h 9 i) (mB u 27 i) := X_.2.2.1
theorem NA.pl {h : PH} {u : MS} {z : Sz} (X_ : NA h u z) : ∀ i, i < z.nw → ∃ k, k ≤ 2 ∧ hA h 16 i = nI k ∧ mA u 28 i = nI k := X_.2.2.2.1
theorem NA.sn {h : PH} {u : MS} {z : Sz} (X_ : NA h u z) : ∀ i, i < z.ns → NR (hB h 11 i) (mB u 29 i) := X_.2.2.2.2.1
theorem NA.rn {h : PH} {u : MS} {z : Sz} (X_ : NA h u z) : ∀ i, i < z.nr → NR (hB h 15 i) (mB u 38 i) := X_.2.2.2.2.2.1
theorem NA.c1 {h : PH} {u : MS} {z : Sz} (X_ : NA h u z) : hI h 897 6 = nI z.np := X_.2.2.2.2.2.2.1
theorem NA.c2 {h : PH} {u : MS} {z : Sz} (X_ : NA h u z) : hI h 897 8 = nI z.nw := X_.2.2.2.2.2.2.2.1
theorem NA.c3 {h : PH} {u : MS} {z : Sz} (X_ : NA h u z) : hI h 897 10 = nI z.ns := X_.2.2.2.2.2.2.2.2.1
theorem NA.c5 {h : PH} {u : MS} {z : Sz} (X_ : NA h u z) : hI h 897 14 = nI z.nr := X_.2.2.2.2.2.2.2.2.2
theorem NA.mk {h : PH} {u : MS} {z : Sz} (zo_ : z.ok) (pn_ : ∀ i, i < z.np → NR (hB h 7 i) (mB u 25 i)) (wn_ : ∀ i, i < z.nw → NR (hB h 9 i) (mB u 27 i)) (pl_ : ∀ i, i < z.nw → ∃ k, k ≤ 2 ∧ hA h 16 i = nI k ∧ mA u 28 i = nI k) (sn_ : ∀ i, i < z.ns → NR (hB h 11 i) (mB u 29 i)) (rn_ : ∀ i, i < z.nr → NR (hB h 15 i) (mB u 38 i)) (c1_ : hI h 897 6 = nI z.np) (c2_ : hI h 897 8 = nI z.nw) (c3_ : hI h 897 10 = nI z.ns) (c5_ : hI h 897 14 = nI z.nr) : NA h u z := ⟨zo_, pn_, wn_, pl_, sn_, rn_, c1_, c2_, c3_, c5_⟩
theorem MO.a {u0 u : MS} {l : List Int32} (W : MO u0 u l) (k i : Nat) (h : k ≠ 113 ∧ k ≠ 114 ∧ k ≠ 115) : mA u k i = mA u0 k i := (W.ag k h).2.2.1 i
theorem MO.b {u0 u : MS} {l : List Int32} (W : MO u0 u l) (k i : Nat) (h : k ≠ 113 ∧ k ≠ 114 ∧ k ≠ 115) : mB u k i = mB u0 k i := (W.ag k h).2.2.2 i
theorem MO.i {u0 u : MS} {l : List Int32} (W : MO u0 u l) (k : Nat) (h : k ≠ 113 ∧ k ≠ 114 ∧ k ≠ 115) : mI u k = mI u0 k := (W.ag k h).1
theorem b10 : (0 : Int32) ≤ by8 10 := by decide
theorem b40 : (0 : Int32) ≤ by8 40 := by decide
theorem b41 : (0 : Int32) ≤ by8 41 := by decide
theorem b44 : (0 : Int32) ≤ by8 44 := by decide
theorem b47 : (0 : Int32) ≤ by8 47 := by decide
theorem Bo.l170 {h0 h : PH} {u0 u : MS} {k k' i j : Nat} {l : List Int32} (b : WB h0 k) (W : BW h0 h 3 k k' 0 l i j) (V : MO u0 u l) (hl : l.length < 490000) : Bo h0 u0 k l i j 1 (fX5_writeLiteral_170 h (some 3)) (fX12_lineOf_230 u) := by
  simp only [fX5_writeLiteral_170, fX12_lineOf_230, oN_v, oC_v, oB_v, oB2_v, oB3_v, oB4_v, oK3_v, oK4_v, oL_v, W.bs.ta, if_true, if_false, and_false, false_and, and_true, true_and, and_self, decide_true, decide_false, reduceCtorEq, not_false_eq_true, not_true_eq_false, Nat.reduceEqDiff, Nat.reduceAdd, Nat.reduceMul, Nat.add_zero, Nat.zero_add]
  exact Bo.seq (m := 0) (Bo.byte b W V (by omega) _ b10) fun h' k2 l' i' j' u' W' V' hn => Bo.nil W' V'
theorem Bo.l121 {h0 h : PH} {u0 u : MS} {G : Gh} {z : Sz} {k' i j p : Nat} {l : List Int32} (S : SX h0 G) (J : G.jj = true) (A : NA h0 u0 z) (b : WB h0 G.wk) (W : BW h0 h 3 G.wk k' 0 l i j) (M : MO u0 u l) (hl : l.length < 450000) (hp : p < 600) (X : (hA h0 (G.jd 11) p = -2 ∧ mA u0 105 p = 0) ∨ ∃ r c, r < z.nr ∧ c < 125 ∧ hA h0 (G.jd 11) p = nI (125 * r + c) ∧ mA u0 105 p = 1 ∧ mA u0 106 p = nI r) : Bo h0 u0 G.wk l i j 17 (fX5_writeLiteral_121 h (G.jd 0) (nI p) (some 3)) (fX12_lineOf_174 u (nI p)) := by
  have V := TV.of S J W
  have o5 := A.zo.2.2.2.2.1
  rcases X with ⟨x1, x2⟩ | ⟨r, c, hr, hc, x1, x2, x3⟩
  · simp only [fX5_writeLiteral_121, fX12_lineOf_174, V.t0, V.t5, V.t6, V.t8, V.t10, V.t14, V.t7, V.t9, V.t11, V.t15, V.t16, V.t3, V.n7, V.n9, V.n11, V.n15, V.n16, V.r128_5, V.r129_5, V.r130_5, V.r132_5, V.r133_5, V.r896_6, V.r896_8, V.r896_10, V.r896_14, V.r1409_0, V.r1410_0, V.r1416_0, V.tj0, V.tj10, V.tj11, V.tj19, V.tj20, V.nj10, V.nj11, V.nj19, V.nj20, V.rj640, V.rj646, V.rj647, V.rj657, V.rj658, oN_v, oC_v, oB_v, oB2_v, oB3_v, oB4_v, oK3_v, oK4_v, oL_v, if_true, if_false, and_false, false_and, and_true, true_and, and_self, decide_true, decide_false, reduceCtorEq, not_false_eq_true, not_true_eq_false, Nat.reduceEqDiff, Nat.reduceAdd, Nat.reduceMul, Nat.add_zero, Nat.zero_add, oC_t (ix_n hp (by omega)), oC_t (ix_n (show p < mlen 105 from hp) (by decide)), nI_clamp (show p < 2147483648 by omega), V.aj11, x1, M.a 105 p (by omega), x2]
    refine Bo.mono (Bo.seq (Bo.t1 b W M (by omega)) fun h' k2 l' i' j' u' W' V' hn => Bo.l170 b W' V' ?_) (by omega)
    rw [List.length_append]; omega
  · have g : ¬ nI (125 * r + c) = -2 := fun q => by
      have := nI_toInt (n := 125 * r + c) (by omega)
      rw [q] at this
      have e2 : ((-2 : Int32)).toInt = -2 := by decide
      omega
    simp only [fX5_writeLiteral_121, fX12_lineOf_174, V.t0, V.t5, V.t6, V.t8, V.t10, V.t14, V.t7, V.t9, V.t11, V.t15, V.t16, V.t3, V.n7, V.n9, V.n11, V.n15, V.n16, V.r128_5, V.r129_5, V.r130_5, V.r132_5, V.r133_5, V.r896_6, V.r896_8, V.r896_10, V.r896_14, V.r1409_0, V.r1410_0, V.r1416_0, V.tj0, V.tj10, V.tj11, V.tj19, V.tj20, V.nj10, V.nj11, V.nj19, V.nj20, V.rj640, V.rj646, V.rj647, V.rj657, V.rj658, oN_v, oC_v, oB_v, oB2_v, oB3_v, oB4_v, oK3_v, oK4_v, oL_v, if_true, if_false, and_false, false_and, and_true, true_and, and_self, decide_true, decide_false, reduceCtorEq, not_false_eq_true, not_true_eq_false, Nat.reduceEqDiff, Nat.reduceAdd, Nat.reduceMul, Nat.add_zero, Nat.zero_add, oC_t (ix_n hp (by omega)), oC_t (ix_n (show p < mlen 105 from hp) (by decide)), oC_t (ix_n (show p < mlen 106 from hp) (by decide)), nI_clamp (show p < 2147483648 by omega), V.aj11, x1, M.a 105 p (by omega), x2, if_neg g, show ¬ ((1 : Int32) = 0) by decide]
    refine Bo.seq (n := 6) (m := 11) (Bo.t2 b W M (by omega)) fun h' k2 l' i' j' u' W' M' hn => ?_
    have V := TV.of S J W'
    have hl' : (l ++ l').length < 450007 := by rw [List.length_append]; omega
    have ed : nI (125 * r + c) / 125 = nI r := by
      rw [show (125 : Int32) = nI 125 from rfl, nI_div (by omega) (by omega)]
      congr 1
      omega
    have e2 := nameAt_v (w := r) V.t14 V.r896_14 V.t15 (V.i14.trans A.c5) V.n15 o5 (by omega) hr
    rw [V.b15] at e2
    simp only [V.t0, V.t5, V.t6, V.t8, V.t10, V.t14, V.t7, V.t9, V.t11, V.t15, V.t16, V.t3, V.n7, V.n9, V.n11, V.n15, V.n16, V.r128_5, V.r129_5, V.r130_5, V.r132_5, V.r133_5, V.r896_6, V.r896_8, V.r896_10, V.r896_14, V.r1409_0, V.r1410_0, V.r1416_0, V.tj0, V.tj10, V.tj11, V.tj19, V.tj20, V.nj10, V.nj11, V.nj19, V.nj20, V.rj640, V.rj646, V.rj647, V.rj657, V.rj658, oN_v, oC_v, oB_v, oB2_v, oB3_v, oB4_v, oK3_v, oK4_v, oL_v, if_true, if_false, and_false, false_and, and_true, true_and, and_self, decide_true, decide_false, reduceCtorEq, not_false_eq_true, not_true_eq_false, Nat.reduceEqDiff, Nat.reduceAdd, Nat.reduceMul, Nat.add_zero, Nat.zero_add, oC_t (ix_n hp (by omega)), nI_clamp (show p < 2147483648 by omega), V.aj11, x1, ed, e2, M'.a 106 p (by omega), x3, oC_t (ix_n (show r < mlen 38 by show r < 30; omega) (by decide)), nI_clamp (show r < 2147483648 by omega), M'.b 38 r (by omega)]
    refine Bo.seq (n := 10) (m := 1) (Bo.name b W' M' (by omega) (A.rn r hr)) fun h' k2 l' i' j' u' W' V' hn => Bo.l170 b W' V' ?_
    rw [List.length_append]
    omega
/-- a line's reason -/
def Rea (h0 : PH) (u0 : MS) (G : Gh) (z : Sz) (p : Nat) : Prop := (hA h0 (G.jd 11) p = -2 ∧ mA u0 105 p = 0) ∨ ∃ r c, r < z.nr ∧ c < 125 ∧ hA h0 (G.jd 11) p = nI (125 * r + c) ∧ mA u0 105 p = 1 ∧ mA u0 106 p = nI r
theorem Bo.l115 {h0 h : PH} {u0 u : MS} {G : Gh} {z : Sz} {k' i j p : Nat} {l : List Int32} (S : SX h0 G) (J : G.jj = true) (A : NA h0 u0 z) (b : WB h0 G.wk) (W : BW h0 h 3 G.wk k' 0 l i j) (M : MO u0 u l) (hl : l.length < 440000) (hp : p < 600) (X : Rea h0 u0 G z p) : Bo h0 u0 G.wk l i j 18 (fX5_writeLiteral_115 h (G.jd 0) (nI p) (some 3)) (fX12_lineOf_168 u (nI p)) := by
  simp only [fX5_writeLiteral_115, fX12_lineOf_168, oN_v, oC_v, oB_v, oB2_v, oB3_v, oB4_v, oK3_v, oK4_v, oL_v, W.bs.ta, if_true, if_false, and_false, false_and, and_true, true_and, and_self, decide_true, decide_false, reduceCtorEq, not_false_eq_true, not_true_eq_false, Nat.reduceEqDiff, Nat.reduceAdd, Nat.reduceMul, Nat.add_zero, Nat.zero_add]
  refine Bo.seq (n := 1) (m := 17) (Bo.byte b W M (by omega) _ b41) fun h' k2 l' i' j' u' W' M' hn => Bo.l121 S J A b W' M' ?_ hp X
  rw [List.length_append]
  omega
theorem Bo.l29 {h0 h : PH} {u0 u : MS} {G : Gh} {z : Sz} {k' i j p n : Nat} {l : List Int32} (S : SX h0 G) (J : G.jj = true) (A : NA h0 u0 z) (b : WB h0 G.wk) (W : BW h0 h 3 G.wk k' 0 l i j) (M : MO u0 u l) (hl : l.length < 420000) (hp : p < 600) (X : Rea h0 u0 G z p) (hw : p / 50 < z.nw) (q1 : hA h0 16 (p / 50) = nI n) (q2 : n ≤ 2) (q3 : 0 < n → p / 10 % 5 < z.np) (q4 : 1 < n → p / 2 % 5 < z.np) : Bo h0 u0 G.wk l i j 50 (fX5_writeLiteral_29 h (G.jd 0) (nI p) (some 3) (nI (p / 50))) (fX12_lineOf_114 u (nI p) (nI (p / 50)) (nI (p / 10 % 5)) (nI (p / 2 % 5)) (nI n)) := by
  have V := TV.of S J W
  obtain ⟨o1, o2, o3, o4, o5, o6⟩ := A.zo
  have e2 := nameAt_v (w := p / 50) V.t8 V.r896_8 V.t9 (V.i8.trans A.c2) V.n9 o2 (by omega) hw
  rw [V.b9] at e2
  simp only [fX5_writeLiteral_29, fX12_lineOf_114, V.t0, V.t5, V.t6, V.t8, V.t10, V.t14, V.t7, V.t9, V.t11, V.t15, V.t16, V.t3, V.n7, V.n9, V.n11, V.n15, V.n16, V.r128_5, V.r129_5, V.r130_5, V.r132_5, V.r133_5, V.r896_6, V.r896_8, V.r896_10, V.r896_14, V.r1409_0, V.r1410_0, V.r1416_0, V.tj0, V.tj10, V.tj11, V.tj19, V.tj20, V.nj10, V.nj11, V.nj19, V.nj20, V.rj640, V.rj646, V.rj647, V.rj657, V.rj658, oN_v, oC_v, oB_v, oB2_v, oB3_v, oB4_v, oK3_v, oK4_v, oL_v, if_true, if_false, and_false, false_and, and_true, true_and, and_self, decide_true, decide_false, reduceCtorEq, not_false_eq_true, not_true_eq_false, Nat.reduceEqDiff, Nat.reduceAdd, Nat.reduceMul, Nat.add_zero, Nat.zero_add, e2, oC_t (ix_n (show p / 50 < mlen 27 by show p / 50 < 12; omega) (by decide)), nI_clamp (show p / 50 < 2147483648 by omega), M.b 27 (p / 50) (by omega)]
  refine Bo.seq (n := 10) (m := 40) (Bo.name b W M (by omega) (A.wn _ hw)) fun h1 k1 l1 i1 j1 u1 W1 M1 n1 => ?_
  have V := TV.of S J W1
  have L1 : (l ++ l1).length < 420011 := by rw [List.length_append]; omega
  simp only [V.t0, V.t5, V.t6, V.t8, V.t10, V.t14, V.t7, V.t9, V.t11, V.t15, V.t16, V.t3, V.n7, V.n9, V.n11, V.n15, V.n16, V.r128_5, V.r129_5, V.r130_5, V.r132_5, V.r133_5, V.r896_6, V.r896_8, V.r896_10, V.r896_14, V.r1409_0, V.r1410_0, V.r1416_0, V.tj0, V.tj10, V.tj11, V.tj19, V.tj20, V.nj10, V.nj11, V.nj19, V.nj20, V.rj640, V.rj646, V.rj647, V.rj657, V.rj658, oN_v, oC_v, oB_v, oB2_v, oB3_v, oB4_v, oK3_v, oK4_v, oL_v, if_true, if_false, and_false, false_and, and_true, true_and, and_self, decide_true, decide_false, reduceCtorEq, not_false_eq_true, not_true_eq_false, Nat.reduceEqDiff, Nat.reduceAdd, Nat.reduceMul, Nat.add_zero, Nat.zero_add, placesOf_v V A.c2 o2 hw, q1]
  by_cases c0 : n = 0
  · rw [if_pos (show nI n ≤ 0 from nI_le (b := 0) (by omega) (by omega)), if_pos (show nI n ≤ 0 from nI_le (b := 0) (by omega) (by omega))]
    exact (Bo.l121 S J A b W1 M1 (by omega) hp X).mono (by omega)
  · have g1 : ¬ nI n ≤ 0 := nI_ge (a := 0) (b := n) (by omega) (by omega)
    rw [if_neg g1, if_neg g1]
    refine Bo.seq (n := 1) (m := 39) (Bo.byte b W1 M1 (by omega) _ b40) fun h2 k2 l2 i2 j2 u2 W2 M2 n2 => ?_
    have V := TV.of S J W2
    have L2 : (l ++ l1 ++ l2).length < 420022 := by rw [List.length_append]; omega
    have hf := q3 (by omega)
    have e3 := nameAt_v (w := p / 10 % 5) V.t6 V.r896_6 V.t7 (V.i6.trans A.c1) V.n7 o1 (by omega) hf
    rw [V.b7] at e3
    have ef : fX5_firstOf (nI p) = some (nI (p / 10 % 5)) := by
      unfold fX5_firstOf fX5_firstOf_0
      rw [show (10 : Int32) = nI 10 from rfl, show (5 : Int32) = nI 5 from rfl, nI_div (by omega) (by omega), nI_mod (by omega) (by omega)]
    simp only [V.t0, V.t5, V.t6, V.t8, V.t10, V.t14, V.t7, V.t9, V.t11, V.t15, V.t16, V.t3, V.n7, V.n9, V.n11, V.n15, V.n16, V.r128_5, V.r129_5, V.r130_5, V.r132_5, V.r133_5, V.r896_6, V.r896_8, V.r896_10, V.r896_14, V.r1409_0, V.r1410_0, V.r1416_0, V.tj0, V.tj10, V.tj11, V.tj19, V.tj20, V.nj10, V.nj11, V.nj19, V.nj20, V.rj640, V.rj646, V.rj647, V.rj657, V.rj658, oN_v, oC_v, oB_v, oB2_v, oB3_v, oB4_v, oK3_v, oK4_v, oL_v, if_true, if_false, and_false, false_and, and_true, true_and, and_self, decide_true, decide_false, reduceCtorEq, not_false_eq_true, not_true_eq_false, Nat.reduceEqDiff, Nat.reduceAdd, Nat.reduceMul, Nat.add_zero, Nat.zero_add, ef, e3, oC_t (ix_n (show p / 10 % 5 < mlen 25 by show p / 10 % 5 < 5; omega) (by decide)), nI_clamp (show p / 10 % 5 < 2147483648 by omega), M2.b 25 (p / 10 % 5) (by omega)]
    refine Bo.seq (n := 10) (m := 29) (Bo.name b W2 M2 (by omega) (A.pn _ hf)) fun h3 k3 l3 i3 j3 u3 W3 M3 n3 => ?_
    have V := TV.of S J W3
    have L3 : (l ++ l1 ++ l2 ++ l3).length < 420033 := by rw [List.length_append]; omega
    simp only [V.t0, V.t5, V.t6, V.t8, V.t10, V.t14, V.t7, V.t9, V.t11, V.t15, V.t16, V.t3, V.n7, V.n9, V.n11, V.n15, V.n16, V.r128_5, V.r129_5, V.r130_5, V.r132_5, V.r133_5, V.r896_6, V.r896_8, V.r896_10, V.r896_14, V.r1409_0, V.r1410_0, V.r1416_0, V.tj0, V.tj10, V.tj11, V.tj19, V.tj20, V.nj10, V.nj11, V.nj19, V.nj20, V.rj640, V.rj646, V.rj647, V.rj657, V.rj658, oN_v, oC_v, oB_v, oB2_v, oB3_v, oB4_v, oK3_v, oK4_v, oL_v, if_true, if_false, and_false, false_and, and_true, true_and, and_self, decide_true, decide_false, reduceCtorEq, not_false_eq_true, not_true_eq_false, Nat.reduceEqDiff, Nat.reduceAdd, Nat.reduceMul, Nat.add_zero, Nat.zero_add, placesOf_v V A.c2 o2 hw, q1]
    by_cases c1 : n = 1
    · rw [if_pos (show nI n ≤ 1 from nI_le (b := 1) (by omega) (by omega)), if_pos (show nI n ≤ 1 from nI_le (b := 1) (by omega) (by omega))]
      exact (Bo.l115 S J A b W3 M3 (by omega) hp X).mono (by omega)
    · have g2 : ¬ nI n ≤ 1 := nI_ge (a := 1) (b := n) (by omega) (by omega)
      rw [if_neg g2, if_neg g2]
      refine Bo.seq (n := 1) (m := 28) (Bo.byte b W3 M3 (by omega) _ b44) fun h4 k4 l4 i4 j4 u4 W4 M4 n4 => ?_
      have V := TV.of S J W4
      have L4 : (l ++ l1 ++ l2 ++ l3 ++ l4).length < 420044 := by rw [List.length_append]; omega
      have hs := q4 (by omega)
      have e5 := nameAt_v (w := p / 2 % 5) V.t6 V.r896_6 V.t7 (V.i6.trans A.c1) V.n7 o1 (by omega) hs
      rw [V.b7] at e5
      have es : fX5_secondOf (nI p) = some (nI (p / 2 % 5)) := by
        unfold fX5_secondOf fX5_secondOf_0
        rw [show (2 : Int32) = nI 2 from rfl, show (5 : Int32) = nI 5 from rfl, nI_div (by omega) (by omega), nI_mod (by omega) (by omega)]
      simp only [V.t0, V.t5, V.t6, V.t8, V.t10, V.t14, V.t7, V.t9, V.t11, V.t15, V.t16, V.t3, V.n7, V.n9, V.n11, V.n15, V.n16, V.r128_5, V.r129_5, V.r130_5, V.r132_5, V.r133_5, V.r896_6, V.r896_8, V.r896_10, V.r896_14, V.r1409_0, V.r1410_0, V.r1416_0, V.tj0, V.tj10, V.tj11, V.tj19, V.tj20, V.nj10, V.nj11, V.nj19, V.nj20, V.rj640, V.rj646, V.rj647, V.rj657, V.rj658, oN_v, oC_v, oB_v, oB2_v, oB3_v, oB4_v, oK3_v, oK4_v, oL_v, if_true, if_false, and_false, false_and, and_true, true_and, and_self, decide_true, decide_false, reduceCtorEq, not_false_eq_true, not_true_eq_false, Nat.reduceEqDiff, Nat.reduceAdd, Nat.reduceMul, Nat.add_zero, Nat.zero_add, es, e5, oC_t (ix_n (show p / 2 % 5 < mlen 25 by show p / 2 % 5 < 5; omega) (by decide)), nI_clamp (show p / 2 % 5 < 2147483648 by omega), M4.b 25 (p / 2 % 5) (by omega)]
      refine Bo.seq (n := 10) (m := 18) (Bo.name b W4 M4 (by omega) (A.pn _ hs)) fun h5 k5 l5 i5 j5 u5 W5 M5 n5 => ?_
      exact Bo.l115 S J A b W5 M5 (by rw [List.length_append]; omega) hp X
/-- the marks of a judgment, as a text needs them -/
def MK (h : PH) (u : MS) (G : Gh) (z : Sz) (jp : Nat) (jw : Nat) (js : Nat) : Prop := (jp ≤ z.np) ∧ (jw ≤ z.nw) ∧ (js ≤ z.ns) ∧ (mI u 97 = nI jp) ∧ (mI u 98 = nI jw) ∧ (mI u 99 = nI js) ∧ (∀ p, p < 600 → isLit (plN u) jw jp p → hA h (G.jd 10) p = mA u 104 p) ∧ (∀ p, p < 600 → ¬ isLit (plN u) jw jp p → hA h (G.jd 10) p = -1) ∧ (∀ p, p < 600 → isLit (plN u) jw jp p → mA u 104 p = 1 → Rea h u G z p) ∧ (∀ k, k < 20 → k / 5 < js → k % 5 < jp → hA h (G.jd 19) k = mA u 110 k ∧ hB h (G.jd 20) (2 * k) = mB u 108 k ∧ hB h (G.jd 20) (2 * k + 1) = mB u 109 k ∧ -1000000000 ≤ mB u 108 k ∧ mB u 108 k ≤ 1000000000 ∧ 0 ≤ mB u 109 k ∧ mB u 109 k ≤ 1000000000 ∧ mA u 111 k = (if mB u 109 k = 0 then 1 else 0)) ∧ (∀ k, k < 20 → ¬ (k / 5 < js ∧ k % 5 < jp) → hA h (G.jd 19) k = 0)
theorem MK.lp {h : PH} {u : MS} {G : Gh} {z : Sz} {jp : Nat} {jw : Nat} {js : Nat} (X_ : MK h u G z jp jw js) : jp ≤ z.np := X_.1
theorem MK.lw {h : PH} {u : MS} {G : Gh} {z : Sz} {jp : Nat} {jw : Nat} {js : Nat} (X_ : MK h u G z jp jw js) : jw ≤ z.nw := X_.2.1
theorem MK.ls {h : PH} {u : MS} {G : Gh} {z : Sz} {jp : Nat} {jw : Nat} {js : Nat} (X_ : MK h u G z jp jw js) : js ≤ z.ns := X_.2.2.1
theorem MK.p2 {h : PH} {u : MS} {G : Gh} {z : Sz} {jp : Nat} {jw : Nat} {js : Nat} (X_ : MK h u G z jp jw js) : mI u 97 = nI jp := X_.2.2.2.1
theorem MK.w2 {h : PH} {u : MS} {G : Gh} {z : Sz} {jp : Nat} {jw : Nat} {js : Nat} (X_ : MK h u G z jp jw js) : mI u 98 = nI jw := X_.2.2.2.2.1
theorem MK.s2 {h : PH} {u : MS} {G : Gh} {z : Sz} {jp : Nat} {jw : Nat} {js : Nat} (X_ : MK h u G z jp jw js) : mI u 99 = nI js := X_.2.2.2.2.2.1
theorem MK.mr {h : PH} {u : MS} {G : Gh} {z : Sz} {jp : Nat} {jw : Nat} {js : Nat} (X_ : MK h u G z jp jw js) : ∀ p, p < 600 → isLit (plN u) jw jp p → hA h (G.jd 10) p = mA u 104 p := X_.2.2.2.2.2.2.1
theorem MK.nm {h : PH} {u : MS} {G : Gh} {z : Sz} {jp : Nat} {jw : Nat} {js : Nat} (X_ : MK h u G z jp jw js) : ∀ p, p < 600 → ¬ isLit (plN u) jw jp p → hA h (G.jd 10) p = -1 := X_.2.2.2.2.2.2.2.1
theorem MK.rs {h : PH} {u : MS} {G : Gh} {z : Sz} {jp : Nat} {jw : Nat} {js : Nat} (X_ : MK h u G z jp jw js) : ∀ p, p < 600 → isLit (plN u) jw jp p → mA u 104 p = 1 → Rea h u G z p := X_.2.2.2.2.2.2.2.2.1
theorem MK.su {h : PH} {u : MS} {G : Gh} {z : Sz} {jp : Nat} {jw : Nat} {js : Nat} (X_ : MK h u G z jp jw js) : ∀ k, k < 20 → k / 5 < js → k % 5 < jp → hA h (G.jd 19) k = mA u 110 k ∧ hB h (G.jd 20) (2 * k) = mB u 108 k ∧ hB h (G.jd 20) (2 * k + 1) = mB u 109 k ∧ -1000000000 ≤ mB u 108 k ∧ mB u 108 k ≤ 1000000000 ∧ 0 ≤ mB u 109 k ∧ mB u 109 k ≤ 1000000000 ∧ mA u 111 k = (if mB u 109 k = 0 then 1 else 0) := X_.2.2.2.2.2.2.2.2.2.1
theorem MK.sz {h : PH} {u : MS} {G : Gh} {z : Sz} {jp : Nat} {jw : Nat} {js : Nat} (X_ : MK h u G z jp jw js) : ∀ k, k < 20 → ¬ (k / 5 < js ∧ k % 5 < jp) → hA h (G.jd 19) k = 0 := X_.2.2.2.2.2.2.2.2.2.2
theorem MK.mk {h : PH} {u : MS} {G : Gh} {z : Sz} {jp : Nat} {jw : Nat} {js : Nat} (lp_ : jp ≤ z.np) (lw_ : jw ≤ z.nw) (ls_ : js ≤ z.ns) (p2_ : mI u 97 = nI jp) (w2_ : mI u 98 = nI jw) (s2_ : mI u 99 = nI js) (mr_ : ∀ p, p < 600 → isLit (plN u) jw jp p → hA h (G.jd 10) p = mA u 104 p) (nm_ : ∀ p, p < 600 → ¬ isLit (plN u) jw jp p → hA h (G.jd 10) p = -1) (rs_ : ∀ p, p < 600 → isLit (plN u) jw jp p → mA u 104 p = 1 → Rea h u G z p) (su_ : ∀ k, k < 20 → k / 5 < js → k % 5 < jp → hA h (G.jd 19) k = mA u 110 k ∧ hB h (G.jd 20) (2 * k) = mB u 108 k ∧ hB h (G.jd 20) (2 * k + 1) = mB u 109 k ∧ -1000000000 ≤ mB u 108 k ∧ mB u 108 k ≤ 1000000000 ∧ 0 ≤ mB u 109 k ∧ mB u 109 k ≤ 1000000000 ∧ mA u 111 k = (if mB u 109 k = 0 then 1 else 0)) (sz_ : ∀ k, k < 20 → ¬ (k / 5 < js ∧ k % 5 < jp) → hA h (G.jd 19) k = 0) : MK h u G z jp jw js := ⟨lp_, lw_, ls_, p2_, w2_, s2_, mr_, nm_, rs_, su_, sz_⟩
theorem wl_no {h0 h : PH} {u0 : MS} {G : Gh} {z : Sz} {jp jw js k' i j p : Nat} {l : List Int32} (S : SX h0 G) (J : G.jj = true) (K : MK h0 u0 G z jp jw js) (W : BW h0 h 3 G.wk k' 0 l i j) (hp : p < 600) (N : ¬ isLit (plN u0) jw jp p) : fX5_writeLiteral h (G.jd 0) (nI p) (some 3) = some (h, 0, 0) := by
  have V := TV.of S J W
  simp only [fX5_writeLiteral, fX5_writeLiteral_0, V.t0, V.t5, V.t6, V.t8, V.t10, V.t14, V.t7, V.t9, V.t11, V.t15, V.t16, V.t3, V.n7, V.n9, V.n11, V.n15, V.n16, V.r128_5, V.r129_5, V.r130_5, V.r132_5, V.r133_5, V.r896_6, V.r896_8, V.r896_10, V.r896_14, V.r1409_0, V.r1410_0, V.r1416_0, V.tj0, V.tj10, V.tj11, V.tj19, V.tj20, V.nj10, V.nj11, V.nj19, V.nj20, V.rj640, V.rj646, V.rj647, V.rj657, V.rj658, oN_v, oC_v, oB_v, oB2_v, oB3_v, oB4_v, oK3_v, oK4_v, oL_v, if_true, if_false, and_false, false_and, and_true, true_and, and_self, decide_true, decide_false, reduceCtorEq, not_false_eq_true, not_true_eq_false, Nat.reduceEqDiff, Nat.reduceAdd, Nat.reduceMul, Nat.add_zero, Nat.zero_add, oC_t (ix_n hp (by omega)), nI_clamp (show p < 2147483648 by omega), V.aj10, K.nm p hp N, show ¬ ((-1 : Int32) = 1) by decide]
theorem Bo.lit {h0 h : PH} {u0 u : MS} {G : Gh} {z : Sz} {jp jw js k' i j p : Nat} {l : List Int32} (S : SX h0 G) (J : G.jj = true) (A : NA h0 u0 z) (K : MK h0 u0 G z jp jw js) (b : WB h0 G.wk) (W : BW h0 h 3 G.wk k' 0 l i j) (M : MO u0 u l) (hl : l.length < 400000) (hp : p < 50 * jw) : Bo h0 u0 G.wk l i j 56 (fX5_writeLiteral h (G.jd 0) (nI p) (some 3)) (fX12_lineOf u (nI p)) := by
  obtain ⟨o1, o2, o3, o4, o5, o6⟩ := A.zo
  have lw := K.lw
  have lp := K.lp
  have hw : p / 50 < jw := by omega
  obtain ⟨n, hn, e1, e2⟩ := A.pl (p / 50) (by omega)
  have V := TV.of S J W
  have pl : plN u0 (p / 50) = n := by
    unfold plN
    rw [e2, nI_clamp (by omega)]
  have d1 : nI p / 50 = nI (p / 50) := by rw [show (50 : Int32) = nI 50 from rfl, nI_div (by omega) (by omega)]
  have d2 : nI p / 10 - nI p / 10 / 5 * 5 = nI (p / 10 % 5) := by
    rw [show (10 : Int32) = nI 10 from rfl, show (5 : Int32) = nI 5 from rfl, nI_div (by omega) (by omega), nI_mod (by omega) (by omega)]
  have d3 : nI p / 2 - nI p / 2 / 5 * 5 = nI (p / 2 % 5) := by
    rw [show (2 : Int32) = nI 2 from rfl, show (5 : Int32) = nI 5 from rfl, nI_div (by omega) (by omega), nI_mod (by omega) (by omega)]
  have d4 : nI p - nI p / 2 * 2 = nI (p % 2) := by
    rw [show (2 : Int32) = nI 2 from rfl, nI_mod (by omega) (by omega)]
  have lo : fX12_lineOf u (nI p) = fX12_lineOf_75 u (nI p) (nI (p / 50)) (nI (p / 10 % 5)) (nI (p / 2 % 5)) (nI n) (if isLit (plN u0) jw jp p then 1 else 0) := by
    simp only [fX12_lineOf, fX12_lineOf_0, fX12_lineOf_47, d1, d2, d3, oN_v, oC_v, oB_v, oB2_v, oB3_v, oB4_v, oK3_v, oK4_v, oL_v, oC_t (ix_n (show p / 50 < mlen 28 by show p / 50 < 12; omega) (by decide)), nI_clamp (show p / 50 < 2147483648 by omega), M.a 28 (p / 50) (by omega), e2, M.i 97 (by omega), K.p2, isLit, pl]
    have z1 : ∀ q, q < 5 → (nI q = 0 ↔ q = 0) := fun q hq => nI_eq (b := 0) (by omega) (by omega)
    have z2 : nI jp ≤ nI (p / 10 % 5) ↔ jp ≤ p / 10 % 5 := nI_leI (by omega) (by omega)
    have z3 : nI jp ≤ nI (p / 2 % 5) ↔ jp ≤ p / 2 % 5 := nI_leI (by omega) (by omega)
    simp only [z1 (p / 10 % 5) (by omega), z1 (p / 2 % 5) (by omega), z2, z3]
    rcases (show n = 0 ∨ n = 1 ∨ n = 2 by omega) with q | q | q <;> subst q
    · simp only [show nI 0 ≤ 0 by decide, show nI 0 ≤ 1 by decide, if_true, hw, Nat.lt_irrefl, if_false, show ¬ (1 < 0) by omega, true_and]
      by_cases a1 : p / 10 % 5 = 0
      · by_cases a2 : p / 2 % 5 = 0
        · simp only [a1, a2, if_true, and_self]
        · simp only [a1, a2, if_true, and_false, if_false]
      · simp only [a1, if_false, false_and]
    · simp only [show ¬ nI 1 ≤ 0 by decide, show nI 1 ≤ 1 by decide, if_true, hw, Nat.lt_irrefl, if_false, show (0 < 1) by omega, true_and]
      by_cases a1 : jp ≤ p / 10 % 5
      · simp only [a1, if_true, show ¬ p / 10 % 5 < jp by omega, false_and, if_false]
      · by_cases a2 : p / 2 % 5 = 0
        · simp only [a1, a2, if_true, if_false, show p / 10 % 5 < jp by omega, and_self]
        · simp only [a1, a2, if_true, and_false, if_false]
    · simp only [show ¬ nI 2 ≤ 0 by decide, show ¬ nI 2 ≤ 1 by decide, if_true, hw, if_false, show (0 < 2) by omega, show (1 < 2) by omega, true_and]
      by_cases a1 : jp ≤ p / 10 % 5
      · simp only [a1, if_true, show ¬ p / 10 % 5 < jp by omega, false_and, if_false]
      · by_cases a2 : jp ≤ p / 2 % 5
        · simp only [a1, a2, if_true, if_false, show ¬ p / 2 % 5 < jp by omega, and_false]
        · simp only [a1, a2, if_true, if_false, show p / 10 % 5 < jp by omega, show p / 2 % 5 < jp by omega, and_self]
  by_cases Y : isLit (plN u0) jw jp p
  · rw [lo, if_pos Y]
    simp only [fX5_writeLiteral, fX5_writeLiteral_0, fX5_wordOf, fX5_wordOf_0, fX12_lineOf_75, V.t0, V.t5, V.t6, V.t8, V.t10, V.t14, V.t7, V.t9, V.t11, V.t15, V.t16, V.t3, V.n7, V.n9, V.n11, V.n15, V.n16, V.r128_5, V.r129_5, V.r130_5, V.r132_5, V.r133_5, V.r896_6, V.r896_8, V.r896_10, V.r896_14, V.r1409_0, V.r1410_0, V.r1416_0, V.tj0, V.tj10, V.tj11, V.tj19, V.tj20, V.nj10, V.nj11, V.nj19, V.nj20, V.rj640, V.rj646, V.rj647, V.rj657, V.rj658, oN_v, oC_v, oB_v, oB2_v, oB3_v, oB4_v, oK3_v, oK4_v, oL_v, if_true, if_false, and_false, false_and, and_true, true_and, and_self, decide_true, decide_false, reduceCtorEq, not_false_eq_true, not_true_eq_false, Nat.reduceEqDiff, Nat.reduceAdd, Nat.reduceMul, Nat.add_zero, Nat.zero_add, oC_t (ix_n (show p < 600 by omega) (by omega)), oC_t (ix_n (show p < mlen 104 by show p < 600; omega) (by decide)), nI_clamp (show p < 2147483648 by omega), V.aj10, K.mr p (by omega) Y, M.a 104 p (by omega), show ¬ ((1 : Int32) = 0) by decide, d1, d4]
    by_cases m1 : mA u0 104 p = 1
    · have X := K.rs p (by omega) Y m1
      have y2 := Y.2
      rw [pl] at y2
      have q3 : 0 < n → p / 10 % 5 < z.np := fun q => by have := y2.1; rw [if_pos q] at this; omega
      have q4 : 1 < n → p / 2 % 5 < z.np := fun q => by have := y2.2; rw [if_pos q] at this; omega
      simp only [if_pos m1]
      by_cases o : nI (p % 2) = 1
      · simp only [if_pos o]
        refine Bo.seq (n := 6) (m := 50) (Bo.t0 b W M (by omega)) fun h1 k1 l1 i1 j1 u1 W1 M1 n1 => ?_
        exact Bo.l29 S J A b W1 M1 (by rw [List.length_append]; omega) (by omega) X (by omega) e1 hn q3 q4
      · simp only [if_neg o]
        exact (Bo.l29 S J A b W M (by omega) (by omega) X (by omega) e1 hn q3 q4).mono (by omega)
    · simp only [if_neg m1]
      exact (Bo.nil W M).mono (by omega)
  · rw [lo, if_neg Y, wl_no S J K W (by omega) Y]
    unfold fX12_lineOf_75
    rw [if_pos rfl]
    exact (Bo.nil W M).mono (by omega)
