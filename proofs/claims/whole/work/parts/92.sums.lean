theorem lgc_eq {a b : Nat} (ha : a < 9223372036854775808) (hb : b < 9223372036854775808) : lg_cmp (nL a) (nL b) = 0 ↔ a = b := by
  unfold lg_cmp
  by_cases h1 : b < a
  · have : nL a > nL b := (nL_lt hb ha).mpr h1
    rw [if_pos this]
    exact ⟨fun q => absurd q (by decide), fun q => by omega⟩
  · have : ¬ nL a > nL b := fun q => h1 ((nL_lt hb ha).mp q)
    rw [if_neg this]
    split
    · exact ⟨fun _ => (nL_inj ha hb).mp (by assumption), fun _ => rfl⟩
    · rename_i q
      exact ⟨fun p => absurd p (by decide), fun p => absurd ((nL_inj ha hb).mpr p) q⟩
theorem nL_of {v : Int64} {m : Nat} (hm : m < 9223372036854775808) (h1 : 0 ≤ v) (h2 : v ≤ nL m) : ∃ w, w ≤ m ∧ v = nL w := by
  have t1 := Int64.le_iff_toInt_le.mp h1
  have t2 := Int64.le_iff_toInt_le.mp h2
  rw [show (0 : Int64).toInt = 0 by decide] at t1
  rw [nL_toInt hm] at t2
  exact ⟨v.toInt.toNat, by omega, Int64.toInt_inj.mp (by rw [nL_toInt (by omega)]; omega)⟩
theorem oB_ite {α β : Type} {c : Prop} {_ : Decidable c} (a b : Option α) (g : α → Option β) : oB (if c then a else b) g = if c then oB a g else oB b g := by
  split <;> rfl
/-- a sum's line -/
def sumLine (u : MS) (s p : Nat) : Option MS :=
  if mA u 110 (5 * s + p) = 0 then some u else oB (fX12_nameOut u (mB u 29 s)) (fun a => oB (fX12_byteOut a 40) (fun b => oB (fX12_nameOut b (mB b 25 p)) (fun c => oB (oB (fX12_byteOut c 41) (fun d => fX12_byteOut d 32)) (fun e => if mA e 111 (5 * s + p) = 0 then oB (fX12_numberOut e (mB e 108 (5 * s + p))) (fun f => if lg_cmp (mB f 109 (5 * s + p)) 1 ≤ 0 then fX12_lineOf_230 f else oB (fX12_byteOut f 47) (fun g => oB (fX12_numberOut g (mB g 109 (5 * s + p))) (fun i => fX12_lineOf_230 i))) else oB (fX12_wordOut e 98 114 111 107 101 110) (fun f => fX12_lineOf_230 f)))))
theorem sumLine_v {u : MS} {s p : Nat} {k40 : MS → Int32 → Option (MS × Int32)} {k50 : MS → Int32 → Int32 → Option (MS × Int32)} {jp : Nat} (h : mI u 97 = nI jp) (hp : p < jp) (hj : jp ≤ 5) (hs : s < 4) : fX12_text_50F k40 k50 u (nI s) (nI p) = oB (sumLine u s p) (fun u' => k50 u' (nI s) (nI (p + 1))) := by
  have e5 : 5 * nI s + nI p = nI (5 * s + p) := by
    rw [show (5 : Int32) = nI 5 from rfl, nI_mul, nI_add]
  simp only [fX12_text_50F, fX12_text_185, fX12_text_179, sumLine, fX12_lineOf_230, h, if_neg (nI_ge hp (show jp < 2147483648 by omega)), e5, oB_as, oB_ite, oN_v, oC_v, oB_v, oB2_v, oB3_v, oB4_v, oK3_v, oK4_v, oL_v, oC_t (ix_n (show 5 * s + p < mlen 110 by show 5 * s + p < 20; omega) (by decide)), oC_t (ix_n (show 5 * s + p < mlen 111 by show 5 * s + p < 20; omega) (by decide)), oC_t (ix_n (show 5 * s + p < mlen 108 by show 5 * s + p < 20; omega) (by decide)), oC_t (ix_n (show 5 * s + p < mlen 109 by show 5 * s + p < 20; omega) (by decide)), oC_t (ix_n (show s < mlen 29 from hs) (by decide)), oC_t (ix_n (show p < mlen 25 by show p < 5; omega) (by decide)), nI_clamp (show 5 * s + p < 2147483648 by omega), nI_clamp (show s < 2147483648 by omega), nI_clamp (show p < 2147483648 by omega), nI_1]
theorem ws_no {h0 h : PH} {u0 : MS} {G : Gh} {z : Sz} {jp jw js k' i j c : Nat} {l : List Int32} (S : SX h0 G) (J : G.jj = true) (K : MK h0 u0 G z jp jw js) (W : BW h0 h 3 G.wk k' 0 l i j) (hc : c < 20) (N : ¬ (c / 5 < js ∧ c % 5 < jp)) : fX5_writeSum h (G.jd 0) (nI c) (some 3) = some (h, 0, 0) := by
  have V := TV.of S J W
  simp only [fX5_writeSum, fX5_writeSum_0, V.t0, V.t5, V.t6, V.t8, V.t10, V.t14, V.t7, V.t9, V.t11, V.t15, V.t16, V.t3, V.n7, V.n9, V.n11, V.n15, V.n16, V.r128_5, V.r129_5, V.r130_5, V.r132_5, V.r133_5, V.r896_6, V.r896_8, V.r896_10, V.r896_14, V.r1409_0, V.r1410_0, V.r1416_0, V.tj0, V.tj10, V.tj11, V.tj19, V.tj20, V.nj10, V.nj11, V.nj19, V.nj20, V.rj640, V.rj646, V.rj647, V.rj657, V.rj658, oN_v, oC_v, oB_v, oB2_v, oB3_v, oB4_v, oK3_v, oK4_v, oL_v, if_true, if_false, and_false, false_and, and_true, true_and, and_self, decide_true, decide_false, reduceCtorEq, not_false_eq_true, not_true_eq_false, Nat.reduceEqDiff, Nat.reduceAdd, Nat.reduceMul, Nat.add_zero, Nat.zero_add, oC_t (ix_n hc (by omega)), nI_clamp (show c < 2147483648 by omega), V.aj19, K.sz c hc N]
theorem Bo.l111 {h0 h : PH} {u0 u : MS} {k k' i j : Nat} {l : List Int32} (b : WB h0 k) (W : BW h0 h 3 k k' 0 l i j) (V : MO u0 u l) (hl : l.length < 490000) : Bo h0 u0 k l i j 1 (fX5_writeSum_111 h (some 3)) (fX12_lineOf_230 u) := by
  simp only [fX5_writeSum_111, fX12_lineOf_230, oN_v, oC_v, oB_v, oB2_v, oB3_v, oB4_v, oK3_v, oK4_v, oL_v, W.bs.ta, if_true, if_false, and_false, false_and, and_true, true_and, and_self, decide_true, decide_false, reduceCtorEq, not_false_eq_true, not_true_eq_false, Nat.reduceEqDiff, Nat.reduceAdd, Nat.reduceMul, Nat.add_zero, Nat.zero_add]
  exact Bo.seq (m := 0) (Bo.byte b W V (by omega) _ b10) fun h' k2 l' i' j' u' W' V' hn => Bo.nil W' V'
theorem Bo.sum {h0 h : PH} {u0 u : MS} {G : Gh} {z : Sz} {jp jw js k' i j s p : Nat} {l : List Int32} (S : SX h0 G) (J : G.jj = true) (A : NA h0 u0 z) (K : MK h0 u0 G z jp jw js) (b : WB h0 G.wk) (W : BW h0 h 3 G.wk k' 0 l i j) (M : MO u0 u l) (hl : l.length < 400000) (hs : s < js) (hp : p < jp) : Bo h0 u0 G.wk l i j 50 (fX5_writeSum h (G.jd 0) (nI (5 * s + p)) (some 3)) (sumLine u s p) := by
  obtain ⟨o1, o2, o3, o4, o5, o6⟩ := A.zo
  have ls := K.ls
  have lp := K.lp
  obtain ⟨x1, x2, x3, x4, x5, x6, x7, x8⟩ := K.su (5 * s + p) (by omega) (by omega) (by omega)
  obtain ⟨w, hw, ew⟩ := nL_of (m := 1000000000) (by omega) x6 x7
  have V := TV.of S J W
  have d1 : nI (5 * s + p) / 5 = nI s := by
    rw [show (5 : Int32) = nI 5 from rfl, nI_div (by omega) (by omega)]
    congr 1; omega
  have d2 : nI (5 * s + p) - nI s * 5 = nI p := by
    rw [show (5 : Int32) = nI 5 from rfl, nI_mul, nI_sub (by omega)]
    congr 1; omega
  have d3 : nI (5 * s + p) * 2 = nI (2 * (5 * s + p)) := by
    rw [show (2 : Int32) = nI 2 from rfl, nI_mul]
    congr 1; omega
  have e2 := nameAt_v (w := s) V.t10 V.r896_10 V.t11 (V.i10.trans A.c3) V.n11 o3 (by omega) (show s < z.ns by omega)
  rw [V.b11] at e2
  unfold sumLine
  rw [M.a 110 _ (by omega)]
  simp only [fX5_writeSum, fX5_writeSum_0, V.t0, V.t5, V.t6, V.t8, V.t10, V.t14, V.t7, V.t9, V.t11, V.t15, V.t16, V.t3, V.n7, V.n9, V.n11, V.n15, V.n16, V.r128_5, V.r129_5, V.r130_5, V.r132_5, V.r133_5, V.r896_6, V.r896_8, V.r896_10, V.r896_14, V.r1409_0, V.r1410_0, V.r1416_0, V.tj0, V.tj10, V.tj11, V.tj19, V.tj20, V.nj10, V.nj11, V.nj19, V.nj20, V.rj640, V.rj646, V.rj647, V.rj657, V.rj658, oN_v, oC_v, oB_v, oB2_v, oB3_v, oB4_v, oK3_v, oK4_v, oL_v, if_true, if_false, and_false, false_and, and_true, true_and, and_self, decide_true, decide_false, reduceCtorEq, not_false_eq_true, not_true_eq_false, Nat.reduceEqDiff, Nat.reduceAdd, Nat.reduceMul, Nat.add_zero, Nat.zero_add, oC_t (ix_n (show 5 * s + p < 20 by omega) (by omega)), nI_clamp (show 5 * s + p < 2147483648 by omega), V.aj19, x1]
  by_cases c0 : mA u0 110 (5 * s + p) = 0
  · rw [if_pos c0, if_pos c0]
    exact (Bo.nil W M).mono (by omega)
  · rw [if_neg c0, if_neg c0]
    simp only [d1, e2, oN_v, oC_v, oB_v, oB2_v, oB3_v, oB4_v, oK3_v, oK4_v, oL_v, M.b 29 s (by omega)]
    refine Bo.seq (n := 10) (m := 40) (Bo.name b W M (by omega) (A.sn s (by omega))) fun h1 k1 l1 i1 j1 u1 W1 M1 n1 => ?_
    have V := TV.of S J W1
    have L1 : (l ++ l1).length < 400011 := by rw [List.length_append]; omega
    simp only [V.t0, V.t5, V.t6, V.t8, V.t10, V.t14, V.t7, V.t9, V.t11, V.t15, V.t16, V.t3, V.n7, V.n9, V.n11, V.n15, V.n16, V.r128_5, V.r129_5, V.r130_5, V.r132_5, V.r133_5, V.r896_6, V.r896_8, V.r896_10, V.r896_14, V.r1409_0, V.r1410_0, V.r1416_0, V.tj0, V.tj10, V.tj11, V.tj19, V.tj20, V.nj10, V.nj11, V.nj19, V.nj20, V.rj640, V.rj646, V.rj647, V.rj657, V.rj658, oN_v, oC_v, oB_v, oB2_v, oB3_v, oB4_v, oK3_v, oK4_v, oL_v, if_true, if_false, and_false, false_and, and_true, true_and, and_self, decide_true, decide_false, reduceCtorEq, not_false_eq_true, not_true_eq_false, Nat.reduceEqDiff, Nat.reduceAdd, Nat.reduceMul, Nat.add_zero, Nat.zero_add]
    refine Bo.seq (n := 1) (m := 39) (Bo.byte b W1 M1 (by omega) _ b40) fun h2 k2 l2 i2 j2 u2 W2 M2 n2 => ?_
    have V := TV.of S J W2
    have L2 : (l ++ l1 ++ l2).length < 400022 := by rw [List.length_append]; omega
    have e3 := nameAt_v (w := p) V.t6 V.r896_6 V.t7 (V.i6.trans A.c1) V.n7 o1 (by omega) (show p < z.np by omega)
    rw [V.b7] at e3
    simp only [V.t0, V.t5, V.t6, V.t8, V.t10, V.t14, V.t7, V.t9, V.t11, V.t15, V.t16, V.t3, V.n7, V.n9, V.n11, V.n15, V.n16, V.r128_5, V.r129_5, V.r130_5, V.r132_5, V.r133_5, V.r896_6, V.r896_8, V.r896_10, V.r896_14, V.r1409_0, V.r1410_0, V.r1416_0, V.tj0, V.tj10, V.tj11, V.tj19, V.tj20, V.nj10, V.nj11, V.nj19, V.nj20, V.rj640, V.rj646, V.rj647, V.rj657, V.rj658, oN_v, oC_v, oB_v, oB2_v, oB3_v, oB4_v, oK3_v, oK4_v, oL_v, if_true, if_false, and_false, false_and, and_true, true_and, and_self, decide_true, decide_false, reduceCtorEq, not_false_eq_true, not_true_eq_false, Nat.reduceEqDiff, Nat.reduceAdd, Nat.reduceMul, Nat.add_zero, Nat.zero_add, d2, e3, M2.b 25 p (by omega)]
    refine Bo.seq (n := 10) (m := 29) (Bo.name b W2 M2 (by omega) (A.pn p (by omega))) fun h3 k3 l3 i3 j3 u3 W3 M3 n3 => ?_
    have V := TV.of S J W3
    have L3 : (l ++ l1 ++ l2 ++ l3).length < 400033 := by rw [List.length_append]; omega
    simp only [V.t0, V.t5, V.t6, V.t8, V.t10, V.t14, V.t7, V.t9, V.t11, V.t15, V.t16, V.t3, V.n7, V.n9, V.n11, V.n15, V.n16, V.r128_5, V.r129_5, V.r130_5, V.r132_5, V.r133_5, V.r896_6, V.r896_8, V.r896_10, V.r896_14, V.r1409_0, V.r1410_0, V.r1416_0, V.tj0, V.tj10, V.tj11, V.tj19, V.tj20, V.nj10, V.nj11, V.nj19, V.nj20, V.rj640, V.rj646, V.rj647, V.rj657, V.rj658, oN_v, oC_v, oB_v, oB2_v, oB3_v, oB4_v, oK3_v, oK4_v, oL_v, if_true, if_false, and_false, false_and, and_true, true_and, and_self, decide_true, decide_false, reduceCtorEq, not_false_eq_true, not_true_eq_false, Nat.reduceEqDiff, Nat.reduceAdd, Nat.reduceMul, Nat.add_zero, Nat.zero_add]
    refine Bo.seq (n := 2) (m := 27) (Bo.t3 b W3 M3 (by omega)) fun h4 k4 l4 i4 j4 u4 W4 M4 n4 => ?_
    have V := TV.of S J W4
    have L4 : (l ++ l1 ++ l2 ++ l3 ++ l4).length < 400044 := by rw [List.length_append]; omega
    simp only [V.t0, V.t5, V.t6, V.t8, V.t10, V.t14, V.t7, V.t9, V.t11, V.t15, V.t16, V.t3, V.n7, V.n9, V.n11, V.n15, V.n16, V.r128_5, V.r129_5, V.r130_5, V.r132_5, V.r133_5, V.r896_6, V.r896_8, V.r896_10, V.r896_14, V.r1409_0, V.r1410_0, V.r1416_0, V.tj0, V.tj10, V.tj11, V.tj19, V.tj20, V.nj10, V.nj11, V.nj19, V.nj20, V.rj640, V.rj646, V.rj647, V.rj657, V.rj658, oN_v, oC_v, oB_v, oB2_v, oB3_v, oB4_v, oK3_v, oK4_v, oL_v, if_true, if_false, and_false, false_and, and_true, true_and, and_self, decide_true, decide_false, reduceCtorEq, not_false_eq_true, not_true_eq_false, Nat.reduceEqDiff, Nat.reduceAdd, Nat.reduceMul, Nat.add_zero, Nat.zero_add, d3, nI_1, oC_t (ix_n (show 2 * (5 * s + p) < 40 by omega) (by omega)), oC_t (ix_n (show 2 * (5 * s + p) + 1 < 40 by omega) (by omega)), nI_clamp (show 2 * (5 * s + p) < 2147483648 by omega), nI_clamp (show 2 * (5 * s + p) + 1 < 2147483648 by omega), V.bj20, x2, x3, M4.a 111 _ (show 111 ≠ 113 ∧ 111 ≠ 114 ∧ 111 ≠ 115 by omega), x8, ew, M4.b 108 _ (show 108 ≠ 113 ∧ 108 ≠ 114 ∧ 108 ≠ 115 by omega)]
    have zq : (lg_cmp (nL w) 0 = 0) = (w = 0) := propext (lgc_eq (b := 0) (by omega) (by omega))
    have zr : (nL w = 0) = (w = 0) := propext (nL_inj (b := 0) (by omega) (by omega))
    simp only [zq, zr]
    by_cases c1 : w = 0
    · simp only [if_pos c1, show ¬ ((1 : Int32) = 0) by decide, if_false]
      refine Bo.mono (Bo.seq (n := 6) (m := 1) (Bo.t4 b W4 M4 (by omega)) fun h5 k5 l5 i5 j5 u5 W5 M5 n5 => Bo.l111 b W5 M5 ?_) (by omega)
      rw [List.length_append]; omega
    · simp only [if_neg c1, if_true]
      refine Bo.seq (n := 11) (m := 16) (Bo.num b W4 M4 (by omega) x4 x5) fun h5 k5 l5 i5 j5 u5 W5 M5 n5 => ?_
      have V := TV.of S J W5
      have L5 : (l ++ l1 ++ l2 ++ l3 ++ l4 ++ l5).length < 400056 := by rw [List.length_append]; omega
      simp only [V.t0, V.t5, V.t6, V.t8, V.t10, V.t14, V.t7, V.t9, V.t11, V.t15, V.t16, V.t3, V.n7, V.n9, V.n11, V.n15, V.n16, V.r128_5, V.r129_5, V.r130_5, V.r132_5, V.r133_5, V.r896_6, V.r896_8, V.r896_10, V.r896_14, V.r1409_0, V.r1410_0, V.r1416_0, V.tj0, V.tj10, V.tj11, V.tj19, V.tj20, V.nj10, V.nj11, V.nj19, V.nj20, V.rj640, V.rj646, V.rj647, V.rj657, V.rj658, oN_v, oC_v, oB_v, oB2_v, oB3_v, oB4_v, oK3_v, oK4_v, oL_v, if_true, if_false, and_false, false_and, and_true, true_and, and_self, decide_true, decide_false, reduceCtorEq, not_false_eq_true, not_true_eq_false, Nat.reduceEqDiff, Nat.reduceAdd, Nat.reduceMul, Nat.add_zero, Nat.zero_add, M5.b 109 _ (show 109 ≠ 113 ∧ 109 ≠ 114 ∧ 109 ≠ 115 by omega), ew]
      have y1 : (lg_cmp (nL w) 1 = 0) = (w = 1) := propext (lgc_eq (b := 1) (by omega) (by omega))
      have y2 : (lg_cmp (nL w) 1 ≤ 0) = (w ≤ 1) := propext (lgc_le (b := 1) (by omega) (by omega))
      simp only [y1, y2]
      by_cases c2 : w = 1
      · rw [if_pos c2, if_pos (by omega)]
        exact (Bo.l111 b W5 M5 (by omega)).mono (by omega)
      · rw [if_neg c2, if_neg (by omega)]
        refine Bo.seq (n := 1) (m := 15) (Bo.byte b W5 M5 (by omega) _ b47) fun h6 k6 l6 i6 j6 u6 W6 M6 n6 => ?_
        have V := TV.of S J W6
        have L6 : (l ++ l1 ++ l2 ++ l3 ++ l4 ++ l5 ++ l6).length < 400067 := by rw [List.length_append]; omega
        simp only [V.t0, V.t5, V.t6, V.t8, V.t10, V.t14, V.t7, V.t9, V.t11, V.t15, V.t16, V.t3, V.n7, V.n9, V.n11, V.n15, V.n16, V.r128_5, V.r129_5, V.r130_5, V.r132_5, V.r133_5, V.r896_6, V.r896_8, V.r896_10, V.r896_14, V.r1409_0, V.r1410_0, V.r1416_0, V.tj0, V.tj10, V.tj11, V.tj19, V.tj20, V.nj10, V.nj11, V.nj19, V.nj20, V.rj640, V.rj646, V.rj647, V.rj657, V.rj658, oN_v, oC_v, oB_v, oB2_v, oB3_v, oB4_v, oK3_v, oK4_v, oL_v, if_true, if_false, and_false, false_and, and_true, true_and, and_self, decide_true, decide_false, reduceCtorEq, not_false_eq_true, not_true_eq_false, Nat.reduceEqDiff, Nat.reduceAdd, Nat.reduceMul, Nat.add_zero, Nat.zero_add, M6.b 109 _ (show 109 ≠ 113 ∧ 109 ≠ 114 ∧ 109 ≠ 115 by omega), ew]
        rw [ew] at x6 x7
        refine Bo.mono (Bo.seq (n := 11) (m := 1) (Bo.num b W6 M6 (by omega) (v := nL w) ?_ x7) fun h7 k7 l7 i7 j7 u7 W7 M7 n7 => Bo.l111 b W7 M7 ?_) (by omega)
        · exact Int64.le_trans (by decide) x6
        · rw [List.length_append]; omega
