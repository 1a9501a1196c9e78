-- needs: 63 70 71 72 73
theorem ite_some {α : Type} {c : Prop} {_ : Decidable c} {a b : Option α} (ha : ∃ r, a = some r) (hb : ∃ r, b = some r) : ∃ r, (if c then a else b) = some r := by
  split
  · exact ha
  · exact hb
theorem nI_idx {x : Int32} {n : Nat} (hn : n < 2147483648) (h1 : ¬ x < 0) (h2 : ¬ nI n ≤ x) : ∃ j, j < n ∧ x = nI j := by
  obtain ⟨j, hj, e⟩ := nI_of h1
  subst e
  rw [nI_leI (by omega) (by omega)] at h2
  exact ⟨j, by omega, rfl⟩
theorem ix_n {j n : Nat} (h : j < n) (hn : n < 2147483648) : ix (nI j) n = true := by
  unfold ix
  rw [nI_clamp (by omega), decide_eq_true (nI_pos' (by omega)), decide_eq_true h]
  rfl
theorem one_y {j n : Nat} (h : j < n) (hn : n < 2147483648) : fX12_isOne (nI j) (nI n) = some 1 := by
  simp only [fX12_isOne, fX12_isOne_0, if_neg (nI_pos (n := j) (by omega)), if_neg (nI_ge h hn)]
theorem one_c {x : Int32} {n : Nat} (hn : n < 2147483648) : fX12_isOne x (nI n) = some 0 ∧ (x < 0 ∨ nI n ≤ x) ∨ ∃ j, j < n ∧ x = nI j ∧ fX12_isOne x (nI n) = some 1 := by
  by_cases h1 : x < 0
  · exact .inl ⟨by simp only [fX12_isOne, fX12_isOne_0, if_pos h1], .inl h1⟩
  · by_cases h2 : nI n ≤ x
    · exact .inl ⟨by simp only [fX12_isOne, fX12_isOne_0, if_neg h1, if_pos h2], .inr h2⟩
    · obtain ⟨j, hj, e⟩ := nI_idx hn h1 h2
      exact .inr ⟨j, hj, e, by rw [e]; exact one_y hj hn⟩
theorem tally_v {h : PH} {u : MS} {G : Gh} {z : Sz} (I : Iv h u G z) : fX11_judgedTally h 0 0 = some (mI u 101) ∧ fX11_judgedTally h 0 1 = some (mI u 100) ∧ fX11_judgedTally h 0 2 = some (mI u 102) ∧ fX11_judgedTally h 0 3 = some (mI u 103) := by
  have S := I.sx
  rcases I.ju with ⟨J, h0, h1, h2, h3, h4⟩ | ⟨J, h0, js, jp, jw, jj, K⟩
  · simp only [fX11_judgedTally, fX11_judgedTally_0, S.t0, S.t1, S.t3, S.t5, S.t6, S.t8, S.t10, S.t12, S.t14, S.t23, S.t24, S.t7, S.t9, S.t11, S.t13, S.t15, S.t16, S.t17, S.t18, S.t19, S.t20, S.t21, S.t25, S.t29, S.t30, S.t31, S.n7, S.n9, S.n11, S.n13, S.n15, S.n16, S.n17, S.n18, S.n19, S.n20, S.n21, S.n25, S.n29, S.n30, S.n31, S.r1408_0, S.r1409_0, S.r1410_0, S.r1411_0, S.r1412_0, S.r128_5, S.r129_5, S.r130_5, S.r131_5, S.r132_5, S.r133_5, S.r134_5, S.r135_5, S.r136_5, S.r137_5, S.r138_5, S.r512_23, S.r513_23, S.r514_23, S.r515_23, S.r896_6, S.r896_8, S.r896_10, S.r896_12, S.r896_14, S.r1280_24, S.r0_1, S.ttk, S.otk, S.r0_3, S.twk, S.owk, S.r141_5, S.tpg, S.opg, S.r1281_24, S.tkd, S.okd, S.r1282_24, S.tst, S.ost, S.r1283_24, S.tvl, S.ovl, S.o0, S.o1, S.o3, S.o31, S.o5, S.o6, S.o7, S.o8, S.o9, S.o10, S.o11, S.o12, S.o13, S.o14, S.o15, S.o16, S.o17, S.o18, S.o19, S.o20, S.o21, S.o23, S.o24, S.o25, S.o29, S.o30, oN_v, oC_v, oB_v, oB2_v, oB3_v, oB4_v, oK3_v, oK4_v, oL_v, decide_true, S.jN J, if_true, h1, h2, h3, h4, true_and]
  · have e : ∀ k, k < 4 → fX11_judgedTally h 0 (nI k) = some (hA h (G.jd 18) k) := by
      intro k hk
      simp only [fX11_judgedTally, fX11_judgedTally_0, S.t0, S.t1, S.t3, S.t5, S.t6, S.t8, S.t10, S.t12, S.t14, S.t23, S.t24, S.t7, S.t9, S.t11, S.t13, S.t15, S.t16, S.t17, S.t18, S.t19, S.t20, S.t21, S.t25, S.t29, S.t30, S.t31, S.n7, S.n9, S.n11, S.n13, S.n15, S.n16, S.n17, S.n18, S.n19, S.n20, S.n21, S.n25, S.n29, S.n30, S.n31, S.r1408_0, S.r1409_0, S.r1410_0, S.r1411_0, S.r1412_0, S.r128_5, S.r129_5, S.r130_5, S.r131_5, S.r132_5, S.r133_5, S.r134_5, S.r135_5, S.r136_5, S.r137_5, S.r138_5, S.r512_23, S.r513_23, S.r514_23, S.r515_23, S.r896_6, S.r896_8, S.r896_10, S.r896_12, S.r896_14, S.r1280_24, S.r0_1, S.ttk, S.otk, S.r0_3, S.twk, S.owk, S.r141_5, S.tpg, S.opg, S.r1281_24, S.tkd, S.okd, S.r1282_24, S.tst, S.ost, S.r1283_24, S.tvl, S.ovl, S.o0, S.o1, S.o3, S.o31, S.o5, S.o6, S.o7, S.o8, S.o9, S.o10, S.o11, S.o12, S.o13, S.o14, S.o15, S.o16, S.o17, S.o18, S.o19, S.o20, S.o21, S.o23, S.o24, S.o25, S.o29, S.o30, S.jY J, S.jt0 J, S.jt1 J, S.jt2 J, S.jt3 J, S.jt4 J, S.jt5 J, S.jt6 J, S.jt7 J, S.jt8 J, S.jt9 J, S.jt10 J, S.jt11 J, S.jt12 J, S.jt13 J, S.jt14 J, S.jt15 J, S.jt16 J, S.jt17 J, S.jt18 J, S.jt19 J, S.jt20 J, S.jn2 J, S.jn3 J, S.jn9 J, S.jn10 J, S.jn11 J, S.jn12 J, S.jn13 J, S.jn14 J, S.jn18 J, S.jn19 J, S.jn20 J, S.jr640 J, S.jr641 J, S.jr768 J, S.jr769 J, S.jr770 J, S.jr771 J, S.jr772 J, S.jr773 J, S.jr774 J, S.jr775 J, S.jr645 J, S.jr646 J, S.jr647 J, S.jr648 J, S.jr649 J, S.jr650 J, S.jr652 J, S.jr653 J, S.jr654 J, S.jr656 J, S.jr657 J, S.jr658 J, oN_v, oC_v, oB_v, oB2_v, oB3_v, oB4_v, oK3_v, oK4_v, oL_v, decide_true, reduceCtorEq, if_false, oC_t (ix_n hk (by omega)), nI_clamp (show k < 2147483648 by omega)]
    exact ⟨(e 0 (by omega)).trans (by rw [K.t0]), (e 1 (by omega)).trans (by rw [K.t1]), (e 2 (by omega)).trans (by rw [K.t2]), (e 3 (by omega)).trans (by rw [K.t3])⟩
theorem sp_count : SP_count Inv := by
  intro n c s h u x ⟨G, z, I, B⟩
  have S := I.sx
  obtain ⟨c1, c2, c3, c4, c5, c6, c7⟩ := I.zc
  obtain ⟨m1, m2, m3, m4, m5, m6, m7⟩ := I.zm
  obtain ⟨d, hd, d1, d2⟩ := I.dy
  obtain ⟨l, l1, l2, l3, l4, l5⟩ := I.tp.ex
  have T := I.te
  obtain ⟨t0, t1, t2, t3⟩ := tally_v I
  have e : fX11_count h 0 x = fX12_count u x := by
    simp only [fX11_count, fX11_count_0, fX12_count, fX12_count_0, S.t0, S.t1, S.t3, S.t5, S.t6, S.t8, S.t10, S.t12, S.t14, S.t23, S.t24, S.t7, S.t9, S.t11, S.t13, S.t15, S.t16, S.t17, S.t18, S.t19, S.t20, S.t21, S.t25, S.t29, S.t30, S.t31, S.n7, S.n9, S.n11, S.n13, S.n15, S.n16, S.n17, S.n18, S.n19, S.n20, S.n21, S.n25, S.n29, S.n30, S.n31, S.r1408_0, S.r1409_0, S.r1410_0, S.r1411_0, S.r1412_0, S.r128_5, S.r129_5, S.r130_5, S.r131_5, S.r132_5, S.r133_5, S.r134_5, S.r135_5, S.r136_5, S.r137_5, S.r138_5, S.r512_23, S.r513_23, S.r514_23, S.r515_23, S.r896_6, S.r896_8, S.r896_10, S.r896_12, S.r896_14, S.r1280_24, S.r0_1, S.ttk, S.otk, S.r0_3, S.twk, S.owk, S.r141_5, S.tpg, S.opg, S.r1281_24, S.tkd, S.okd, S.r1282_24, S.tst, S.ost, S.r1283_24, S.tvl, S.ovl, S.o0, S.o1, S.o3, S.o31, S.o5, S.o6, S.o7, S.o8, S.o9, S.o10, S.o11, S.o12, S.o13, S.o14, S.o15, S.o16, S.o17, S.o18, S.o19, S.o20, S.o21, S.o23, S.o24, S.o25, S.o29, S.o30, oN_v, oC_v, oB_v, oB2_v, oB3_v, oB4_v, oK3_v, oK4_v, oL_v, decide_true, c1, c2, c3, c4, c5, c6, m1, m2, m3, m4, m5, m6, d1, d2, l3, l4, T.n1, T.n2, t0, t1, t2, t3]
  have t : ∃ r, fX12_count u x = some r := by
    unfold fX12_count fX12_count_0
    repeat' (first | exact ⟨_, rfl⟩ | apply ite_some)
  obtain ⟨r, hr⟩ := t
  exact ⟨r, e.trans hr, hr, G, z, I, B.dn⟩
theorem sp_law : SP_law Inv := by
  intro n c s h u x y ⟨G, z, I, B⟩
  have S := I.sx
  have zo := I.zo.2.2.2.1
  obtain ⟨c1, c2, c3, c4, c5, c6, c7⟩ := I.zc
  obtain ⟨m1, m2, m3, m4, m5, m6, m7⟩ := I.zm
  simp only [fX11_law, fX11_law_0, fX1_lawColumn, fX1_lawColumn_0, fX1_lawColumn_29, fX12_law, fX12_law_0, S.t0, S.t1, S.t3, S.t5, S.t6, S.t8, S.t10, S.t12, S.t14, S.t23, S.t24, S.t7, S.t9, S.t11, S.t13, S.t15, S.t16, S.t17, S.t18, S.t19, S.t20, S.t21, S.t25, S.t29, S.t30, S.t31, S.n7, S.n9, S.n11, S.n13, S.n15, S.n16, S.n17, S.n18, S.n19, S.n20, S.n21, S.n25, S.n29, S.n30, S.n31, S.r1408_0, S.r1409_0, S.r1410_0, S.r1411_0, S.r1412_0, S.r128_5, S.r129_5, S.r130_5, S.r131_5, S.r132_5, S.r133_5, S.r134_5, S.r135_5, S.r136_5, S.r137_5, S.r138_5, S.r512_23, S.r513_23, S.r514_23, S.r515_23, S.r896_6, S.r896_8, S.r896_10, S.r896_12, S.r896_14, S.r1280_24, S.r0_1, S.ttk, S.otk, S.r0_3, S.twk, S.owk, S.r141_5, S.tpg, S.opg, S.r1281_24, S.tkd, S.okd, S.r1282_24, S.tst, S.ost, S.r1283_24, S.tvl, S.ovl, S.o0, S.o1, S.o3, S.o31, S.o5, S.o6, S.o7, S.o8, S.o9, S.o10, S.o11, S.o12, S.o13, S.o14, S.o15, S.o16, S.o17, S.o18, S.o19, S.o20, S.o21, S.o23, S.o24, S.o25, S.o29, S.o30, oN_v, oC_v, oB_v, oB2_v, oB3_v, oB4_v, oK3_v, oK4_v, oL_v, decide_true, c4, m4]
  rcases one_c (x := x) (n := z.nl) (by omega) with ⟨e, hx⟩ | ⟨j, hj, hx, e⟩
  · rw [e]
    refine ⟨-1, ?_, by simp only [oN_v, oC_v, oB_v, oB2_v, oB3_v, oB4_v, oK3_v, oK4_v, oL_v, if_true], G, z, I, B.dn⟩
    rcases hx with hx | hx
    · simp only [if_pos hx, if_true, oN_v, oC_v, oB_v, oB2_v, oB3_v, oB4_v, oK3_v, oK4_v, oL_v]
    · by_cases h0 : x < 0
      · simp only [if_pos h0, if_true, oN_v, oC_v, oB_v, oB2_v, oB3_v, oB4_v, oK3_v, oK4_v, oL_v]
      · simp only [if_neg h0, if_pos hx, if_true, oN_v, oC_v, oB_v, oB2_v, oB3_v, oB4_v, oK3_v, oK4_v, oL_v]
  · subst hx
    rw [e]
    obtain ⟨w0, w1, w2, w3, w4⟩ := I.kr.lw j hj
    simp only [oN_v, oC_v, oB_v, oB2_v, oB3_v, oB4_v, oK3_v, oK4_v, oL_v, if_neg (nI_pos (n := j) (by omega)), if_neg (nI_ge hj (show z.nl < 2147483648 by omega)), nI_clamp (show j < 2147483648 by omega), oC_t (ix_n (show j < mlen 31 by show j < 10; omega) (by decide)), oC_t (ix_n (show j < mlen 32 by show j < 10; omega) (by decide)), oC_t (ix_n (show j < mlen 33 by show j < 10; omega) (by decide)), oC_t (ix_n (show j < mlen 34 by show j < 10; omega) (by decide)), oC_t (ix_n (show j < mlen 35 by show j < 10; omega) (by decide)), show ¬ ((1 : Int32) = 0) by decide, if_false, if_true]
    by_cases y0 : y < 0
    · refine ⟨-1, by simp only [if_pos y0, oN_v, oC_v, oB_v, oB2_v, oB3_v, oB4_v, oK3_v, oK4_v, oL_v], ?_, G, z, I, B.dn⟩
      have q0 : ¬ y = 0 := by grind
      have q1 : ¬ y = 1 := by grind
      have q2 : ¬ y = 2 := by grind
      have q3 : ¬ y = 3 := by grind
      have q4 : ¬ y = 4 := by grind
      simp only [q0, q1, q2, q3, q4, if_false]
    · by_cases y5 : 5 ≤ y
      · refine ⟨-1, by simp only [if_neg y0, if_pos y5, oN_v, oC_v, oB_v, oB2_v, oB3_v, oB4_v, oK3_v, oK4_v, oL_v], ?_, G, z, I, B.dn⟩
        have q0 : ¬ y = 0 := by grind
        have q1 : ¬ y = 1 := by grind
        have q2 : ¬ y = 2 := by grind
        have q3 : ¬ y = 3 := by grind
        have q4 : ¬ y = 4 := by grind
        simp only [q0, q1, q2, q3, q4, if_false]
      · obtain ⟨k, hk, ek⟩ := nI_idx (x := y) (n := 5) (by omega) y0 y5
        subst ek
        have ei : nI j * 5 + nI k = nI (5 * j + k) := by
          rw [show (5 : Int32) = nI 5 from rfl, show nI j * nI 5 = nI (j * 5) from (Int32.ofNat_mul j 5).symm, nI_add]
          congr 1; omega
        simp only [if_neg y0, if_neg y5, ei, oC_t (ix_n (show 5 * j + k < 50 by omega) (by omega)), nI_clamp (show 5 * j + k < 2147483648 by omega), oN_v, oC_v, oB_v, oB2_v, oB3_v, oB4_v, oK3_v, oK4_v, oL_v]
        refine ⟨_, rfl, ?_, G, z, I, B.dn⟩
        rcases (show k = 0 ∨ k = 1 ∨ k = 2 ∨ k = 3 ∨ k = 4 by omega) with q | q | q | q | q <;> subst q
        · rw [if_pos (by rfl), ← w0]; rfl
        · rw [if_neg (by decide), if_pos (by rfl), ← w1]
        · rw [if_neg (by decide), if_neg (by decide), if_pos (by rfl), ← w2]
        · rw [if_neg (by decide), if_neg (by decide), if_neg (by decide), if_pos (by rfl), ← w3]
        · rw [if_neg (by decide), if_neg (by decide), if_neg (by decide), if_neg (by decide), if_pos (by rfl), ← w4]
