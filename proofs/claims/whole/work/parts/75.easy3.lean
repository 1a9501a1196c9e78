-- needs: 63 70 71 72 73 74
/-- rule r of the tables -/
theorem ruleAt_c {h : PH} {G : Gh} {n : Nat} {x : Int32} (S : SX h G) (hs : hI h 897 14 = nI n) (hn : n ≤ G.nr) : (fX1_ruleAt h 5 x = some none ∧ (x < 0 ∨ nI n ≤ x)) ∨ ∃ j, j < n ∧ x = nI j ∧ fX1_ruleAt h 5 x = some (some (G.rl j)) := by
  have r30 := S.nr30
  by_cases h1 : x < 0
  · exact .inl ⟨by simp only [fX1_ruleAt, fX1_ruleAt_0, if_pos h1], .inl h1⟩
  · by_cases h2 : nI n ≤ x
    · exact .inl ⟨by simp only [fX1_ruleAt, fX1_ruleAt_0, if_neg h1, S.t0, S.t1, S.t3, S.t5, S.t6, S.t8, S.t10, S.t12, S.t14, S.t23, S.t24, S.t7, S.t9, S.t11, S.t13, S.t15, S.t16, S.t17, S.t18, S.t19, S.t20, S.t21, S.t25, S.t29, S.t30, S.t31, S.n7, S.n9, S.n11, S.n13, S.n15, S.n16, S.n17, S.n18, S.n19, S.n20, S.n21, S.n25, S.n29, S.n30, S.n31, S.r1408_0, S.r1409_0, S.r1410_0, S.r1411_0, S.r1412_0, S.r128_5, S.r129_5, S.r130_5, S.r131_5, S.r132_5, S.r133_5, S.r134_5, S.r135_5, S.r136_5, S.r137_5, S.r138_5, S.r512_23, S.r513_23, S.r514_23, S.r515_23, S.r896_6, S.r896_8, S.r896_10, S.r896_12, S.r896_14, S.r1280_24, S.r0_1, S.ttk, S.otk, S.r0_3, S.twk, S.owk, S.r141_5, S.tpg, S.opg, S.r1281_24, S.tkd, S.okd, S.r1282_24, S.tst, S.ost, S.r1283_24, S.tvl, S.ovl, S.o0, S.o1, S.o3, S.o31, S.o5, S.o6, S.o7, S.o8, S.o9, S.o10, S.o11, S.o12, S.o13, S.o14, S.o15, S.o16, S.o17, S.o18, S.o19, S.o20, S.o21, S.o23, S.o24, S.o25, S.o29, S.o30, oN_v, oC_v, oB_v, oB2_v, oB3_v, oB4_v, oK3_v, oK4_v, oL_v, decide_true, hs, if_pos h2], .inr h2⟩
    · obtain ⟨j, hj, e⟩ := nI_idx (by omega) h1 h2
      refine .inr ⟨j, hj, e, ?_⟩
      subst e
      simp only [fX1_ruleAt, fX1_ruleAt_0, if_neg h1, S.t0, S.t1, S.t3, S.t5, S.t6, S.t8, S.t10, S.t12, S.t14, S.t23, S.t24, S.t7, S.t9, S.t11, S.t13, S.t15, S.t16, S.t17, S.t18, S.t19, S.t20, S.t21, S.t25, S.t29, S.t30, S.t31, S.n7, S.n9, S.n11, S.n13, S.n15, S.n16, S.n17, S.n18, S.n19, S.n20, S.n21, S.n25, S.n29, S.n30, S.n31, S.r1408_0, S.r1409_0, S.r1410_0, S.r1411_0, S.r1412_0, S.r128_5, S.r129_5, S.r130_5, S.r131_5, S.r132_5, S.r133_5, S.r134_5, S.r135_5, S.r136_5, S.r137_5, S.r138_5, S.r512_23, S.r513_23, S.r514_23, S.r515_23, S.r896_6, S.r896_8, S.r896_10, S.r896_12, S.r896_14, S.r1280_24, S.r0_1, S.ttk, S.otk, S.r0_3, S.twk, S.owk, S.r141_5, S.tpg, S.opg, S.r1281_24, S.tkd, S.okd, S.r1282_24, S.tst, S.ost, S.r1283_24, S.tvl, S.ovl, S.o0, S.o1, S.o3, S.o31, S.o5, S.o6, S.o7, S.o8, S.o9, S.o10, S.o11, S.o12, S.o13, S.o14, S.o15, S.o16, S.o17, S.o18, S.o19, S.o20, S.o21, S.o23, S.o24, S.o25, S.o29, S.o30, oN_v, oC_v, oB_v, oB2_v, oB3_v, oB4_v, oK3_v, oK4_v, oL_v, decide_true, hs, if_neg h2, oC_t (ix_n (show j < 30 by omega) (by omega)), nI_clamp (show j < 2147483648 by omega), S.rlC j (by omega)]
theorem ruleAt_v {h : PH} {G : Gh} {n j : Nat} (S : SX h G) (hs : hI h 897 14 = nI n) (hn : n ≤ G.nr) (hj : j < n) : fX1_ruleAt h 5 (nI j) = some (some (G.rl j)) := by
  have r30 := S.nr30
  simp only [fX1_ruleAt, fX1_ruleAt_0, if_neg (nI_pos (n := j) (by omega)), S.t0, S.t1, S.t3, S.t5, S.t6, S.t8, S.t10, S.t12, S.t14, S.t23, S.t24, S.t7, S.t9, S.t11, S.t13, S.t15, S.t16, S.t17, S.t18, S.t19, S.t20, S.t21, S.t25, S.t29, S.t30, S.t31, S.n7, S.n9, S.n11, S.n13, S.n15, S.n16, S.n17, S.n18, S.n19, S.n20, S.n21, S.n25, S.n29, S.n30, S.n31, S.r1408_0, S.r1409_0, S.r1410_0, S.r1411_0, S.r1412_0, S.r128_5, S.r129_5, S.r130_5, S.r131_5, S.r132_5, S.r133_5, S.r134_5, S.r135_5, S.r136_5, S.r137_5, S.r138_5, S.r512_23, S.r513_23, S.r514_23, S.r515_23, S.r896_6, S.r896_8, S.r896_10, S.r896_12, S.r896_14, S.r1280_24, S.r0_1, S.ttk, S.otk, S.r0_3, S.twk, S.owk, S.r141_5, S.tpg, S.opg, S.r1281_24, S.tkd, S.okd, S.r1282_24, S.tst, S.ost, S.r1283_24, S.tvl, S.ovl, S.o0, S.o1, S.o3, S.o31, S.o5, S.o6, S.o7, S.o8, S.o9, S.o10, S.o11, S.o12, S.o13, S.o14, S.o15, S.o16, S.o17, S.o18, S.o19, S.o20, S.o21, S.o23, S.o24, S.o25, S.o29, S.o30, oN_v, oC_v, oB_v, oB2_v, oB3_v, oB4_v, oK3_v, oK4_v, oL_v, decide_true, hs, if_neg (nI_ge hj (show n < 2147483648 by omega)), oC_t (ix_n (show j < 30 by omega) (by omega)), nI_clamp (show j < 2147483648 by omega), S.rlC j (by omega)]
theorem sp_rule : SP_rule Inv := by
  intro n c s h u x y ⟨G, z, I, B⟩
  have S := I.sx
  have zo := I.zo.2.2.2.2.1
  obtain ⟨c1, c2, c3, c4, c5, c6, c7⟩ := I.zc
  obtain ⟨m1, m2, m3, m4, m5, m6, m7⟩ := I.zm
  simp only [fX11_rule, fX11_rule_0, fX12_rule, fX12_rule_0, S.t0, S.t1, S.t3, S.t5, S.t6, S.t8, S.t10, S.t12, S.t14, S.t23, S.t24, S.t7, S.t9, S.t11, S.t13, S.t15, S.t16, S.t17, S.t18, S.t19, S.t20, S.t21, S.t25, S.t29, S.t30, S.t31, S.n7, S.n9, S.n11, S.n13, S.n15, S.n16, S.n17, S.n18, S.n19, S.n20, S.n21, S.n25, S.n29, S.n30, S.n31, S.r1408_0, S.r1409_0, S.r1410_0, S.r1411_0, S.r1412_0, S.r128_5, S.r129_5, S.r130_5, S.r131_5, S.r132_5, S.r133_5, S.r134_5, S.r135_5, S.r136_5, S.r137_5, S.r138_5, S.r512_23, S.r513_23, S.r514_23, S.r515_23, S.r896_6, S.r896_8, S.r896_10, S.r896_12, S.r896_14, S.r1280_24, S.r0_1, S.ttk, S.otk, S.r0_3, S.twk, S.owk, S.r141_5, S.tpg, S.opg, S.r1281_24, S.tkd, S.okd, S.r1282_24, S.tst, S.ost, S.r1283_24, S.tvl, S.ovl, S.o0, S.o1, S.o3, S.o31, S.o5, S.o6, S.o7, S.o8, S.o9, S.o10, S.o11, S.o12, S.o13, S.o14, S.o15, S.o16, S.o17, S.o18, S.o19, S.o20, S.o21, S.o23, S.o24, S.o25, S.o29, S.o30, oN_v, oC_v, oB_v, oB2_v, oB3_v, oB4_v, oK3_v, oK4_v, oL_v, decide_true, m5]
  rcases ruleAt_c (x := x) S c5 I.kr.nrG with ⟨e, hx⟩ | ⟨j, hj, hx, e⟩
  · rcases one_c (x := x) (n := z.nr) (by omega) with ⟨e2, _⟩ | ⟨j, hj, hx2, e2⟩
    · rw [e, e2]
      exact ⟨-1, by simp only [oN_v, oC_v, oB_v, oB2_v, oB3_v, oB4_v, oK3_v, oK4_v, oL_v, if_true], by simp only [oN_v, oC_v, oB_v, oB2_v, oB3_v, oB4_v, oK3_v, oK4_v, oL_v, if_true], G, z, I, B.dn⟩
    · subst hx2
      rcases hx with hx | hx
      · exact absurd hx (nI_pos (by omega))
      · exact absurd hx (nI_ge hj (by omega))
  · subst hx
    rw [e, one_y hj (by omega)]
    obtain ⟨l, k, m, v, h1, h2, h3, h4, h5, h6, h7, h8, h9, ha, hb, hc, hd, he, hf⟩ := I.kr.ru j hj
    have jG : j < G.nr := by have := I.kr.nrG; omega
    have e4 : hI h 257 (G.hd j) = mA u 44 j ∧ hI h 258 (G.hd j) = mA u 45 j := by
      rcases he with ⟨_, w, k, _, _, _, q1, q2, q3, _⟩ | ⟨_, ⟨s, _, q1, q2⟩, q3, q4, _⟩
      · exact ⟨q1.trans q2.symm, q3⟩
      · exact ⟨q1.trans q2.symm, q3.trans q4.symm⟩
    simp only [oN_v, oC_v, oB_v, oB2_v, oB3_v, oB4_v, oK3_v, oK4_v, oL_v, reduceCtorEq, if_false, S.rlT j jG, S.hdR j jG, S.hdT j jG, decide_true, h6, h7, h8, h9, ha, hb, hc, hd, e4.1, e4.2, nI_clamp (show j < 2147483648 by omega), oC_t (ix_n (show j < mlen 39 by show j < 30; omega) (by decide)), oC_t (ix_n (show j < mlen 40 by show j < 30; omega) (by decide)), oC_t (ix_n (show j < mlen 41 by show j < 30; omega) (by decide)), oC_t (ix_n (show j < mlen 42 by show j < 30; omega) (by decide)), oC_t (ix_n (show j < mlen 44 by show j < 30; omega) (by decide)), oC_t (ix_n (show j < mlen 45 by show j < 30; omega) (by decide)), show ¬ ((1 : Int32) = 0) by decide]
    have t : ∀ (q : Option Int32), (∃ r, q = some r) → ∃ r, q = some r ∧ q = some r ∧ Inv n c s h u := fun q ⟨r, hr⟩ => ⟨r, hr, hr, G, z, I, B.dn⟩
    apply t
    repeat' (first | exact ⟨_, rfl⟩ | apply ite_some)
theorem by255' : ∀ n : Fin 256, (0 : Int32) ≤ Int8.toInt32 ⟨⟨⟨n⟩⟩⟩ → Int8.toInt32 ⟨⟨⟨n⟩⟩⟩ &&& 255 = Int8.toInt32 ⟨⟨⟨n⟩⟩⟩ := by decide +kernel
theorem by255 {v : Int32} (h : isBy v) (h0 : 0 ≤ v) : v &&& 255 = v := by
  unfold isBy at h
  rw [← h] at h0 ⊢
  generalize Int32.toInt8 v = b at *
  rcases b with ⟨⟨⟨n⟩⟩⟩
  exact by255' n h0
theorem sp_out : SP_out Inv := by
  intro n c s h u x ⟨G, z, I, B⟩
  have S := I.sx
  obtain ⟨l, l1, l2, l3, l4, l5⟩ := I.ou.ex
  have hn := I.ou.hn
  simp only [fX11_out, fX11_out_0, fX0_byteAt, fX0_byteAt_0, fX12_out, fX12_out_0, S.t0, S.t1, S.t3, S.t5, S.t6, S.t8, S.t10, S.t12, S.t14, S.t23, S.t24, S.t7, S.t9, S.t11, S.t13, S.t15, S.t16, S.t17, S.t18, S.t19, S.t20, S.t21, S.t25, S.t29, S.t30, S.t31, S.n7, S.n9, S.n11, S.n13, S.n15, S.n16, S.n17, S.n18, S.n19, S.n20, S.n21, S.n25, S.n29, S.n30, S.n31, S.r1408_0, S.r1409_0, S.r1410_0, S.r1411_0, S.r1412_0, S.r128_5, S.r129_5, S.r130_5, S.r131_5, S.r132_5, S.r133_5, S.r134_5, S.r135_5, S.r136_5, S.r137_5, S.r138_5, S.r512_23, S.r513_23, S.r514_23, S.r515_23, S.r896_6, S.r896_8, S.r896_10, S.r896_12, S.r896_14, S.r1280_24, S.r0_1, S.ttk, S.otk, S.r0_3, S.twk, S.owk, S.r141_5, S.tpg, S.opg, S.r1281_24, S.tkd, S.okd, S.r1282_24, S.tst, S.ost, S.r1283_24, S.tvl, S.ovl, S.o0, S.o1, S.o3, S.o31, S.o5, S.o6, S.o7, S.o8, S.o9, S.o10, S.o11, S.o12, S.o13, S.o14, S.o15, S.o16, S.o17, S.o18, S.o19, S.o20, S.o21, S.o23, S.o24, S.o25, S.o29, S.o30, oN_v, oC_v, oB_v, oB2_v, oB3_v, oB4_v, oK3_v, oK4_v, oL_v, decide_true, l3, l4]
  by_cases h1 : x < 0
  · simp only [if_pos h1, oN_v, oC_v, oB_v, oB2_v, oB3_v, oB4_v, oK3_v, oK4_v, oL_v]
    exact ⟨_, rfl, rfl, G, z, I, B.dn⟩
  · simp only [if_neg h1]
    by_cases h2 : nI l ≤ x
    · simp only [if_pos h2, oN_v, oC_v, oB_v, oB2_v, oB3_v, oB4_v, oK3_v, oK4_v, oL_v]
      exact ⟨_, rfl, rfl, G, z, I, B.dn⟩
    · obtain ⟨j, hj, e⟩ := nI_idx (by omega) h1 h2
      subst e
      simp only [if_neg h2]
      by_cases h3 : 4000 ≤ j
      · have q1 : (4000 : Int32) ≤ nI j := nI_le (a := 4000) h3 (by omega)
        have q2 : nI (hN h G.wk) ≤ nI j := nI_le (by omega) (by omega)
        simp only [if_pos q1, if_pos q2, oN_v, oC_v, oB_v, oB2_v, oB3_v, oB4_v, oK3_v, oK4_v, oL_v]
        exact ⟨_, rfl, rfl, G, z, I, B.dn⟩
      · have q1 : ¬ (4000 : Int32) ≤ nI j := nI_ge (b := 4000) (by omega) (by omega)
        have q2 : ¬ nI (hN h G.wk) ≤ nI j := nI_ge (by omega) (by omega)
        obtain ⟨a1, a2⟩ := l5 j hj (by omega)
        have bt := I.ou.bt j
        rw [a1] at bt
        have q3 : mA u 114 j &&& 255 = mA u 114 j := by
          exact by255 bt a2
        simp only [if_neg q1, if_neg q2, oN_v, oC_v, oB_v, oB2_v, oB3_v, oB4_v, oK3_v, oK4_v, oL_v, oC_t (ix_n (show j < hN h G.wk by omega) (by omega)), oC_t (ix_n (show j < mlen 114 by show j < 4000; omega) (by decide)), nI_clamp (show j < 2147483648 by omega), a1, q3]
        exact ⟨_, rfl, rfl, G, z, I, B.dn⟩
