-- needs: 63 70 71 72 73 74 75 76
theorem nI_m1 {p : Nat} (h : p < 2147483648) : ¬ nI p = -1 := by
  intro e
  have := nI_toInt (n := p) h
  rw [e] at this
  have e2 : ((-1 : Int32)).toInt = -1 := by decide
  omega
theorem nI_div {a b : Nat} (ha : a < 2147483648) (hb : b < 2147483648) : nI a / nI b = nI (a / b) := by
  apply Int32.toInt_inj.mp
  have hq : a / b < 2147483648 := Nat.lt_of_le_of_lt (Nat.div_le_self a b) ha
  rw [Int32.toInt_div, nI_toInt ha, nI_toInt hb, nI_toInt hq]
  rw [show ((a : Int).tdiv (b : Int)) = ((a / b : Nat) : Int) from rfl]
  generalize a / b = q at hq ⊢
  apply Int.bmod_eq_of_le
  · omega
  · omega
theorem nI_sub {a b : Nat} (h : b ≤ a) : nI a - nI b = nI (a - b) := by
  rw [Int32.sub_eq_iff_eq_add, nI_add]
  congr 1
  omega
theorem nI_mod {a b : Nat} (ha : a < 2147483648) (hb : b < 2147483648) : nI a - nI a / nI b * nI b = nI (a % b) := by
  rw [nI_div ha hb, nI_mul, nI_sub (Nat.div_mul_le_self a b)]
  congr 1
  have := Nat.div_add_mod a b
  rw [Nat.mul_comm] at this
  omega
theorem nI_mod2 (a b : Nat) : nI a - nI (a / b) * nI b = nI (a % b) := by
  rw [nI_mul, nI_sub (Nat.div_mul_le_self a b)]
  congr 1
  have := Nat.div_add_mod a b
  rw [Nat.mul_comm] at this
  omega
theorem sp_status : SP_status Inv := by
  intro n c s h u x so a b ⟨G, z, I, B⟩
  have S := I.sx
  rcases I.ju with ⟨J, h0, _⟩ | ⟨J, h0, js, jp, jw, jj, K⟩
  · refine ⟨-1, ?_, ?_, G, z, I, B.dn⟩
    · simp only [fX11_status, fX11_status_0, S.t0, S.t1, S.t3, S.t5, S.t6, S.t8, S.t10, S.t12, S.t14, S.t23, S.t24, S.t7, S.t9, S.t11, S.t13, S.t15, S.t16, S.t17, S.t18, S.t19, S.t20, S.t21, S.t25, S.t29, S.t30, S.t31, S.n7, S.n9, S.n11, S.n13, S.n15, S.n16, S.n17, S.n18, S.n19, S.n20, S.n21, S.n25, S.n29, S.n30, S.n31, S.r1408_0, S.r1409_0, S.r1410_0, S.r1411_0, S.r1412_0, S.r128_5, S.r129_5, S.r130_5, S.r131_5, S.r132_5, S.r133_5, S.r134_5, S.r135_5, S.r136_5, S.r137_5, S.r138_5, S.r512_23, S.r513_23, S.r514_23, S.r515_23, S.r896_6, S.r896_8, S.r896_10, S.r896_12, S.r896_14, S.r1280_24, S.r0_1, S.ttk, S.otk, S.r0_3, S.twk, S.owk, S.r141_5, S.tpg, S.opg, S.r1281_24, S.tkd, S.okd, S.r1282_24, S.tst, S.ost, S.r1283_24, S.tvl, S.ovl, S.o0, S.o1, S.o3, S.o31, S.o5, S.o6, S.o7, S.o8, S.o9, S.o10, S.o11, S.o12, S.o13, S.o14, S.o15, S.o16, S.o17, S.o18, S.o19, S.o20, S.o21, S.o23, S.o24, S.o25, S.o29, S.o30, oN_v, oC_v, oB_v, oB2_v, oB3_v, oB4_v, oK3_v, oK4_v, oL_v, decide_true, S.jN J, if_true]
    · simp only [fX12_status, fX12_status_0, fX12_status_28, h0, if_true]
  · obtain ⟨r, e1, e2, hr⟩ := lit_eq (x := x) (so := bo so) (a := a) (b := b) (cw := jw) (cp := jp) S I.kr.pl I.zo.2.1 K.lw (by have := K.lp; have := I.zo.1; omega)
    simp only [fX11_status, fX11_status_0, fX5_find, fX5_find_0, fX12_status, fX12_status_0, fX12_status_28, S.t0, S.t1, S.t3, S.t5, S.t6, S.t8, S.t10, S.t12, S.t14, S.t23, S.t24, S.t7, S.t9, S.t11, S.t13, S.t15, S.t16, S.t17, S.t18, S.t19, S.t20, S.t21, S.t25, S.t29, S.t30, S.t31, S.n7, S.n9, S.n11, S.n13, S.n15, S.n16, S.n17, S.n18, S.n19, S.n20, S.n21, S.n25, S.n29, S.n30, S.n31, S.r1408_0, S.r1409_0, S.r1410_0, S.r1411_0, S.r1412_0, S.r128_5, S.r129_5, S.r130_5, S.r131_5, S.r132_5, S.r133_5, S.r134_5, S.r135_5, S.r136_5, S.r137_5, S.r138_5, S.r512_23, S.r513_23, S.r514_23, S.r515_23, S.r896_6, S.r896_8, S.r896_10, S.r896_12, S.r896_14, S.r1280_24, S.r0_1, S.ttk, S.otk, S.r0_3, S.twk, S.owk, S.r141_5, S.tpg, S.opg, S.r1281_24, S.tkd, S.okd, S.r1282_24, S.tst, S.ost, S.r1283_24, S.tvl, S.ovl, S.o0, S.o1, S.o3, S.o31, S.o5, S.o6, S.o7, S.o8, S.o9, S.o10, S.o11, S.o12, S.o13, S.o14, S.o15, S.o16, S.o17, S.o18, S.o19, S.o20, S.o21, S.o23, S.o24, S.o25, S.o29, S.o30, S.jY J, S.jt0 J, S.jt1 J, S.jt2 J, S.jt3 J, S.jt4 J, S.jt5 J, S.jt6 J, S.jt7 J, S.jt8 J, S.jt9 J, S.jt10 J, S.jt11 J, S.jt12 J, S.jt13 J, S.jt14 J, S.jt15 J, S.jt16 J, S.jt17 J, S.jt18 J, S.jt19 J, S.jt20 J, S.jn2 J, S.jn3 J, S.jn9 J, S.jn10 J, S.jn11 J, S.jn12 J, S.jn13 J, S.jn14 J, S.jn18 J, S.jn19 J, S.jn20 J, S.jr640 J, S.jr641 J, S.jr768 J, S.jr769 J, S.jr770 J, S.jr771 J, S.jr772 J, S.jr773 J, S.jr774 J, S.jr775 J, S.jr645 J, S.jr646 J, S.jr647 J, S.jr648 J, S.jr649 J, S.jr650 J, S.jr652 J, S.jr653 J, S.jr654 J, S.jr656 J, S.jr657 J, S.jr658 J, oN_v, oC_v, oB_v, oB2_v, oB3_v, oB4_v, oK3_v, oK4_v, oL_v, decide_true, reduceCtorEq, if_false, K.p1, K.p2, K.w1, K.w2, h0, e1, e2, show ¬ ((1 : Int32) = 0) by decide]
    rcases hr with hr | ⟨p, hp, hr, hl⟩
    · subst hr
      simp only [if_true]
      exact ⟨_, rfl, rfl, G, z, I, B.dn⟩
    · subst hr
      simp only [if_neg (nI_m1 (p := p) (by omega)), oC_t (ix_n hp (by omega)), oC_t (ix_n (show p < mlen 104 from hp) (by decide)), nI_clamp (show p < 2147483648 by omega), (K.mr p hp hl).1]
      exact ⟨_, rfl, rfl, G, z, I, B.dn⟩
theorem sp_sum : SP_sum Inv := by
  intro n c s h u x y w ⟨G, z, I, B⟩
  have S := I.sx
  have z1 := I.zo.1
  have z3 := I.zo.2.2.1
  rcases I.ju with ⟨J, h0, _⟩ | ⟨J, h0, js, jp, jw, jj, K⟩
  · refine ⟨-1, ?_, ?_, G, z, I, B.dn⟩
    · simp only [fX11_sum, fX11_sum_0, S.t0, S.t1, S.t3, S.t5, S.t6, S.t8, S.t10, S.t12, S.t14, S.t23, S.t24, S.t7, S.t9, S.t11, S.t13, S.t15, S.t16, S.t17, S.t18, S.t19, S.t20, S.t21, S.t25, S.t29, S.t30, S.t31, S.n7, S.n9, S.n11, S.n13, S.n15, S.n16, S.n17, S.n18, S.n19, S.n20, S.n21, S.n25, S.n29, S.n30, S.n31, S.r1408_0, S.r1409_0, S.r1410_0, S.r1411_0, S.r1412_0, S.r128_5, S.r129_5, S.r130_5, S.r131_5, S.r132_5, S.r133_5, S.r134_5, S.r135_5, S.r136_5, S.r137_5, S.r138_5, S.r512_23, S.r513_23, S.r514_23, S.r515_23, S.r896_6, S.r896_8, S.r896_10, S.r896_12, S.r896_14, S.r1280_24, S.r0_1, S.ttk, S.otk, S.r0_3, S.twk, S.owk, S.r141_5, S.tpg, S.opg, S.r1281_24, S.tkd, S.okd, S.r1282_24, S.tst, S.ost, S.r1283_24, S.tvl, S.ovl, S.o0, S.o1, S.o3, S.o31, S.o5, S.o6, S.o7, S.o8, S.o9, S.o10, S.o11, S.o12, S.o13, S.o14, S.o15, S.o16, S.o17, S.o18, S.o19, S.o20, S.o21, S.o23, S.o24, S.o25, S.o29, S.o30, oN_v, oC_v, oB_v, oB2_v, oB3_v, oB4_v, oK3_v, oK4_v, oL_v, decide_true, S.jN J, if_true]
    · simp only [fX12_sum, fX12_sum_0, fX12_sum_29, h0, if_true]
  · have lp := K.lp
    have ls := K.ls
    simp only [fX11_sum, fX11_sum_0, fX5_amount, fX5_amount_0, fX5_amount_24, fX12_sum, fX12_sum_0, fX12_sum_29, S.t0, S.t1, S.t3, S.t5, S.t6, S.t8, S.t10, S.t12, S.t14, S.t23, S.t24, S.t7, S.t9, S.t11, S.t13, S.t15, S.t16, S.t17, S.t18, S.t19, S.t20, S.t21, S.t25, S.t29, S.t30, S.t31, S.n7, S.n9, S.n11, S.n13, S.n15, S.n16, S.n17, S.n18, S.n19, S.n20, S.n21, S.n25, S.n29, S.n30, S.n31, S.r1408_0, S.r1409_0, S.r1410_0, S.r1411_0, S.r1412_0, S.r128_5, S.r129_5, S.r130_5, S.r131_5, S.r132_5, S.r133_5, S.r134_5, S.r135_5, S.r136_5, S.r137_5, S.r138_5, S.r512_23, S.r513_23, S.r514_23, S.r515_23, S.r896_6, S.r896_8, S.r896_10, S.r896_12, S.r896_14, S.r1280_24, S.r0_1, S.ttk, S.otk, S.r0_3, S.twk, S.owk, S.r141_5, S.tpg, S.opg, S.r1281_24, S.tkd, S.okd, S.r1282_24, S.tst, S.ost, S.r1283_24, S.tvl, S.ovl, S.o0, S.o1, S.o3, S.o31, S.o5, S.o6, S.o7, S.o8, S.o9, S.o10, S.o11, S.o12, S.o13, S.o14, S.o15, S.o16, S.o17, S.o18, S.o19, S.o20, S.o21, S.o23, S.o24, S.o25, S.o29, S.o30, S.jY J, S.jt0 J, S.jt1 J, S.jt2 J, S.jt3 J, S.jt4 J, S.jt5 J, S.jt6 J, S.jt7 J, S.jt8 J, S.jt9 J, S.jt10 J, S.jt11 J, S.jt12 J, S.jt13 J, S.jt14 J, S.jt15 J, S.jt16 J, S.jt17 J, S.jt18 J, S.jt19 J, S.jt20 J, S.jn2 J, S.jn3 J, S.jn9 J, S.jn10 J, S.jn11 J, S.jn12 J, S.jn13 J, S.jn14 J, S.jn18 J, S.jn19 J, S.jn20 J, S.jr640 J, S.jr641 J, S.jr768 J, S.jr769 J, S.jr770 J, S.jr771 J, S.jr772 J, S.jr773 J, S.jr774 J, S.jr775 J, S.jr645 J, S.jr646 J, S.jr647 J, S.jr648 J, S.jr649 J, S.jr650 J, S.jr652 J, S.jr653 J, S.jr654 J, S.jr656 J, S.jr657 J, S.jr658 J, oN_v, oC_v, oB_v, oB2_v, oB3_v, oB4_v, oK3_v, oK4_v, oL_v, decide_true, reduceCtorEq, if_false, K.p1, K.p2, K.s1, K.s2, h0, show ¬ ((1 : Int32) = 0) by decide]
    rcases one_c (x := x) (n := jj) (by omega) with ⟨e, hx⟩ | ⟨i, hi, hx, e⟩
    · rw [e]
      refine ⟨-1, ?_, by simp only [oN_v, oC_v, oB_v, oB2_v, oB3_v, oB4_v, oK3_v, oK4_v, oL_v, if_true], G, z, I, B.dn⟩
      by_cases h1 : x < 0
      · simp only [if_pos h1, oN_v, oC_v, oB_v, oB2_v, oB3_v, oB4_v, oK3_v, oK4_v, oL_v]
      · simp only [if_neg h1, if_pos (show nI jj ≤ x by rcases hx with q | q; exact absurd q h1; exact q), oN_v, oC_v, oB_v, oB2_v, oB3_v, oB4_v, oK3_v, oK4_v, oL_v]
    · subst hx
      rw [e]
      simp only [oN_v, oC_v, oB_v, oB2_v, oB3_v, oB4_v, oK3_v, oK4_v, oL_v, if_neg (nI_pos (n := i) (by omega)), if_neg (nI_ge hi (show jj < 2147483648 by omega)), show ¬ ((1 : Int32) = 0) by decide, if_false]
      rcases one_c (x := y) (n := jp) (by omega) with ⟨e, hx⟩ | ⟨k, hk, hx, e⟩
      · rw [e]
        refine ⟨-1, ?_, by simp only [oN_v, oC_v, oB_v, oB2_v, oB3_v, oB4_v, oK3_v, oK4_v, oL_v, if_true], G, z, I, B.dn⟩
        by_cases h1 : y < 0
        · simp only [if_pos h1, oN_v, oC_v, oB_v, oB2_v, oB3_v, oB4_v, oK3_v, oK4_v, oL_v]
        · simp only [if_neg h1, if_neg (show ¬ y < nI jp by rcases hx with q | q; exact absurd q h1; grind), oN_v, oC_v, oB_v, oB2_v, oB3_v, oB4_v, oK3_v, oK4_v, oL_v]
      · subst hx
        rw [e]
        have e5 : (5 : Int32) * nI i + nI k = nI (5 * i + k) := by
          rw [show (5 : Int32) = nI 5 from rfl, nI_mul, nI_add]
        have e6 : nI i * (5 : Int32) + nI k = nI (5 * i + k) := by
          rw [show (5 : Int32) = nI 5 from rfl, nI_mul, nI_add, Nat.mul_comm]
        have e7 : nI (5 * i + k) * 2 = nI (2 * (5 * i + k)) := by
          rw [show (2 : Int32) = nI 2 from rfl, nI_mul, Nat.mul_comm]
        obtain ⟨t1, t2, t3, _, _, _, _, t4⟩ := K.su (5 * i + k) (by omega) (by omega) (by omega)
        simp only [oN_v, oC_v, oB_v, oB2_v, oB3_v, oB4_v, oK3_v, oK4_v, oL_v, if_neg (nI_pos (n := k) (by omega)), if_pos (nI_lt hk (show jp < 2147483648 by omega)), show ¬ ((1 : Int32) = 0) by decide, if_false, e5, e6, e7, nI_1, oC_t (ix_n (show 2 * (5 * i + k) < 40 by omega) (by omega)), oC_t (ix_n (show 2 * (5 * i + k) + 1 < 40 by omega) (by omega)), oC_t (ix_n (show 5 * i + k < 20 by omega) (by omega)), oC_t (ix_n (show 5 * i + k < mlen 108 by show _ < 20; omega) (by decide)), oC_t (ix_n (show 5 * i + k < mlen 109 by show _ < 20; omega) (by decide)), oC_t (ix_n (show 5 * i + k < mlen 110 by show _ < 20; omega) (by decide)), oC_t (ix_n (show 5 * i + k < mlen 111 by show _ < 20; omega) (by decide)), nI_clamp (show 5 * i + k < 2147483648 by omega), nI_clamp (show 2 * (5 * i + k) < 2147483648 by omega), nI_clamp (show 2 * (5 * i + k) + 1 < 2147483648 by omega), t1, t2, t3, t4, lg_cmp_eq]
        have q : (if mB u 109 (5 * i + k) = 0 then some 1 else some 0 : Option Int64) = if (if mB u 109 (5 * i + k) = 0 then 1 else 0 : Int32) = 0 then some 0 else some 1 := by
          split <;> rfl
        rw [q]
        have t : ∀ (q : Option Int64), (∃ r, q = some r) → ∃ r, oB q (fun r => some r) = some r ∧ q = some r ∧ Inv n c s h u := fun q ⟨r, hr⟩ => ⟨r, by rw [hr]; rfl, hr, G, z, I, B.dn⟩
        apply t
        repeat' (first | exact ⟨_, rfl⟩ | apply ite_some)
