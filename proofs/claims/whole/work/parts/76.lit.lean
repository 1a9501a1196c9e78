-- needs: 63 70 71 72 73 74 75
theorem nI_mul (a b : Nat) : nI a * nI b = nI (a * b) := (Int32.ofNat_mul a b).symm
def so1 (x : Int32) : Nat := if x = 0 then 1 else 0
theorem litN {w a b : Nat} {x : Int32} : fX1_literalNumber (nI w) x (nI a) (nI b) = some (nI (((w * 5 + a) * 5 + b) * 2 + so1 x)) := by
  unfold fX1_literalNumber fX1_literalNumber_0 fX1_literalNumber_20 so1
  have e : (((nI w * 5 + nI a) * 5 + nI b) * 2) = nI (((w * 5 + a) * 5 + b) * 2) := by
    rw [show (5 : Int32) = nI 5 from rfl, show (2 : Int32) = nI 2 from rfl, nI_mul, nI_add, nI_mul, nI_add, nI_mul]
  rw [e]
  split
  · rw [show (1 : Int32) = nI 1 from rfl, nI_add]
  · rw [show (0 : Int32) = nI 0 from rfl, nI_add]
theorem lit87 {u : MS} {w a b : Nat} {x : Int32} : fX12_literalOf_87 u x (nI b) ((nI w * 5 + nI a) * 5) = some (nI (((w * 5 + a) * 5 + b) * 2 + so1 x)) := by
  unfold fX12_literalOf_87 fX12_literalOf_99 so1
  have e : (((nI w * 5 + nI a) * 5 + nI b) * 2) = nI (((w * 5 + a) * 5 + b) * 2) := by
    rw [show (5 : Int32) = nI 5 from rfl, show (2 : Int32) = nI 2 from rfl, nI_mul, nI_add, nI_mul, nI_add, nI_mul]
  rw [e]
  split
  · rw [show (1 : Int32) = nI 1 from rfl, nI_add]
  · rw [show (0 : Int32) = nI 0 from rfl, nI_add]
theorem isLit_of {pl : Nat → Nat} {nw np w a b s : Nat} (hw : w < nw) (hs : s < 2) (ha : a < 5) (hb : b < 5) (h1 : if 0 < pl w then a < np else a = 0) (h2 : if 1 < pl w then b < np else b = 0) : isLit pl nw np (((w * 5 + a) * 5 + b) * 2 + s) := by
  unfold isLit
  have e1 : (((w * 5 + a) * 5 + b) * 2 + s) / 50 = w := by omega
  have e2 : (((w * 5 + a) * 5 + b) * 2 + s) / 10 % 5 = a := by omega
  have e3 : (((w * 5 + a) * 5 + b) * 2 + s) / 2 % 5 = b := by omega
  rw [e1, e2, e3]
  exact ⟨hw, h1, h2⟩
theorem so1_2 (x : Int32) : so1 x < 2 := by unfold so1; split <;> omega
theorem lit_eq {h : PH} {u : MS} {G : Gh} {z : Sz} {cw cp : Nat} {x so a b : Int32} (S : SX h G) (pl : ∀ i, i < z.nw → ∃ k, k ≤ 2 ∧ hA h 16 i = nI k ∧ mA u 28 i = nI k) (zw : z.nw ≤ 12) (hw : cw ≤ z.nw) (hp : cp ≤ 5) : ∃ r, fX1_literal h 5 x so a b (nI cw) (nI cp) = some r ∧ fX12_literalOf u x so a b (nI cw) (nI cp) = some r ∧ (r = -1 ∨ ∃ p, p < 600 ∧ r = nI p ∧ isLit (plN u) cw cp p) := by
  rcases one_c (x := x) (n := cw) (by omega) with ⟨e, hx⟩ | ⟨w, hj, hx, e⟩
  · refine ⟨-1, ?_, ?_, .inl rfl⟩
    · unfold fX1_literal fX1_literal_0
      by_cases h0 : x < 0
      · rw [if_pos h0]
      · rw [if_neg h0, if_pos (by rcases hx with q | q; exact absurd q h0; exact q)]
    · simp only [fX12_literalOf, fX12_literalOf_0, e, oN_v, oC_v, oB_v, oB2_v, oB3_v, oB4_v, oK3_v, oK4_v, oL_v, if_true]
  · subst hx
    obtain ⟨k, hk, p1, p2⟩ := pl w (by omega)
    have pN : plN u w = k := by unfold plN; rw [p2, nI_clamp (by omega)]
    have c1 : fX1_literal h 5 (nI w) so a b (nI cw) (nI cp) = if nI k ≤ 0 then fX1_literal_32 h 5 (nI w) so b (nI cp) 0 else fX1_literal_32 h 5 (nI w) so b (nI cp) a := by
      simp only [fX1_literal, fX1_literal_0, if_neg (nI_pos (n := w) (by omega)), if_neg (nI_ge hj (show cw < 2147483648 by omega)), if_pos (show nI w < (12 : Int32) from nI_lt (b := 12) (by omega) (by omega)), S.t0, S.t1, S.t3, S.t5, S.t6, S.t8, S.t10, S.t12, S.t14, S.t23, S.t24, S.t7, S.t9, S.t11, S.t13, S.t15, S.t16, S.t17, S.t18, S.t19, S.t20, S.t21, S.t25, S.t29, S.t30, S.t31, S.n7, S.n9, S.n11, S.n13, S.n15, S.n16, S.n17, S.n18, S.n19, S.n20, S.n21, S.n25, S.n29, S.n30, S.n31, S.r1408_0, S.r1409_0, S.r1410_0, S.r1411_0, S.r1412_0, S.r128_5, S.r129_5, S.r130_5, S.r131_5, S.r132_5, S.r133_5, S.r134_5, S.r135_5, S.r136_5, S.r137_5, S.r138_5, S.r512_23, S.r513_23, S.r514_23, S.r515_23, S.r896_6, S.r896_8, S.r896_10, S.r896_12, S.r896_14, S.r1280_24, S.r0_1, S.ttk, S.otk, S.r0_3, S.twk, S.owk, S.r141_5, S.tpg, S.opg, S.r1281_24, S.tkd, S.okd, S.r1282_24, S.tst, S.ost, S.r1283_24, S.tvl, S.ovl, S.o0, S.o1, S.o3, S.o31, S.o5, S.o6, S.o7, S.o8, S.o9, S.o10, S.o11, S.o12, S.o13, S.o14, S.o15, S.o16, S.o17, S.o18, S.o19, S.o20, S.o21, S.o23, S.o24, S.o25, S.o29, S.o30, oN_v, oC_v, oB_v, oB2_v, oB3_v, oB4_v, oK3_v, oK4_v, oL_v, decide_true, oC_t (ix_n (show w < 12 by omega) (by omega)), nI_clamp (show w < 2147483648 by omega), p1]
    have c2 : fX12_literalOf u (nI w) so a b (nI cw) (nI cp) = if nI k ≤ 0 then fX12_literalOf_29 u (nI w) so a b (nI cp) else oB (fX12_isOne a (nI cp)) (fun r17 => if r17 = 0 then some (-1) else fX12_literalOf_29 u (nI w) so a b (nI cp)) := by
      simp only [fX12_literalOf, fX12_literalOf_0, e, oN_v, oC_v, oB_v, oB2_v, oB3_v, oB4_v, oK3_v, oK4_v, oL_v, show ¬ ((1 : Int32) = 0) by decide, if_false, oC_t (ix_n (show w < mlen 28 by show w < 12; omega) (by decide)), nI_clamp (show w < 2147483648 by omega), p2]
    have c3 : ∀ y, fX1_literal_32 h 5 (nI w) so b (nI cp) y = if nI k ≤ 1 then fX1_literal_50 h 5 (nI w) so (nI cp) y 0 else fX1_literal_50 h 5 (nI w) so (nI cp) y b := by
      intro y
      simp only [fX1_literal_32, S.t0, S.t1, S.t3, S.t5, S.t6, S.t8, S.t10, S.t12, S.t14, S.t23, S.t24, S.t7, S.t9, S.t11, S.t13, S.t15, S.t16, S.t17, S.t18, S.t19, S.t20, S.t21, S.t25, S.t29, S.t30, S.t31, S.n7, S.n9, S.n11, S.n13, S.n15, S.n16, S.n17, S.n18, S.n19, S.n20, S.n21, S.n25, S.n29, S.n30, S.n31, S.r1408_0, S.r1409_0, S.r1410_0, S.r1411_0, S.r1412_0, S.r128_5, S.r129_5, S.r130_5, S.r131_5, S.r132_5, S.r133_5, S.r134_5, S.r135_5, S.r136_5, S.r137_5, S.r138_5, S.r512_23, S.r513_23, S.r514_23, S.r515_23, S.r896_6, S.r896_8, S.r896_10, S.r896_12, S.r896_14, S.r1280_24, S.r0_1, S.ttk, S.otk, S.r0_3, S.twk, S.owk, S.r141_5, S.tpg, S.opg, S.r1281_24, S.tkd, S.okd, S.r1282_24, S.tst, S.ost, S.r1283_24, S.tvl, S.ovl, S.o0, S.o1, S.o3, S.o31, S.o5, S.o6, S.o7, S.o8, S.o9, S.o10, S.o11, S.o12, S.o13, S.o14, S.o15, S.o16, S.o17, S.o18, S.o19, S.o20, S.o21, S.o23, S.o24, S.o25, S.o29, S.o30, oN_v, oC_v, oB_v, oB2_v, oB3_v, oB4_v, oK3_v, oK4_v, oL_v, decide_true, oC_t (ix_n (show w < 12 by omega) (by omega)), nI_clamp (show w < 2147483648 by omega), p1]
    have c4 : ∀ y v, fX1_literal_50 h 5 (nI w) so (nI cp) y v = if nI k ≤ 0 then fX1_literal_75 h 5 (nI w) so (nI cp) y v else if y < 0 then some (-1) else if y < nI cp then fX1_literal_75 h 5 (nI w) so (nI cp) y v else some (-1) := by
      intro y v
      simp only [fX1_literal_50, S.t0, S.t1, S.t3, S.t5, S.t6, S.t8, S.t10, S.t12, S.t14, S.t23, S.t24, S.t7, S.t9, S.t11, S.t13, S.t15, S.t16, S.t17, S.t18, S.t19, S.t20, S.t21, S.t25, S.t29, S.t30, S.t31, S.n7, S.n9, S.n11, S.n13, S.n15, S.n16, S.n17, S.n18, S.n19, S.n20, S.n21, S.n25, S.n29, S.n30, S.n31, S.r1408_0, S.r1409_0, S.r1410_0, S.r1411_0, S.r1412_0, S.r128_5, S.r129_5, S.r130_5, S.r131_5, S.r132_5, S.r133_5, S.r134_5, S.r135_5, S.r136_5, S.r137_5, S.r138_5, S.r512_23, S.r513_23, S.r514_23, S.r515_23, S.r896_6, S.r896_8, S.r896_10, S.r896_12, S.r896_14, S.r1280_24, S.r0_1, S.ttk, S.otk, S.r0_3, S.twk, S.owk, S.r141_5, S.tpg, S.opg, S.r1281_24, S.tkd, S.okd, S.r1282_24, S.tst, S.ost, S.r1283_24, S.tvl, S.ovl, S.o0, S.o1, S.o3, S.o31, S.o5, S.o6, S.o7, S.o8, S.o9, S.o10, S.o11, S.o12, S.o13, S.o14, S.o15, S.o16, S.o17, S.o18, S.o19, S.o20, S.o21, S.o23, S.o24, S.o25, S.o29, S.o30, oN_v, oC_v, oB_v, oB2_v, oB3_v, oB4_v, oK3_v, oK4_v, oL_v, decide_true, oC_t (ix_n (show w < 12 by omega) (by omega)), nI_clamp (show w < 2147483648 by omega), p1]
    have c5 : ∀ y v, fX1_literal_75 h 5 (nI w) so (nI cp) y v = if nI k ≤ 1 then fX1_literalNumber (nI w) so y v else if v < 0 then some (-1) else if v < nI cp then fX1_literalNumber (nI w) so y v else some (-1) := by
      intro y v
      have q : ∀ o : Option Int32, oB o (fun r => some r) = o := fun o => by cases o <;> rfl
      simp only [fX1_literal_75, fX1_literal_99, S.t0, S.t1, S.t3, S.t5, S.t6, S.t8, S.t10, S.t12, S.t14, S.t23, S.t24, S.t7, S.t9, S.t11, S.t13, S.t15, S.t16, S.t17, S.t18, S.t19, S.t20, S.t21, S.t25, S.t29, S.t30, S.t31, S.n7, S.n9, S.n11, S.n13, S.n15, S.n16, S.n17, S.n18, S.n19, S.n20, S.n21, S.n25, S.n29, S.n30, S.n31, S.r1408_0, S.r1409_0, S.r1410_0, S.r1411_0, S.r1412_0, S.r128_5, S.r129_5, S.r130_5, S.r131_5, S.r132_5, S.r133_5, S.r134_5, S.r135_5, S.r136_5, S.r137_5, S.r138_5, S.r512_23, S.r513_23, S.r514_23, S.r515_23, S.r896_6, S.r896_8, S.r896_10, S.r896_12, S.r896_14, S.r1280_24, S.r0_1, S.ttk, S.otk, S.r0_3, S.twk, S.owk, S.r141_5, S.tpg, S.opg, S.r1281_24, S.tkd, S.okd, S.r1282_24, S.tst, S.ost, S.r1283_24, S.tvl, S.ovl, S.o0, S.o1, S.o3, S.o31, S.o5, S.o6, S.o7, S.o8, S.o9, S.o10, S.o11, S.o12, S.o13, S.o14, S.o15, S.o16, S.o17, S.o18, S.o19, S.o20, S.o21, S.o23, S.o24, S.o25, S.o29, S.o30, oN_v, oC_v, oB_v, oB2_v, oB3_v, oB4_v, oK3_v, oK4_v, oL_v, decide_true, oC_t (ix_n (show w < 12 by omega) (by omega)), nI_clamp (show w < 2147483648 by omega), p1, q]
    have c6 : fX12_literalOf_29 u (nI w) so a b (nI cp) = if nI k ≤ 1 then fX12_literalOf_51 u (nI w) so a b else oB (fX12_isOne b (nI cp)) (fun r => if r = 0 then some (-1) else fX12_literalOf_51 u (nI w) so a b) := by
      simp only [fX12_literalOf_29, oC_t (ix_n (show w < mlen 28 by show w < 12; omega) (by decide)), nI_clamp (show w < 2147483648 by omega), p2]
    have c7 : fX12_literalOf_51 u (nI w) so a b = if nI k ≤ 0 then fX12_literalOf_68 u (nI w) so b 0 (nI w * 5) else fX12_literalOf_68 u (nI w) so b a (nI w * 5) := by
      simp only [fX12_literalOf_51, oC_t (ix_n (show w < mlen 28 by show w < 12; omega) (by decide)), nI_clamp (show w < 2147483648 by omega), p2]
    have c8 : ∀ y, fX12_literalOf_68 u (nI w) so b y (nI w * 5) = if nI k ≤ 1 then fX12_literalOf_87 u so 0 ((nI w * 5 + y) * 5) else fX12_literalOf_87 u so b ((nI w * 5 + y) * 5) := by
      intro y
      simp only [fX12_literalOf_68, oC_t (ix_n (show w < mlen 28 by show w < 12; omega) (by decide)), nI_clamp (show w < 2147483648 by omega), p2]
    have rng : ∀ y : Int32, fX12_isOne y (nI cp) = some 0 → (if y < 0 then (some (-1) : Option Int32) else if y < nI cp then none else some (-1)) = some (-1) := by
      intro y hy
      rcases one_c (x := y) (n := cp) (by omega) with ⟨_, q⟩ | ⟨j, _, _, q⟩
      · by_cases h0 : y < 0
        · rw [if_pos h0]
        · rw [if_neg h0, if_neg (by grind)]
      · rw [q] at hy; cases hy
    have inr : ∀ {y : Int32} {j : Nat}, j < cp → y = nI j → ¬ y < 0 ∧ y < nI cp := fun hj e => ⟨by rw [e]; exact nI_pos (by omega), by rw [e]; exact nI_lt hj (by omega)⟩
    have s2 := so1_2 so
    rcases (show k = 0 ∨ k = 1 ∨ k = 2 by omega) with q | q | q <;> subst q
    · simp only [c1, c2, c3, c4, c5, c6, c7, c8, show nI 0 ≤ (0 : Int32) by decide, show nI 0 ≤ (1 : Int32) by decide, if_true]
      refine ⟨_, litN (a := 0) (b := 0), lit87 (a := 0) (b := 0), .inr ⟨_, by omega, rfl, isLit_of hj s2 (by omega) (by omega) (by rw [pN]; rfl) (by rw [pN]; rfl)⟩⟩
    · simp only [c1, c2, c3, c4, c5, c6, c7, c8, show ¬ nI 1 ≤ (0 : Int32) by decide, show nI 1 ≤ (1 : Int32) by decide, if_true, if_false]
      rcases one_c (x := a) (n := cp) (by omega) with ⟨e1, q⟩ | ⟨j, hj1, q, e1⟩
      · refine ⟨-1, ?_, by simp only [e1, oN_v, oC_v, oB_v, oB2_v, oB3_v, oB4_v, oK3_v, oK4_v, oL_v, if_true], .inl rfl⟩
        by_cases h0 : a < 0
        · rw [if_pos h0]
        · rw [if_neg h0, if_neg (by grind)]
      · obtain ⟨n1, n2⟩ := inr hj1 q
        simp only [if_neg n1, if_pos n2, e1, oN_v, oC_v, oB_v, oB2_v, oB3_v, oB4_v, oK3_v, oK4_v, oL_v, show ¬ ((1 : Int32) = 0) by decide, if_false]
        subst q
        refine ⟨_, litN (b := 0), lit87 (b := 0), .inr ⟨_, by omega, rfl, isLit_of hj s2 (by omega) (by omega) (by rw [pN]; exact hj1) (by rw [pN]; rfl)⟩⟩
    · simp only [c1, c2, c3, c4, c5, c6, c7, c8, show ¬ nI 2 ≤ (0 : Int32) by decide, show ¬ nI 2 ≤ (1 : Int32) by decide, if_false]
      rcases one_c (x := a) (n := cp) (by omega) with ⟨e1, q⟩ | ⟨j, hj1, q, e1⟩
      · refine ⟨-1, ?_, by simp only [e1, oN_v, oC_v, oB_v, oB2_v, oB3_v, oB4_v, oK3_v, oK4_v, oL_v, if_true], .inl rfl⟩
        by_cases h0 : a < 0
        · rw [if_pos h0]
        · rw [if_neg h0, if_neg (by grind)]
      · obtain ⟨n1, n2⟩ := inr hj1 q
        simp only [if_neg n1, if_pos n2, e1, oN_v, oC_v, oB_v, oB2_v, oB3_v, oB4_v, oK3_v, oK4_v, oL_v, show ¬ ((1 : Int32) = 0) by decide, if_false]
        subst q
        rcases one_c (x := b) (n := cp) (by omega) with ⟨e2, q⟩ | ⟨j', hj2, q, e2⟩
        · refine ⟨-1, ?_, by simp only [e2, oN_v, oC_v, oB_v, oB2_v, oB3_v, oB4_v, oK3_v, oK4_v, oL_v, if_true], .inl rfl⟩
          by_cases h0 : b < 0
          · rw [if_pos h0]
          · rw [if_neg h0, if_neg (by grind)]
        · obtain ⟨n3, n4⟩ := inr hj2 q
          simp only [if_neg n3, if_pos n4, e2, oN_v, oC_v, oB_v, oB2_v, oB3_v, oB4_v, oK3_v, oK4_v, oL_v, show ¬ ((1 : Int32) = 0) by decide, if_false]
          subst q
          refine ⟨_, litN, lit87, .inr ⟨_, by omega, rfl, isLit_of hj s2 (by omega) (by omega) (by rw [pN]; exact hj1) (by rw [pN]; exact hj2)⟩⟩
