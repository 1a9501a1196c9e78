theorem isThereC {h : PH} {G : Gh} {z : Sz} {u0 : MS} {nu : Nat → Int32} {E1 E2 E3 : Nat → List Tok} {p : Nat} (W : CEv h G z u0 nu E1 E2 E3) (zo : z.ok) (m2 : hI h 642 (G.jd 0) = nI z.np) (m3 : hI h 643 (G.jd 0) = nI z.nw) (hp : p < 600) : ∃ x, fX5_isThere h (G.jd 0) (nI p) = some x ∧ Tf x (isLit (plN u0) z.nw z.np p) := by
  have S := W.s
  have J := W.j
  have np := zo.1
  have nw := zo.2.1
  have c2 := W.c.2.1
  have e0 : nI p / 50 = nI (p / 50) := nI_div (b := 50) (by omega) (by decide)
  have e1 : nI p / 10 - nI p / 10 / 5 * 5 = nI (p / 10 % 5) := nI_dm (a := 10) (b := 0) hp (by decide) (by decide)
  have e2 : nI p / 2 - nI p / 2 / 5 * 5 = nI (p / 2 % 5) := nI_dm (a := 2) (b := 0) hp (by decide) (by decide)
  have w0 : fX5_wordOf (nI p) = some (nI (p / 50)) := by rw [fX5_wordOf, fX5_wordOf_0, e0]
  have w1 : fX5_firstOf (nI p) = some (nI (p / 10 % 5)) := by rw [fX5_firstOf, fX5_firstOf_0, e1]
  have w2 : fX5_secondOf (nI p) = some (nI (p / 2 % 5)) := by rw [fX5_secondOf, fX5_secondOf_0, e2]
  have one : (1 : Int32) = nI 1 := rfl
  by_cases c : p / 50 < z.nw
  · obtain ⟨k, k2, k3, k4⟩ := W.k.pl (p / 50) c
    have ep : plN u0 (p / 50) = k := by unfold plN; rw [k4, nI_clamp (by omega)]
    have pl : fX1_placesOf h 5 (nI (p / 50)) = some (nI k) := by
      unfold fX1_placesOf fX1_placesOf_0
      simp only [if_neg (nI_pos (n := p / 50) (by omega)), S.t0, S.t1, S.t3, S.t5, S.t6, S.t8, S.t10, S.t12, S.t14, S.t23, S.t24, S.t7, S.t9, S.t11, S.t13, S.t15, S.t16, S.t17, S.t18, S.t19, S.t20, S.t21, S.t25, S.t29, S.t30, S.t31, S.n7, S.n9, S.n11, S.n13, S.n15, S.n16, S.n17, S.n18, S.n19, S.n20, S.n21, S.n25, S.n29, S.n30, S.n31, S.r1408_0, S.r1409_0, S.r1410_0, S.r1411_0, S.r1412_0, S.r128_5, S.r129_5, S.r130_5, S.r131_5, S.r132_5, S.r133_5, S.r134_5, S.r135_5, S.r136_5, S.r137_5, S.r138_5, S.r512_23, S.r513_23, S.r514_23, S.r515_23, S.r896_6, S.r896_8, S.r896_10, S.r896_12, S.r896_14, S.r1280_24, S.r0_1, S.ttk, S.otk, S.r0_3, S.twk, S.owk, S.r141_5, S.tpg, S.opg, S.r1281_24, S.tkd, S.okd, S.r1282_24, S.tst, S.ost, S.r1283_24, S.tvl, S.ovl, S.o0, S.o1, S.o3, S.o31, S.o5, S.o6, S.o7, S.o8, S.o9, S.o10, S.o11, S.o12, S.o13, S.o14, S.o15, S.o16, S.o17, S.o18, S.o19, S.o20, S.o21, S.o23, S.o24, S.o25, S.o29, S.o30, oN_v, oC_v, oB_v, oB2_v, oB3_v, oB4_v, oK3_v, oK4_v, oL_v, if_true, if_false, and_false, false_and, and_true, true_and, and_self, decide_true, decide_false, reduceCtorEq, not_false_eq_true, not_true_eq_false, Nat.reduceEqDiff, Nat.reduceAdd, Nat.reduceMul, Nat.add_zero, Nat.zero_add, c2, if_neg (nI_ge c (show z.nw < 2147483648 by omega)), oC_t (ix_n (show p / 50 < 12 by omega) (by omega)), nI_clamp (show p / 50 < 2147483648 by omega), k3]
    have sec : ∃ x, (oB (fX5_secondOf (nI p)) (fun r4 => if nI k ≤ 1 then (fX5_isThere_59 h 1 r4) else (oC (decide (hT h (G.jd 0) = 6)) (fX5_isThere_59 h (hI h 642 (G.jd 0)) r4)))) = some x ∧ Tf x (if 1 < k then p / 2 % 5 < z.np else p / 2 % 5 = 0) := by
      rw [w2, oB_v]
      by_cases d : 1 < k
      · rw [if_neg (show ¬ nI k ≤ 1 from nI_ge (a := 1) d (by omega)), oC_d (S.jt0 J), m2, fX5_isThere_59]
        simp only [if_pos d]
        by_cases f : p / 2 % 5 < z.np
        · rw [if_neg (nI_ge f (by omega))]; exact ⟨1, rfl, .inl ⟨rfl, f⟩⟩
        · rw [if_pos (nI_le (by omega) (by omega))]; exact ⟨0, rfl, .inr ⟨rfl, f⟩⟩
      · rw [if_pos (show nI k ≤ 1 from nI_le (b := 1) (by omega) (by omega)), fX5_isThere_59]
        simp only [if_neg d]
        by_cases f : p / 2 % 5 = 0
        · rw [if_neg (by rw [f, one]; exact nI_ge (by decide) (by decide))]; exact ⟨1, rfl, .inl ⟨rfl, f⟩⟩
        · rw [if_pos (by rw [one]; exact nI_le (by omega) (by omega))]; exact ⟨0, rfl, .inr ⟨rfl, f⟩⟩
    rw [fX5_isThere, fX5_isThere_0, oC_d (S.jt0 J), w0, oB_v, S.jr640 J, oN_v, oC_d S.t5, pl, oB_v, oB_v, m3, if_neg (nI_ge c (by omega)), w1, oB_v]
    unfold isLit
    rw [ep]
    by_cases d : 0 < k
    · rw [if_neg (show ¬ nI k ≤ 0 from nI_ge (a := 0) d (by omega)), m2, fX5_isThere_39]
      by_cases f : p / 10 % 5 < z.np
      · rw [if_neg (nI_ge f (by omega))]
        obtain ⟨x, s1, s2⟩ := sec
        exact ⟨x, s1, s2.iff ⟨fun h => ⟨c, by rw [if_pos d]; exact f, h⟩, fun h => h.2.2⟩⟩
      · rw [if_pos (nI_le (by omega) (by omega))]
        exact ⟨0, rfl, .inr ⟨rfl, fun h => f (by have := h.2.1; rw [if_pos d] at this; exact this)⟩⟩
    · rw [if_pos (show nI k ≤ 0 from nI_le (b := 0) (by omega) (by omega)), fX5_isThere_39]
      by_cases f : p / 10 % 5 = 0
      · rw [if_neg (by rw [f, one]; exact nI_ge (by decide) (by decide))]
        obtain ⟨x, s1, s2⟩ := sec
        exact ⟨x, s1, s2.iff ⟨fun h => ⟨c, by rw [if_neg d]; exact f, h⟩, fun h => h.2.2⟩⟩
      · rw [if_pos (by rw [one]; exact nI_le (by omega) (by omega))]
        exact ⟨0, rfl, .inr ⟨rfl, fun h => f (by have := h.2.1; rw [if_neg d] at this; exact this)⟩⟩
  · have pl : ∃ y, fX1_placesOf h 5 (nI (p / 50)) = some y := by
      unfold fX1_placesOf fX1_placesOf_0
      simp only [if_neg (nI_pos (n := p / 50) (by omega)), S.t0, S.t1, S.t3, S.t5, S.t6, S.t8, S.t10, S.t12, S.t14, S.t23, S.t24, S.t7, S.t9, S.t11, S.t13, S.t15, S.t16, S.t17, S.t18, S.t19, S.t20, S.t21, S.t25, S.t29, S.t30, S.t31, S.n7, S.n9, S.n11, S.n13, S.n15, S.n16, S.n17, S.n18, S.n19, S.n20, S.n21, S.n25, S.n29, S.n30, S.n31, S.r1408_0, S.r1409_0, S.r1410_0, S.r1411_0, S.r1412_0, S.r128_5, S.r129_5, S.r130_5, S.r131_5, S.r132_5, S.r133_5, S.r134_5, S.r135_5, S.r136_5, S.r137_5, S.r138_5, S.r512_23, S.r513_23, S.r514_23, S.r515_23, S.r896_6, S.r896_8, S.r896_10, S.r896_12, S.r896_14, S.r1280_24, S.r0_1, S.ttk, S.otk, S.r0_3, S.twk, S.owk, S.r141_5, S.tpg, S.opg, S.r1281_24, S.tkd, S.okd, S.r1282_24, S.tst, S.ost, S.r1283_24, S.tvl, S.ovl, S.o0, S.o1, S.o3, S.o31, S.o5, S.o6, S.o7, S.o8, S.o9, S.o10, S.o11, S.o12, S.o13, S.o14, S.o15, S.o16, S.o17, S.o18, S.o19, S.o20, S.o21, S.o23, S.o24, S.o25, S.o29, S.o30, oN_v, oC_v, oB_v, oB2_v, oB3_v, oB4_v, oK3_v, oK4_v, oL_v, if_true, if_false, and_false, false_and, and_true, true_and, and_self, decide_true, decide_false, reduceCtorEq, not_false_eq_true, not_true_eq_false, Nat.reduceEqDiff, Nat.reduceAdd, Nat.reduceMul, Nat.add_zero, Nat.zero_add, c2, if_pos (nI_le (show z.nw ≤ p / 50 by omega) (show p / 50 < 2147483648 by omega))]
      exact ⟨_, rfl⟩
    obtain ⟨y, pl⟩ := pl
    rw [fX5_isThere, fX5_isThere_0, oC_d (S.jt0 J), w0, oB_v, S.jr640 J, oN_v, oC_d S.t5, pl, oB_v, oB_v, m3, if_pos (nI_le (by omega) (by omega))]
    exact ⟨0, rfl, .inr ⟨rfl, fun h => c h.1⟩⟩
/-- a byte kept -/
theorem by_m1 : Int8.toInt32 (Int32.toInt8 (Int8.toInt32 (Int32.toInt8 (-1)))) = -1 := by decide
theorem by_2 : Int8.toInt32 (Int32.toInt8 (Int8.toInt32 (Int32.toInt8 2))) = 2 := by decide
theorem by_1 : Int8.toInt32 (Int32.toInt8 (Int8.toInt32 (Int32.toInt8 1))) = 1 := by decide
theorem by_0 : Int8.toInt32 (Int32.toInt8 (Int8.toInt32 (Int32.toInt8 0))) = 0 := by decide
theorem beginL {G : Gh} {z : Sz} {u0 : MS} {nu : Nat → Int32} {E1 E2 E3 : Nat → List Tok} (zo : z.ok) : ∀ m p f h, p + m = 600 → CEv h G z u0 nu E1 E2 E3 → hI h 642 (G.jd 0) = nI z.np → hI h 643 (G.jd 0) = nI z.nw → (∀ q, q < p → (isLit (plN u0) z.nw z.np q ∧ hA h (G.jd 10) q = 2) ∨ (¬ isLit (plN u0) z.nw z.np q ∧ hA h (G.jd 10) q = -1)) → ∃ h', fX5_begin_78 (f + (m + 1)) h (G.jd 0) (nI p) = some h' ∧ CH G (fun k => k = 10) h h' ∧ ∀ q, q < 600 → (isLit (plN u0) z.nw z.np q ∧ hA h' (G.jd 10) q = 2) ∨ (¬ isLit (plN u0) z.nw z.np q ∧ hA h' (G.jd 10) q = -1)
  | 0, p, f, h, e, W, m2, m3, hz => by
    have ep : p = 600 := e
    subst ep
    have ul : fX5_begin_78 (f + (0 + 1)) h (G.jd 0) (nI 600) = fX5_begin_78F (fX5_begin_78 f) h (G.jd 0) (nI 600) := rfl
    exact ⟨h, by rw [ul, fX5_begin_78F, if_pos (show (600 : Int32) ≤ nI 600 from Int32.le_refl _)], CH.refl G _ h, hz⟩
  | m + 1, p, f, h, e, W, m2, m3, hz => by
    have S := W.s
    have J := W.j
    have hp : p < 600 := by omega
    have ul : fX5_begin_78 (f + (m + 1 + 1)) h (G.jd 0) (nI p) = fX5_begin_78F (fX5_begin_78 (f + (m + 1))) h (G.jd 0) (nI p) := rfl
    have v10 : vj 10 := by unfold vj; omega
    have v0 : vj 0 := by unfold vj; omega
    have go : ∀ x y : Int32, Int8.toInt32 (Int32.toInt8 (Int8.toInt32 (Int32.toInt8 x))) = y → ((isLit (plN u0) z.nw z.np p ∧ y = 2) ∨ (¬ isLit (plN u0) z.nw z.np p ∧ y = -1)) → ∃ h', fX5_begin_103 (fX5_begin_78 (f + (m + 1))) h (G.jd 0) (nI p) x (nI p) (hR h 646 (G.jd 0)) = some h' ∧ CH G (fun k => k = 10) h h' ∧ ∀ q, q < 600 → (isLit (plN u0) z.nw z.np q ∧ hA h' (G.jd 10) q = 2) ∨ (¬ isLit (plN u0) z.nw z.np q ∧ hA h' (G.jd 10) q = -1) := by
      intro x y ey hy
      have c : CH G (fun k => k = 10) h (sA h (G.jd 10) p y) := (CH.refl G _ h).sA v10 rfl
      have o := c.own S J v0 (by decide)
      obtain ⟨h', a1, a2, a3⟩ := beginL zo m (p + 1) f (sA h (G.jd 10) p y) (by omega) (W.ch2 c (by decide)) (by rw [o.1]; exact m2) (by rw [o.1]; exact m3) (fun q hq => by
        simp only [z_hI_sI, z_hL_sI, z_hR_sI, z_hA_sI, z_hB_sI, z_hC_sI, z_hT_sI, z_hN_sI, z_hZ_sI, z_hI_sL, z_hL_sL, z_hR_sL, z_hA_sL, z_hB_sL, z_hC_sL, z_hT_sL, z_hN_sL, z_hZ_sL, z_hI_sR, z_hL_sR, z_hR_sR, z_hA_sR, z_hB_sR, z_hC_sR, z_hT_sR, z_hN_sR, z_hZ_sR, z_hI_sA, z_hL_sA, z_hR_sA, z_hA_sA, z_hB_sA, z_hC_sA, z_hT_sA, z_hN_sA, z_hZ_sA, z_hI_sB, z_hL_sB, z_hR_sB, z_hA_sB, z_hB_sB, z_hC_sB, z_hT_sB, z_hN_sB, z_hZ_sB, z_hI_sC, z_hL_sC, z_hR_sC, z_hA_sC, z_hB_sC, z_hC_sC, z_hT_sC, z_hN_sC, z_hZ_sC, z_hI_sY, z_hL_sY, z_hR_sY, z_hA_sY, z_hB_sY, z_hC_sY, z_hT_sY, z_hN_sY, z_hZ_sY, z_hI_nO, z_hL_nO, z_hR_nO, z_hA_nO, z_hB_nO, z_hC_nO, z_hT_nO, z_hN_nO, z_hZ_nO, z_hI_nA, z_hL_nA, z_hR_nA, z_hA_nA, z_hB_nA, z_hC_nA, z_hT_nA, z_hN_nA, z_hZ_nA, if_true, if_false, and_false, false_and, and_true, true_and, and_self, decide_true, decide_false, reduceCtorEq, not_false_eq_true, not_true_eq_false, Nat.reduceEqDiff, Nat.reduceAdd, Nat.reduceMul, Nat.add_zero, Nat.zero_add]
        by_cases d : q = p
        · rw [if_pos d, d]; exact hy
        · rw [if_neg d]; exact hz q (by omega))
      refine ⟨h', ?_, c.trans a2, a3⟩
      rw [fX5_begin_103, S.jr646 J, oN_v, oC_d (S.jt10 J), S.jn10 J, oC_t (ix_n hp (by decide)), nI_clamp (show p < 2147483648 by omega), ey, oL_v, oL_v, show nI p + 1 = nI (p + 1) from nI_add p 1]
      exact a1
    obtain ⟨x, x1, x2⟩ := isThereC W zo m2 m3 hp
    rw [ul, fX5_begin_78F, if_neg (show ¬ (600 : Int32) ≤ nI p from nI_ge (b := 600) hp (by decide)), oC_d (S.jt0 J), x1, oB_v]
    rcases x2.cases with ⟨_, g2, g3⟩ | ⟨g1, g2⟩
    · rw [if_neg g2]; exact go 2 2 by_2 (.inl ⟨g3, rfl⟩)
    · rw [if_pos g1]; exact go (-1) (-1) by_m1 (.inr ⟨g2, rfl⟩)
/-- the judgment begun -/
def CB (h : PH) (h' : PH) (G : Gh) (z : Sz) (u0 : MS) : Prop := (CH G (fun k => k = 0 ∨ k = 9 ∨ k = 10 ∨ k = 11 ∨ k = 18) h h') ∧ (hI h' 642 (G.jd 0) = nI z.np) ∧ (hI h' 643 (G.jd 0) = nI z.nw) ∧ (hI h' 644 (G.jd 0) = nI z.ns) ∧ (hI h' 651 (G.jd 0) = 0) ∧ (hI h' 655 (G.jd 0) = 0) ∧ (∀ q, q < 600 → hA h' (G.jd 9) q = 0) ∧ (∀ q, q < 600 → (isLit (plN u0) z.nw z.np q ∧ hA h' (G.jd 10) q = 2) ∨ (¬ isLit (plN u0) z.nw z.np q ∧ hA h' (G.jd 10) q = -1)) ∧ (∀ q, q < 600 → hA h' (G.jd 11) q = -1) ∧ (∀ q, q < 4 → hA h' (G.jd 18) q = 0)
theorem CB.ch {h : PH} {h' : PH} {G : Gh} {z : Sz} {u0 : MS} (X_ : CB h h' G z u0) : CH G (fun k => k = 0 ∨ k = 9 ∨ k = 10 ∨ k = 11 ∨ k = 18) h h' := X_.1
theorem CB.m2 {h : PH} {h' : PH} {G : Gh} {z : Sz} {u0 : MS} (X_ : CB h h' G z u0) : hI h' 642 (G.jd 0) = nI z.np := X_.2.1
theorem CB.m3 {h : PH} {h' : PH} {G : Gh} {z : Sz} {u0 : MS} (X_ : CB h h' G z u0) : hI h' 643 (G.jd 0) = nI z.nw := X_.2.2.1
theorem CB.m4 {h : PH} {h' : PH} {G : Gh} {z : Sz} {u0 : MS} (X_ : CB h h' G z u0) : hI h' 644 (G.jd 0) = nI z.ns := X_.2.2.2.1
theorem CB.m51 {h : PH} {h' : PH} {G : Gh} {z : Sz} {u0 : MS} (X_ : CB h h' G z u0) : hI h' 651 (G.jd 0) = 0 := X_.2.2.2.2.1
theorem CB.m55 {h : PH} {h' : PH} {G : Gh} {z : Sz} {u0 : MS} (X_ : CB h h' G z u0) : hI h' 655 (G.jd 0) = 0 := X_.2.2.2.2.2.1
theorem CB.a9 {h : PH} {h' : PH} {G : Gh} {z : Sz} {u0 : MS} (X_ : CB h h' G z u0) : ∀ q, q < 600 → hA h' (G.jd 9) q = 0 := X_.2.2.2.2.2.2.1
theorem CB.a10 {h : PH} {h' : PH} {G : Gh} {z : Sz} {u0 : MS} (X_ : CB h h' G z u0) : ∀ q, q < 600 → (isLit (plN u0) z.nw z.np q ∧ hA h' (G.jd 10) q = 2) ∨ (¬ isLit (plN u0) z.nw z.np q ∧ hA h' (G.jd 10) q = -1) := X_.2.2.2.2.2.2.2.1
theorem CB.a11 {h : PH} {h' : PH} {G : Gh} {z : Sz} {u0 : MS} (X_ : CB h h' G z u0) : ∀ q, q < 600 → hA h' (G.jd 11) q = -1 := X_.2.2.2.2.2.2.2.2.1
theorem CB.a18 {h : PH} {h' : PH} {G : Gh} {z : Sz} {u0 : MS} (X_ : CB h h' G z u0) : ∀ q, q < 4 → hA h' (G.jd 18) q = 0 := X_.2.2.2.2.2.2.2.2.2
theorem CB.mk {h : PH} {h' : PH} {G : Gh} {z : Sz} {u0 : MS} (ch_ : CH G (fun k => k = 0 ∨ k = 9 ∨ k = 10 ∨ k = 11 ∨ k = 18) h h') (m2_ : hI h' 642 (G.jd 0) = nI z.np) (m3_ : hI h' 643 (G.jd 0) = nI z.nw) (m4_ : hI h' 644 (G.jd 0) = nI z.ns) (m51_ : hI h' 651 (G.jd 0) = 0) (m55_ : hI h' 655 (G.jd 0) = 0) (a9_ : ∀ q, q < 600 → hA h' (G.jd 9) q = 0) (a10_ : ∀ q, q < 600 → (isLit (plN u0) z.nw z.np q ∧ hA h' (G.jd 10) q = 2) ∨ (¬ isLit (plN u0) z.nw z.np q ∧ hA h' (G.jd 10) q = -1)) (a11_ : ∀ q, q < 600 → hA h' (G.jd 11) q = -1) (a18_ : ∀ q, q < 4 → hA h' (G.jd 18) q = 0) : CB h h' G z u0 := ⟨ch_, m2_, m3_, m4_, m51_, m55_, a9_, a10_, a11_, a18_⟩
theorem beginC {h : PH} {G : Gh} {z : Sz} {u0 : MS} {nu : Nat → Int32} {E1 E2 E3 : Nat → List Tok} (W : CEv h G z u0 nu E1 E2 E3) (zo : z.ok) : ∃ h', fX5_begin h (G.jd 0) = some h' ∧ CB h h' G z u0 := by
  have S := W.s
  have J := W.j
  obtain ⟨c1, c2, c3, c4, c5, c6, c7⟩ := W.c
  have v0 : vj 0 := by unfold vj; omega
  have v9 : vj 9 := by unfold vj; omega
  have v10 : vj 10 := by unfold vj; omega
  have v11 : vj 11 := by unfold vj; omega
  have v18 : vj 18 := by unfold vj; omega
  have n6 : ¬ 6 = G.jd 0 := fun e => by have a := S.o6; have b := S.jo J 0 v0; rw [← e] at b; omega
  have n8 : ¬ 8 = G.jd 0 := fun e => by have a := S.o8; have b := S.jo J 0 v0; rw [← e] at b; omega
  have n10 : ¬ 10 = G.jd 0 := fun e => by have a := S.o10; have b := S.jo J 0 v0; rw [← e] at b; omega
  have k1 : CH G (fun k => k = 0) h (sI (sI (sI (sI (sI h 642 (G.jd 0) (nI z.np)) 643 (G.jd 0) (nI z.nw)) 644 (G.jd 0) (nI z.ns)) 651 (G.jd 0) 0) 655 (G.jd 0) 0) := (((((CH.refl G (fun k => k = 0) h).sI v0 rfl).sI v0 rfl).sI v0 rfl).sI v0 rfl).sI v0 rfl
  have i2 : hI (sI (sI (sI (sI (sI h 642 (G.jd 0) (nI z.np)) 643 (G.jd 0) (nI z.nw)) 644 (G.jd 0) (nI z.ns)) 651 (G.jd 0) 0) 655 (G.jd 0) 0) 642 (G.jd 0) = nI z.np := by simp only [z_hI_sI, z_hL_sI, z_hR_sI, z_hA_sI, z_hB_sI, z_hC_sI, z_hT_sI, z_hN_sI, z_hZ_sI, z_hI_sL, z_hL_sL, z_hR_sL, z_hA_sL, z_hB_sL, z_hC_sL, z_hT_sL, z_hN_sL, z_hZ_sL, z_hI_sR, z_hL_sR, z_hR_sR, z_hA_sR, z_hB_sR, z_hC_sR, z_hT_sR, z_hN_sR, z_hZ_sR, z_hI_sA, z_hL_sA, z_hR_sA, z_hA_sA, z_hB_sA, z_hC_sA, z_hT_sA, z_hN_sA, z_hZ_sA, z_hI_sB, z_hL_sB, z_hR_sB, z_hA_sB, z_hB_sB, z_hC_sB, z_hT_sB, z_hN_sB, z_hZ_sB, z_hI_sC, z_hL_sC, z_hR_sC, z_hA_sC, z_hB_sC, z_hC_sC, z_hT_sC, z_hN_sC, z_hZ_sC, z_hI_sY, z_hL_sY, z_hR_sY, z_hA_sY, z_hB_sY, z_hC_sY, z_hT_sY, z_hN_sY, z_hZ_sY, z_hI_nO, z_hL_nO, z_hR_nO, z_hA_nO, z_hB_nO, z_hC_nO, z_hT_nO, z_hN_nO, z_hZ_nO, z_hI_nA, z_hL_nA, z_hR_nA, z_hA_nA, z_hB_nA, z_hC_nA, z_hT_nA, z_hN_nA, z_hZ_nA, if_true, if_false, and_false, false_and, and_true, true_and, and_self, decide_true, decide_false, reduceCtorEq, not_false_eq_true, not_true_eq_false, Nat.reduceEqDiff, Nat.reduceAdd, Nat.reduceMul, Nat.add_zero, Nat.zero_add]
  have i3 : hI (sI (sI (sI (sI (sI h 642 (G.jd 0) (nI z.np)) 643 (G.jd 0) (nI z.nw)) 644 (G.jd 0) (nI z.ns)) 651 (G.jd 0) 0) 655 (G.jd 0) 0) 643 (G.jd 0) = nI z.nw := by simp only [z_hI_sI, z_hL_sI, z_hR_sI, z_hA_sI, z_hB_sI, z_hC_sI, z_hT_sI, z_hN_sI, z_hZ_sI, z_hI_sL, z_hL_sL, z_hR_sL, z_hA_sL, z_hB_sL, z_hC_sL, z_hT_sL, z_hN_sL, z_hZ_sL, z_hI_sR, z_hL_sR, z_hR_sR, z_hA_sR, z_hB_sR, z_hC_sR, z_hT_sR, z_hN_sR, z_hZ_sR, z_hI_sA, z_hL_sA, z_hR_sA, z_hA_sA, z_hB_sA, z_hC_sA, z_hT_sA, z_hN_sA, z_hZ_sA, z_hI_sB, z_hL_sB, z_hR_sB, z_hA_sB, z_hB_sB, z_hC_sB, z_hT_sB, z_hN_sB, z_hZ_sB, z_hI_sC, z_hL_sC, z_hR_sC, z_hA_sC, z_hB_sC, z_hC_sC, z_hT_sC, z_hN_sC, z_hZ_sC, z_hI_sY, z_hL_sY, z_hR_sY, z_hA_sY, z_hB_sY, z_hC_sY, z_hT_sY, z_hN_sY, z_hZ_sY, z_hI_nO, z_hL_nO, z_hR_nO, z_hA_nO, z_hB_nO, z_hC_nO, z_hT_nO, z_hN_nO, z_hZ_nO, z_hI_nA, z_hL_nA, z_hR_nA, z_hA_nA, z_hB_nA, z_hC_nA, z_hT_nA, z_hN_nA, z_hZ_nA, if_true, if_false, and_false, false_and, and_true, true_and, and_self, decide_true, decide_false, reduceCtorEq, not_false_eq_true, not_true_eq_false, Nat.reduceEqDiff, Nat.reduceAdd, Nat.reduceMul, Nat.add_zero, Nat.zero_add]
  have i4 : hI (sI (sI (sI (sI (sI h 642 (G.jd 0) (nI z.np)) 643 (G.jd 0) (nI z.nw)) 644 (G.jd 0) (nI z.ns)) 651 (G.jd 0) 0) 655 (G.jd 0) 0) 644 (G.jd 0) = nI z.ns := by simp only [z_hI_sI, z_hL_sI, z_hR_sI, z_hA_sI, z_hB_sI, z_hC_sI, z_hT_sI, z_hN_sI, z_hZ_sI, z_hI_sL, z_hL_sL, z_hR_sL, z_hA_sL, z_hB_sL, z_hC_sL, z_hT_sL, z_hN_sL, z_hZ_sL, z_hI_sR, z_hL_sR, z_hR_sR, z_hA_sR, z_hB_sR, z_hC_sR, z_hT_sR, z_hN_sR, z_hZ_sR, z_hI_sA, z_hL_sA, z_hR_sA, z_hA_sA, z_hB_sA, z_hC_sA, z_hT_sA, z_hN_sA, z_hZ_sA, z_hI_sB, z_hL_sB, z_hR_sB, z_hA_sB, z_hB_sB, z_hC_sB, z_hT_sB, z_hN_sB, z_hZ_sB, z_hI_sC, z_hL_sC, z_hR_sC, z_hA_sC, z_hB_sC, z_hC_sC, z_hT_sC, z_hN_sC, z_hZ_sC, z_hI_sY, z_hL_sY, z_hR_sY, z_hA_sY, z_hB_sY, z_hC_sY, z_hT_sY, z_hN_sY, z_hZ_sY, z_hI_nO, z_hL_nO, z_hR_nO, z_hA_nO, z_hB_nO, z_hC_nO, z_hT_nO, z_hN_nO, z_hZ_nO, z_hI_nA, z_hL_nA, z_hR_nA, z_hA_nA, z_hB_nA, z_hC_nA, z_hT_nA, z_hN_nA, z_hZ_nA, if_true, if_false, and_false, false_and, and_true, true_and, and_self, decide_true, decide_false, reduceCtorEq, not_false_eq_true, not_true_eq_false, Nat.reduceEqDiff, Nat.reduceAdd, Nat.reduceMul, Nat.add_zero, Nat.zero_add]
  have i51 : hI (sI (sI (sI (sI (sI h 642 (G.jd 0) (nI z.np)) 643 (G.jd 0) (nI z.nw)) 644 (G.jd 0) (nI z.ns)) 651 (G.jd 0) 0) 655 (G.jd 0) 0) 651 (G.jd 0) = 0 := by simp only [z_hI_sI, z_hL_sI, z_hR_sI, z_hA_sI, z_hB_sI, z_hC_sI, z_hT_sI, z_hN_sI, z_hZ_sI, z_hI_sL, z_hL_sL, z_hR_sL, z_hA_sL, z_hB_sL, z_hC_sL, z_hT_sL, z_hN_sL, z_hZ_sL, z_hI_sR, z_hL_sR, z_hR_sR, z_hA_sR, z_hB_sR, z_hC_sR, z_hT_sR, z_hN_sR, z_hZ_sR, z_hI_sA, z_hL_sA, z_hR_sA, z_hA_sA, z_hB_sA, z_hC_sA, z_hT_sA, z_hN_sA, z_hZ_sA, z_hI_sB, z_hL_sB, z_hR_sB, z_hA_sB, z_hB_sB, z_hC_sB, z_hT_sB, z_hN_sB, z_hZ_sB, z_hI_sC, z_hL_sC, z_hR_sC, z_hA_sC, z_hB_sC, z_hC_sC, z_hT_sC, z_hN_sC, z_hZ_sC, z_hI_sY, z_hL_sY, z_hR_sY, z_hA_sY, z_hB_sY, z_hC_sY, z_hT_sY, z_hN_sY, z_hZ_sY, z_hI_nO, z_hL_nO, z_hR_nO, z_hA_nO, z_hB_nO, z_hC_nO, z_hT_nO, z_hN_nO, z_hZ_nO, z_hI_nA, z_hL_nA, z_hR_nA, z_hA_nA, z_hB_nA, z_hC_nA, z_hT_nA, z_hN_nA, z_hZ_nA, if_true, if_false, and_false, false_and, and_true, true_and, and_self, decide_true, decide_false, reduceCtorEq, not_false_eq_true, not_true_eq_false, Nat.reduceEqDiff, Nat.reduceAdd, Nat.reduceMul, Nat.add_zero, Nat.zero_add]
  have i55 : hI (sI (sI (sI (sI (sI h 642 (G.jd 0) (nI z.np)) 643 (G.jd 0) (nI z.nw)) 644 (G.jd 0) (nI z.ns)) 651 (G.jd 0) 0) 655 (G.jd 0) 0) 655 (G.jd 0) = 0 := by simp only [z_hI_sI, z_hL_sI, z_hR_sI, z_hA_sI, z_hB_sI, z_hC_sI, z_hT_sI, z_hN_sI, z_hZ_sI, z_hI_sL, z_hL_sL, z_hR_sL, z_hA_sL, z_hB_sL, z_hC_sL, z_hT_sL, z_hN_sL, z_hZ_sL, z_hI_sR, z_hL_sR, z_hR_sR, z_hA_sR, z_hB_sR, z_hC_sR, z_hT_sR, z_hN_sR, z_hZ_sR, z_hI_sA, z_hL_sA, z_hR_sA, z_hA_sA, z_hB_sA, z_hC_sA, z_hT_sA, z_hN_sA, z_hZ_sA, z_hI_sB, z_hL_sB, z_hR_sB, z_hA_sB, z_hB_sB, z_hC_sB, z_hT_sB, z_hN_sB, z_hZ_sB, z_hI_sC, z_hL_sC, z_hR_sC, z_hA_sC, z_hB_sC, z_hC_sC, z_hT_sC, z_hN_sC, z_hZ_sC, z_hI_sY, z_hL_sY, z_hR_sY, z_hA_sY, z_hB_sY, z_hC_sY, z_hT_sY, z_hN_sY, z_hZ_sY, z_hI_nO, z_hL_nO, z_hR_nO, z_hA_nO, z_hB_nO, z_hC_nO, z_hT_nO, z_hN_nO, z_hZ_nO, z_hI_nA, z_hL_nA, z_hR_nA, z_hA_nA, z_hB_nA, z_hC_nA, z_hT_nA, z_hN_nA, z_hZ_nA, if_true, if_false, and_false, false_and, and_true, true_and, and_self, decide_true, decide_false, reduceCtorEq, not_false_eq_true, not_true_eq_false, Nat.reduceEqDiff, Nat.reduceAdd, Nat.reduceMul, Nat.add_zero, Nat.zero_add]
  have st : fX5_begin h (G.jd 0) = (oB (fJ7_fill_53178 (sI (sI (sI (sI (sI h 642 (G.jd 0) (nI z.np)) 643 (G.jd 0) (nI z.nw)) 644 (G.jd 0) (nI z.ns)) 651 (G.jd 0) 0) 655 (G.jd 0) 0) (some (G.jd 9)) 0) (fun h35 => oC (decide (hT h35 (G.jd 0) = 6)) (oB (fJ7_fill_53178 h35 (hR h35 647 (G.jd 0)) (-1)) (fun h38 => oC (decide (hT h38 (G.jd 0) = 6)) (oB (fJ7_fill_53178 h38 (hR h38 656 (G.jd 0)) 0) (fun h41 => fX5_begin_78 FU h41 (G.jd 0) 0)))))) := by
    rw [fX5_begin, fX5_begin_0]
    simp only [oN_v, oC_v, oB_v, oB2_v, oB3_v, oB4_v, oK3_v, oK4_v, oL_v, S.jY J, S.jt0 J, S.jt1 J, S.jt2 J, S.jt3 J, S.jt4 J, S.jt5 J, S.jt6 J, S.jt7 J, S.jt8 J, S.jt9 J, S.jt10 J, S.jt11 J, S.jt12 J, S.jt13 J, S.jt14 J, S.jt15 J, S.jt16 J, S.jt17 J, S.jt18 J, S.jt19 J, S.jt20 J, S.jn2 J, S.jn3 J, S.jn9 J, S.jn10 J, S.jn11 J, S.jn12 J, S.jn13 J, S.jn14 J, S.jn18 J, S.jn19 J, S.jn20 J, S.jr640 J, S.jr641 J, S.jr768 J, S.jr769 J, S.jr770 J, S.jr771 J, S.jr772 J, S.jr773 J, S.jr774 J, S.jr775 J, S.jr645 J, S.jr646 J, S.jr647 J, S.jr648 J, S.jr649 J, S.jr650 J, S.jr652 J, S.jr653 J, S.jr654 J, S.jr656 J, S.jr657 J, S.jr658 J, S.t0, S.t1, S.t3, S.t5, S.t6, S.t8, S.t10, S.t12, S.t14, S.t23, S.t24, S.t7, S.t9, S.t11, S.t13, S.t15, S.t16, S.t17, S.t18, S.t19, S.t20, S.t21, S.t25, S.t29, S.t30, S.t31, S.n7, S.n9, S.n11, S.n13, S.n15, S.n16, S.n17, S.n18, S.n19, S.n20, S.n21, S.n25, S.n29, S.n30, S.n31, S.r1408_0, S.r1409_0, S.r1410_0, S.r1411_0, S.r1412_0, S.r128_5, S.r129_5, S.r130_5, S.r131_5, S.r132_5, S.r133_5, S.r134_5, S.r135_5, S.r136_5, S.r137_5, S.r138_5, S.r512_23, S.r513_23, S.r514_23, S.r515_23, S.r896_6, S.r896_8, S.r896_10, S.r896_12, S.r896_14, S.r1280_24, S.r0_1, S.ttk, S.otk, S.r0_3, S.twk, S.owk, S.r141_5, S.tpg, S.opg, S.r1281_24, S.tkd, S.okd, S.r1282_24, S.tst, S.ost, S.r1283_24, S.tvl, S.ovl, S.o0, S.o1, S.o3, S.o31, S.o5, S.o6, S.o7, S.o8, S.o9, S.o10, S.o11, S.o12, S.o13, S.o14, S.o15, S.o16, S.o17, S.o18, S.o19, S.o20, S.o21, S.o23, S.o24, S.o25, S.o29, S.o30, z_hI_sI, z_hL_sI, z_hR_sI, z_hA_sI, z_hB_sI, z_hC_sI, z_hT_sI, z_hN_sI, z_hZ_sI, z_hI_sL, z_hL_sL, z_hR_sL, z_hA_sL, z_hB_sL, z_hC_sL, z_hT_sL, z_hN_sL, z_hZ_sL, z_hI_sR, z_hL_sR, z_hR_sR, z_hA_sR, z_hB_sR, z_hC_sR, z_hT_sR, z_hN_sR, z_hZ_sR, z_hI_sA, z_hL_sA, z_hR_sA, z_hA_sA, z_hB_sA, z_hC_sA, z_hT_sA, z_hN_sA, z_hZ_sA, z_hI_sB, z_hL_sB, z_hR_sB, z_hA_sB, z_hB_sB, z_hC_sB, z_hT_sB, z_hN_sB, z_hZ_sB, z_hI_sC, z_hL_sC, z_hR_sC, z_hA_sC, z_hB_sC, z_hC_sC, z_hT_sC, z_hN_sC, z_hZ_sC, z_hI_sY, z_hL_sY, z_hR_sY, z_hA_sY, z_hB_sY, z_hC_sY, z_hT_sY, z_hN_sY, z_hZ_sY, z_hI_nO, z_hL_nO, z_hR_nO, z_hA_nO, z_hB_nO, z_hC_nO, z_hT_nO, z_hN_nO, z_hZ_nO, z_hI_nA, z_hL_nA, z_hR_nA, z_hA_nA, z_hB_nA, z_hC_nA, z_hT_nA, z_hN_nA, z_hZ_nA, if_true, if_false, and_false, false_and, and_true, true_and, and_self, decide_true, decide_false, reduceCtorEq, not_false_eq_true, not_true_eq_false, Nat.reduceEqDiff, Nat.reduceAdd, Nat.reduceMul, Nat.add_zero, Nat.zero_add, c1, c2, c3, n6, n8, n10]
  generalize sI (sI (sI (sI (sI h 642 (G.jd 0) (nI z.np)) 643 (G.jd 0) (nI z.nw)) 644 (G.jd 0) (nI z.ns)) 651 (G.jd 0) 0) 655 (G.jd 0) 0 = ha at k1 i2 i3 i4 i51 i55 st
  have Sa := k1.sx S
  obtain ⟨hb, b1, b2, b3⟩ := fillC (v := 0) v9 (by decide) (Sa.jt9 J) (Sa.jn9 J)
  have Sb := b2.sx Sa
  obtain ⟨hc, d1, d2, d3⟩ := fillC (v := -1) v11 (by decide) (Sb.jt11 J) (Sb.jn11 J)
  have Sc := d2.sx Sb
  obtain ⟨hd, e1, e2, e3⟩ := fillC (v := 0) v18 (by decide) (Sc.jt18 J) (Sc.jn18 J)
  have Sd := e2.sx Sc
  have kk : CH G (fun k => k = 0 ∨ k = 9 ∨ k = 11 ∨ k = 18) h hd := (((k1.mono fun i e => by omega).trans (b2.mono fun i e => by omega)).trans (d2.mono fun i e => by omega)).trans (e2.mono fun i e => by omega)
  have o0 : ∀ f, hI hd f (G.jd 0) = hI ha f (G.jd 0) := fun f => (((e2.own Sc J v0 (by decide)).1 f).trans ((d2.own Sb J v0 (by decide)).1 f)).trans ((b2.own Sa J v0 (by decide)).1 f)
  obtain ⟨he, f1, f2, f3⟩ := beginL zo 600 0 99399 hd rfl (W.ch2 kk (by decide)) (by rw [o0]; exact i2) (by rw [o0]; exact i3) (fun q hq => by omega)
  have p0 : ∀ f, hI he f (G.jd 0) = hI ha f (G.jd 0) := fun f => ((f2.own Sd J v0 (by decide)).1 f).trans (o0 f)
  refine ⟨he, ?_, CB.mk ?_ ?_ ?_ ?_ ?_ ?_ ?_ f3 ?_ ?_⟩
  · rw [st, b1, oB_v, oC_d (Sb.jt0 J), Sb.jr647 J, d1, oB_v, oC_d (Sc.jt0 J), Sc.jr656 J, e1, oB_v, show FU = 99399 + (600 + 1) from rfl]
    exact f1
  · exact (kk.mono fun i e => by omega).trans (f2.mono fun i e => by omega)
  · rw [p0]; exact i2
  · rw [p0]; exact i3
  · rw [p0]; exact i4
  · rw [p0]; exact i51
  · rw [p0]; exact i55
  · intro q hq
    rw [(f2.own Sd J v9 (by decide)).2.2.1, (e2.own Sc J v9 (by decide)).2.2.1, (d2.own Sb J v9 (by decide)).2.2.1]; exact b3 q hq
  · intro q hq
    rw [(f2.own Sd J v11 (by decide)).2.2.1, (e2.own Sc J v11 (by decide)).2.2.1]; exact d3 q hq
  · intro q hq
    rw [(f2.own Sd J v18 (by decide)).2.2.1]; exact e3 q hq
