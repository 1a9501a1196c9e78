-- needs: 63 70 71 72 73 74 75 76 77 78 79 80
theorem sp_testify : SP_testify Inv := by
  intro n c s h u x so a b f t w ⟨G, z, I, B⟩
  have S := I.sx
  have T := I.te
  have t100 := S.nt100
  obtain ⟨d, hd, d1, d2⟩ := I.dy
  obtain ⟨r, e1, e2, hr⟩ := lit_eq (x := x) (so := bo so) (a := a) (b := b) (cw := z.nw) (cp := z.np) S I.kr.pl I.zo.2.1 (Nat.le_refl _) I.zo.1
  simp only [fX11_testify, fX11_testify_0, fX12_testify, fX12_testify_0, S.t0, S.t1, S.t3, S.t5, S.t6, S.t8, S.t10, S.t12, S.t14, S.t23, S.t24, S.t7, S.t9, S.t11, S.t13, S.t15, S.t16, S.t17, S.t18, S.t19, S.t20, S.t21, S.t25, S.t29, S.t30, S.t31, S.n7, S.n9, S.n11, S.n13, S.n15, S.n16, S.n17, S.n18, S.n19, S.n20, S.n21, S.n25, S.n29, S.n30, S.n31, S.r1408_0, S.r1409_0, S.r1410_0, S.r1411_0, S.r1412_0, S.r128_5, S.r129_5, S.r130_5, S.r131_5, S.r132_5, S.r133_5, S.r134_5, S.r135_5, S.r136_5, S.r137_5, S.r138_5, S.r512_23, S.r513_23, S.r514_23, S.r515_23, S.r896_6, S.r896_8, S.r896_10, S.r896_12, S.r896_14, S.r1280_24, S.r0_1, S.ttk, S.otk, S.r0_3, S.twk, S.owk, S.r141_5, S.tpg, S.opg, S.r1281_24, S.tkd, S.okd, S.r1282_24, S.tst, S.ost, S.r1283_24, S.tvl, S.ovl, S.o0, S.o1, S.o3, S.o31, S.o5, S.o6, S.o7, S.o8, S.o9, S.o10, S.o11, S.o12, S.o13, S.o14, S.o15, S.o16, S.o17, S.o18, S.o19, S.o20, S.o21, S.o23, S.o24, S.o25, S.o29, S.o30, oN_v, oC_v, oB_v, oB2_v, oB3_v, oB4_v, oK3_v, oK4_v, oL_v, decide_true, I.zc.1, I.zc.2.1, I.zm.1, I.zm.2.1, e1, e2, T.n2]
  have no : ∀ {q : Option (PH × Int32 × Nat × Nat)} {q' : Option (MS × Int32)}, q = some (h, -1, 0, 0) → q' = some (u, -1) → ∃ h' r kc ks u', q = some (h', r, kc, ks) ∧ q' = some (u', r) ∧ Inv n (c + kc) (s + ks) h' u' := fun e1 e2 => ⟨h, -1, 0, 0, u, e1, e2, G, z, I, B.dn⟩
  have bad : ∀ y, fX11_testify_78 h 0 f t w r y 0 = some (h, -1, 0, 0) := by
    intro y
    simp only [fX11_testify_78, if_true]
    split
    · rfl
    · split <;> rfl
  have bad2 : fX11_testify_58 h 0 f t w r 0 = some (h, -1, 0, 0) := by
    simp only [fX11_testify_58, fX11_testify_78, if_true]
    split
    · split <;> rfl
    · split
      · split <;> rfl
      · split <;> rfl
  by_cases q1 : f < 0
  · simp only [if_pos q1]
    refine no bad2 ?_
    split
    · rfl
    · split <;> rfl
  simp only [if_neg q1]
  by_cases q2 : t ≤ f
  · simp only [if_pos q2]
    refine no bad2 ?_
    split
    · rfl
    · split <;> rfl
  simp only [if_neg q2]
  by_cases q3 : 1000000 < t
  · simp only [if_pos q3]
    refine no bad2 ?_
    split
    · rfl
    · split <;> rfl
  simp only [if_neg q3, fX11_testify_58]
  by_cases q4 : w < 1
  · simp only [if_pos q4]
    refine no (bad 1) ?_
    split
    · rfl
    · split <;> rfl
  simp only [if_neg q4]
  by_cases q5 : ¬ w ≤ 9
  · simp only [if_pos (show 9 < w by grind), if_neg q5]
    refine no (bad 1) ?_
    split
    · rfl
    · split <;> rfl
  replace q5 : w ≤ 9 := Decidable.not_not.mp q5
  simp only [if_neg (show ¬ 9 < w by grind), if_pos q5, fX11_testify_78, show ¬ ((1 : Int32) = 0) by decide, if_false, S.t0, S.t1, S.t3, S.t5, S.t6, S.t8, S.t10, S.t12, S.t14, S.t23, S.t24, S.t7, S.t9, S.t11, S.t13, S.t15, S.t16, S.t17, S.t18, S.t19, S.t20, S.t21, S.t25, S.t29, S.t30, S.t31, S.n7, S.n9, S.n11, S.n13, S.n15, S.n16, S.n17, S.n18, S.n19, S.n20, S.n21, S.n25, S.n29, S.n30, S.n31, S.r1408_0, S.r1409_0, S.r1410_0, S.r1411_0, S.r1412_0, S.r128_5, S.r129_5, S.r130_5, S.r131_5, S.r132_5, S.r133_5, S.r134_5, S.r135_5, S.r136_5, S.r137_5, S.r138_5, S.r512_23, S.r513_23, S.r514_23, S.r515_23, S.r896_6, S.r896_8, S.r896_10, S.r896_12, S.r896_14, S.r1280_24, S.r0_1, S.ttk, S.otk, S.r0_3, S.twk, S.owk, S.r141_5, S.tpg, S.opg, S.r1281_24, S.tkd, S.okd, S.r1282_24, S.tst, S.ost, S.r1283_24, S.tvl, S.ovl, S.o0, S.o1, S.o3, S.o31, S.o5, S.o6, S.o7, S.o8, S.o9, S.o10, S.o11, S.o12, S.o13, S.o14, S.o15, S.o16, S.o17, S.o18, S.o19, S.o20, S.o21, S.o23, S.o24, S.o25, S.o29, S.o30, oN_v, oC_v, oB_v, oB2_v, oB3_v, oB4_v, oK3_v, oK4_v, oL_v, decide_true, T.n1]
  rcases hr with hr | ⟨p, hp, hr, hl⟩
  · subst hr
    simp only [if_true]
    refine no rfl ?_
    split <;> rfl
  subst hr
  simp only [if_neg (nI_m1 (p := p) (by omega))]
  by_cases c1 : G.nt = 100
  · have e3 : ¬ nI G.nt < 100 := by rw [c1]; decide
    have e4 : nI G.nt = 100 := by rw [c1]; rfl
    simp only [if_neg e3, if_pos e4]
    exact no rfl rfl
  have e3 : nI G.nt < 100 := nI_lt (b := 100) (by omega) (by omega)
  have e4 : ¬ nI G.nt = 100 := fun q => c1 ((nI_eq (b := 100) (by omega) (by omega)).mp q)
  obtain ⟨wn, hw0, hw9, ew⟩ := nI_of3 (x := w) (d := 1) (m := 9) (by omega) (by omega) q4 q5
  subst ew
  have zz := S.zz
  have nz : ∀ k, k < 110 → ¬ k = hZ h := fun k hk => by omega
  have o31 : ¬ 31 = hZ h := nz 31 (by omega)
  have o0 : ¬ 0 = hZ h := nz 0 (by omega)
  simp only [if_pos e3, if_neg e4, fX9_init, fX9_init_0, z_hI_sI, z_hL_sI, z_hR_sI, z_hA_sI, z_hB_sI, z_hC_sI, z_hT_sI, z_hN_sI, z_hZ_sI, z_hI_sL, z_hL_sL, z_hR_sL, z_hA_sL, z_hB_sL, z_hC_sL, z_hT_sL, z_hN_sL, z_hZ_sL, z_hI_sR, z_hL_sR, z_hR_sR, z_hA_sR, z_hB_sR, z_hC_sR, z_hT_sR, z_hN_sR, z_hZ_sR, z_hI_sA, z_hL_sA, z_hR_sA, z_hA_sA, z_hB_sA, z_hC_sA, z_hT_sA, z_hN_sA, z_hZ_sA, z_hI_sB, z_hL_sB, z_hR_sB, z_hA_sB, z_hB_sB, z_hC_sB, z_hT_sB, z_hN_sB, z_hZ_sB, z_hI_sC, z_hL_sC, z_hR_sC, z_hA_sC, z_hB_sC, z_hC_sC, z_hT_sC, z_hN_sC, z_hZ_sC, z_hI_sY, z_hL_sY, z_hR_sY, z_hA_sY, z_hB_sY, z_hC_sY, z_hT_sY, z_hN_sY, z_hZ_sY, z_hI_nO, z_hL_nO, z_hR_nO, z_hA_nO, z_hB_nO, z_hC_nO, z_hT_nO, z_hN_nO, z_hZ_nO, z_hI_nA, z_hL_nA, z_hR_nA, z_hA_nA, z_hB_nA, z_hC_nA, z_hT_nA, z_hN_nA, z_hZ_nA, z_mI_mSI, z_mL_mSI, z_mA_mSI, z_mB_mSI, z_mI_mSL, z_mL_mSL, z_mA_mSL, z_mB_mSL, z_mI_mSA, z_mL_mSA, z_mA_mSA, z_mB_mSA, z_mI_mSB, z_mL_mSB, z_mA_mSB, z_mB_mSB, S.t0, S.t1, S.t3, S.t5, S.t6, S.t8, S.t10, S.t12, S.t14, S.t23, S.t24, S.t7, S.t9, S.t11, S.t13, S.t15, S.t16, S.t17, S.t18, S.t19, S.t20, S.t21, S.t25, S.t29, S.t30, S.t31, S.n7, S.n9, S.n11, S.n13, S.n15, S.n16, S.n17, S.n18, S.n19, S.n20, S.n21, S.n25, S.n29, S.n30, S.n31, S.r1408_0, S.r1409_0, S.r1410_0, S.r1411_0, S.r1412_0, S.r128_5, S.r129_5, S.r130_5, S.r131_5, S.r132_5, S.r133_5, S.r134_5, S.r135_5, S.r136_5, S.r137_5, S.r138_5, S.r512_23, S.r513_23, S.r514_23, S.r515_23, S.r896_6, S.r896_8, S.r896_10, S.r896_12, S.r896_14, S.r1280_24, S.r0_1, S.ttk, S.otk, S.r0_3, S.twk, S.owk, S.r141_5, S.tpg, S.opg, S.r1281_24, S.tkd, S.okd, S.r1282_24, S.tst, S.ost, S.r1283_24, S.tvl, S.ovl, S.o0, S.o1, S.o3, S.o31, S.o5, S.o6, S.o7, S.o8, S.o9, S.o10, S.o11, S.o12, S.o13, S.o14, S.o15, S.o16, S.o17, S.o18, S.o19, S.o20, S.o21, S.o23, S.o24, S.o25, S.o29, S.o30, oN_v, oC_v, oB_v, oB2_v, oB3_v, oB4_v, oK3_v, oK4_v, oL_v, o31, o0, if_true, if_false, and_false, false_and, and_true, true_and, and_self, decide_true, decide_false, reduceCtorEq, not_false_eq_true, not_true_eq_false, Nat.reduceEqDiff, Nat.reduceAdd, Nat.reduceMul, Nat.add_zero, Nat.zero_add, T.n1, T.n2, d1, d2, nI_1, oC_t (ix_n (show G.nt < 100 by omega) (by omega)), nI_clamp (show G.nt < 2147483648 by omega), oC_t (ix_n (show G.nt < mlen 74 by show _ < 100; omega) (by decide)), oC_t (ix_n (show G.nt < mlen 75 by show _ < 100; omega) (by decide)), oC_t (ix_n (show G.nt < mlen 76 by show _ < 100; omega) (by decide)), oC_t (ix_n (show G.nt < mlen 77 by show _ < 100; omega) (by decide)), oC_t (ix_n (show G.nt < mlen 78 by show _ < 100; omega) (by decide))]
  have e5 : nI (G.nt + 1) - 1 = nI G.nt := nI_pred G.nt
  simp only [e5]
  have lz : ∀ x, x < hZ h → x ≠ hZ h := fun x hx => by omega
  have A : ∀ P : Nat → Prop, ¬ P (hZ h) → ¬ P 0 → Ag P h (sI (sC (sI (sI (sI (sI (sI (nO h 10) 1152 (hZ h) (nI p)) 1153 (hZ h) f) 1154 (hZ h) t) 1155 (hZ h) (nI wn)) 1156 (hZ h) (nI d)) 31 G.nt (some (hZ h))) 1413 0 (nI (G.nt + 1))) := fun P h1 h2 => (((((((Ag.refl h).nO h1).sI h1).sI h1).sI h1).sI h1).sI h1).sC.sI h2
  have M : ∀ P : Nat → Prop, (∀ k, P k → k < 73 ∨ 78 < k) → MAg P u (mSI (mSA (mSA (mSA (mSA (mSA u 74 G.nt (nI d)) 75 G.nt (nI p)) 76 G.nt f) 77 G.nt t) 78 G.nt (nI wn)) 73 (nI (G.nt + 1))) := fun P h1 => ((((((MAg.refl u).sA (fun q => by have := h1 _ q; omega)).sA (fun q => by have := h1 _ q; omega)).sA (fun q => by have := h1 _ q; omega)).sA (fun q => by have := h1 _ q; omega)).sA (fun q => by have := h1 _ q; omega)).sI (fun q => by have := h1 _ q; omega)
  have hT' : ∀ a, a < hZ h → hT (sI (sC (sI (sI (sI (sI (sI (nO h 10) 1152 (hZ h) (nI p)) 1153 (hZ h) f) 1154 (hZ h) t) 1155 (hZ h) (nI wn)) 1156 (hZ h) (nI d)) 31 G.nt (some (hZ h))) 1413 0 (nI (G.nt + 1))) a = hT h a := fun a ha => by simp only [z_hI_sI, z_hL_sI, z_hR_sI, z_hA_sI, z_hB_sI, z_hC_sI, z_hT_sI, z_hN_sI, z_hZ_sI, z_hI_sL, z_hL_sL, z_hR_sL, z_hA_sL, z_hB_sL, z_hC_sL, z_hT_sL, z_hN_sL, z_hZ_sL, z_hI_sR, z_hL_sR, z_hR_sR, z_hA_sR, z_hB_sR, z_hC_sR, z_hT_sR, z_hN_sR, z_hZ_sR, z_hI_sA, z_hL_sA, z_hR_sA, z_hA_sA, z_hB_sA, z_hC_sA, z_hT_sA, z_hN_sA, z_hZ_sA, z_hI_sB, z_hL_sB, z_hR_sB, z_hA_sB, z_hB_sB, z_hC_sB, z_hT_sB, z_hN_sB, z_hZ_sB, z_hI_sC, z_hL_sC, z_hR_sC, z_hA_sC, z_hB_sC, z_hC_sC, z_hT_sC, z_hN_sC, z_hZ_sC, z_hI_sY, z_hL_sY, z_hR_sY, z_hA_sY, z_hB_sY, z_hC_sY, z_hT_sY, z_hN_sY, z_hZ_sY, z_hI_nO, z_hL_nO, z_hR_nO, z_hA_nO, z_hB_nO, z_hC_nO, z_hT_nO, z_hN_nO, z_hZ_nO, z_hI_nA, z_hL_nA, z_hR_nA, z_hA_nA, z_hB_nA, z_hC_nA, z_hT_nA, z_hN_nA, z_hZ_nA, if_neg (lz a ha)]
  refine ⟨_, _, 1, 5, _, rfl, rfl, G.wT (upO G.te G.nt (hZ h)) (G.nt + 1) (upO G.ow (hZ h) (400001 + G.nt)), z, ?_, ?_⟩
  · have ho : ∀ a, a < hZ h → upO G.ow (hZ h) (400001 + G.nt) a = G.ow a := fun a ha => upO_n (lz a ha)
    have hR' : ∀ f' a, a < hZ h → hR (sI (sC (sI (sI (sI (sI (sI (nO h 10) 1152 (hZ h) (nI p)) 1153 (hZ h) f) 1154 (hZ h) t) 1155 (hZ h) (nI wn)) 1156 (hZ h) (nI d)) 31 G.nt (some (hZ h))) 1413 0 (nI (G.nt + 1))) f' a = hR h f' a := fun f' a ha => by simp only [z_hI_sI, z_hL_sI, z_hR_sI, z_hA_sI, z_hB_sI, z_hC_sI, z_hT_sI, z_hN_sI, z_hZ_sI, z_hI_sL, z_hL_sL, z_hR_sL, z_hA_sL, z_hB_sL, z_hC_sL, z_hT_sL, z_hN_sL, z_hZ_sL, z_hI_sR, z_hL_sR, z_hR_sR, z_hA_sR, z_hB_sR, z_hC_sR, z_hT_sR, z_hN_sR, z_hZ_sR, z_hI_sA, z_hL_sA, z_hR_sA, z_hA_sA, z_hB_sA, z_hC_sA, z_hT_sA, z_hN_sA, z_hZ_sA, z_hI_sB, z_hL_sB, z_hR_sB, z_hA_sB, z_hB_sB, z_hC_sB, z_hT_sB, z_hN_sB, z_hZ_sB, z_hI_sC, z_hL_sC, z_hR_sC, z_hA_sC, z_hB_sC, z_hC_sC, z_hT_sC, z_hN_sC, z_hZ_sC, z_hI_sY, z_hL_sY, z_hR_sY, z_hA_sY, z_hB_sY, z_hC_sY, z_hT_sY, z_hN_sY, z_hZ_sY, z_hI_nO, z_hL_nO, z_hR_nO, z_hA_nO, z_hB_nO, z_hC_nO, z_hT_nO, z_hN_nO, z_hZ_nO, z_hI_nA, z_hL_nA, z_hR_nA, z_hA_nA, z_hB_nA, z_hC_nA, z_hT_nA, z_hN_nA, z_hZ_nA, if_neg (lz a ha)]
    have hC' : ∀ a i, a ≠ 31 ∨ i ≠ G.nt → hC (sI (sC (sI (sI (sI (sI (sI (nO h 10) 1152 (hZ h) (nI p)) 1153 (hZ h) f) 1154 (hZ h) t) 1155 (hZ h) (nI wn)) 1156 (hZ h) (nI d)) 31 G.nt (some (hZ h))) 1413 0 (nI (G.nt + 1))) a i = hC h a i := fun a i ha => by simp only [z_hI_sI, z_hL_sI, z_hR_sI, z_hA_sI, z_hB_sI, z_hC_sI, z_hT_sI, z_hN_sI, z_hZ_sI, z_hI_sL, z_hL_sL, z_hR_sL, z_hA_sL, z_hB_sL, z_hC_sL, z_hT_sL, z_hN_sL, z_hZ_sL, z_hI_sR, z_hL_sR, z_hR_sR, z_hA_sR, z_hB_sR, z_hC_sR, z_hT_sR, z_hN_sR, z_hZ_sR, z_hI_sA, z_hL_sA, z_hR_sA, z_hA_sA, z_hB_sA, z_hC_sA, z_hT_sA, z_hN_sA, z_hZ_sA, z_hI_sB, z_hL_sB, z_hR_sB, z_hA_sB, z_hB_sB, z_hC_sB, z_hT_sB, z_hN_sB, z_hZ_sB, z_hI_sC, z_hL_sC, z_hR_sC, z_hA_sC, z_hB_sC, z_hC_sC, z_hT_sC, z_hN_sC, z_hZ_sC, z_hI_sY, z_hL_sY, z_hR_sY, z_hA_sY, z_hB_sY, z_hC_sY, z_hT_sY, z_hN_sY, z_hZ_sY, z_hI_nO, z_hL_nO, z_hR_nO, z_hA_nO, z_hB_nO, z_hC_nO, z_hT_nO, z_hN_nO, z_hZ_nO, z_hI_nA, z_hL_nA, z_hR_nA, z_hA_nA, z_hB_nA, z_hC_nA, z_hT_nA, z_hN_nA, z_hZ_nA]; rw [if_neg (by omega)]
    have lt1 : G.tk < hZ h := S.lt S.ttk (by omega)
    have lt2 : G.wk < hZ h := S.lt S.twk (by omega)
    exact Iv.mk
      (sx_ := SX'.mk
        (ss_ := SS'.step S.ss hT' (fun _ _ => rfl) ho (fun f' a ha _ => hR' f' a ha) (by simp only [z_hI_sI, z_hL_sI, z_hR_sI, z_hA_sI, z_hB_sI, z_hC_sI, z_hT_sI, z_hN_sI, z_hZ_sI, z_hI_sL, z_hL_sL, z_hR_sL, z_hA_sL, z_hB_sL, z_hC_sL, z_hT_sL, z_hN_sL, z_hZ_sL, z_hI_sR, z_hL_sR, z_hR_sR, z_hA_sR, z_hB_sR, z_hC_sR, z_hT_sR, z_hN_sR, z_hZ_sR, z_hI_sA, z_hL_sA, z_hR_sA, z_hA_sA, z_hB_sA, z_hC_sA, z_hT_sA, z_hN_sA, z_hZ_sA, z_hI_sB, z_hL_sB, z_hR_sB, z_hA_sB, z_hB_sB, z_hC_sB, z_hT_sB, z_hN_sB, z_hZ_sB, z_hI_sC, z_hL_sC, z_hR_sC, z_hA_sC, z_hB_sC, z_hC_sC, z_hT_sC, z_hN_sC, z_hZ_sC, z_hI_sY, z_hL_sY, z_hR_sY, z_hA_sY, z_hB_sY, z_hC_sY, z_hT_sY, z_hN_sY, z_hZ_sY, z_hI_nO, z_hL_nO, z_hR_nO, z_hA_nO, z_hB_nO, z_hC_nO, z_hT_nO, z_hN_nO, z_hZ_nO, z_hI_nA, z_hL_nA, z_hR_nA, z_hA_nA, z_hB_nA, z_hC_nA, z_hT_nA, z_hN_nA, z_hZ_nA]; omega) (fun i hi => by simp only [z_hI_sI, z_hL_sI, z_hR_sI, z_hA_sI, z_hB_sI, z_hC_sI, z_hT_sI, z_hN_sI, z_hZ_sI, z_hI_sL, z_hL_sL, z_hR_sL, z_hA_sL, z_hB_sL, z_hC_sL, z_hT_sL, z_hN_sL, z_hZ_sL, z_hI_sR, z_hL_sR, z_hR_sR, z_hA_sR, z_hB_sR, z_hC_sR, z_hT_sR, z_hN_sR, z_hZ_sR, z_hI_sA, z_hL_sA, z_hR_sA, z_hA_sA, z_hB_sA, z_hC_sA, z_hT_sA, z_hN_sA, z_hZ_sA, z_hI_sB, z_hL_sB, z_hR_sB, z_hA_sB, z_hB_sB, z_hC_sB, z_hT_sB, z_hN_sB, z_hZ_sB, z_hI_sC, z_hL_sC, z_hR_sC, z_hA_sC, z_hB_sC, z_hC_sC, z_hT_sC, z_hN_sC, z_hZ_sC, z_hI_sY, z_hL_sY, z_hR_sY, z_hA_sY, z_hB_sY, z_hC_sY, z_hT_sY, z_hN_sY, z_hZ_sY, z_hI_nO, z_hL_nO, z_hR_nO, z_hA_nO, z_hB_nO, z_hC_nO, z_hT_nO, z_hN_nO, z_hZ_nO, z_hI_nA, z_hL_nA, z_hR_nA, z_hA_nA, z_hB_nA, z_hC_nA, z_hT_nA, z_hN_nA, z_hZ_nA] at hi ⊢; rw [if_neg (by omega), S.fr i (by omega)]))
        (ru_ := RU'.step S.ru S.fr zz hT' (fun _ _ => rfl) ho (fun f' a ha _ => hR' f' a ha) (fun a i ha hq => hC' a i (.inl (by intro e; subst e; rw [S.t31] at hq; omega))))
        (te_ := by
          have E := SX'.te (G := G) S
          apply TE'.mk
          · show G.nt + 1 ≤ 100; omega
          · intro r hr
            by_cases er : r = G.nt
            · subst er
              simp only [z_hI_sI, z_hL_sI, z_hR_sI, z_hA_sI, z_hB_sI, z_hC_sI, z_hT_sI, z_hN_sI, z_hZ_sI, z_hI_sL, z_hL_sL, z_hR_sL, z_hA_sL, z_hB_sL, z_hC_sL, z_hT_sL, z_hN_sL, z_hZ_sL, z_hI_sR, z_hL_sR, z_hR_sR, z_hA_sR, z_hB_sR, z_hC_sR, z_hT_sR, z_hN_sR, z_hZ_sR, z_hI_sA, z_hL_sA, z_hR_sA, z_hA_sA, z_hB_sA, z_hC_sA, z_hT_sA, z_hN_sA, z_hZ_sA, z_hI_sB, z_hL_sB, z_hR_sB, z_hA_sB, z_hB_sB, z_hC_sB, z_hT_sB, z_hN_sB, z_hZ_sB, z_hI_sC, z_hL_sC, z_hR_sC, z_hA_sC, z_hB_sC, z_hC_sC, z_hT_sC, z_hN_sC, z_hZ_sC, z_hI_sY, z_hL_sY, z_hR_sY, z_hA_sY, z_hB_sY, z_hC_sY, z_hT_sY, z_hN_sY, z_hZ_sY, z_hI_nO, z_hL_nO, z_hR_nO, z_hA_nO, z_hB_nO, z_hC_nO, z_hT_nO, z_hN_nO, z_hZ_nO, z_hI_nA, z_hL_nA, z_hR_nA, z_hA_nA, z_hB_nA, z_hC_nA, z_hT_nA, z_hN_nA, z_hZ_nA, if_true, if_false, and_false, false_and, and_true, true_and, and_self, decide_true, decide_false, reduceCtorEq, not_false_eq_true, not_true_eq_false, Nat.reduceEqDiff, Nat.reduceAdd, Nat.reduceMul, Nat.add_zero, Nat.zero_add, wT_tk, wK_tk, wT_wk, wK_wk, wT_kd, wK_kd, wT_st, wK_st, wT_vl, wK_vl, wT_pg, wK_pg, wT_rl, wK_rl, wT_ca, wK_ca, wT_hd, wK_hd, wT_cd, wK_cd, wT_nr, wK_nr, wT_nc, wK_nc, wT_te, wK_te, wT_nt, wK_nt, wT_jj, wK_jj, wT_jd, wK_jd, wT_ow, wK_ow, upO_s]
            · rw [hC' 31 r (.inr er)]
              show hC h 31 r = some (upO G.te G.nt (hZ h) r)
              rw [upO_n er]
              exact E.teC r (by have : r < G.nt + 1 := hr; omega)
          · intro r hr
            show hT _ (upO G.te G.nt (hZ h) r) = 10
            by_cases er : r = G.nt
            · subst er
              simp only [z_hI_sI, z_hL_sI, z_hR_sI, z_hA_sI, z_hB_sI, z_hC_sI, z_hT_sI, z_hN_sI, z_hZ_sI, z_hI_sL, z_hL_sL, z_hR_sL, z_hA_sL, z_hB_sL, z_hC_sL, z_hT_sL, z_hN_sL, z_hZ_sL, z_hI_sR, z_hL_sR, z_hR_sR, z_hA_sR, z_hB_sR, z_hC_sR, z_hT_sR, z_hN_sR, z_hZ_sR, z_hI_sA, z_hL_sA, z_hR_sA, z_hA_sA, z_hB_sA, z_hC_sA, z_hT_sA, z_hN_sA, z_hZ_sA, z_hI_sB, z_hL_sB, z_hR_sB, z_hA_sB, z_hB_sB, z_hC_sB, z_hT_sB, z_hN_sB, z_hZ_sB, z_hI_sC, z_hL_sC, z_hR_sC, z_hA_sC, z_hB_sC, z_hC_sC, z_hT_sC, z_hN_sC, z_hZ_sC, z_hI_sY, z_hL_sY, z_hR_sY, z_hA_sY, z_hB_sY, z_hC_sY, z_hT_sY, z_hN_sY, z_hZ_sY, z_hI_nO, z_hL_nO, z_hR_nO, z_hA_nO, z_hB_nO, z_hC_nO, z_hT_nO, z_hN_nO, z_hZ_nO, z_hI_nA, z_hL_nA, z_hR_nA, z_hA_nA, z_hB_nA, z_hC_nA, z_hT_nA, z_hN_nA, z_hZ_nA, if_true, if_false, and_false, false_and, and_true, true_and, and_self, decide_true, decide_false, reduceCtorEq, not_false_eq_true, not_true_eq_false, Nat.reduceEqDiff, Nat.reduceAdd, Nat.reduceMul, Nat.add_zero, Nat.zero_add, wT_tk, wK_tk, wT_wk, wK_wk, wT_kd, wK_kd, wT_st, wK_st, wT_vl, wK_vl, wT_pg, wK_pg, wT_rl, wK_rl, wT_ca, wK_ca, wT_hd, wK_hd, wT_cd, wK_cd, wT_nr, wK_nr, wT_nc, wK_nc, wT_te, wK_te, wT_nt, wK_nt, wT_jj, wK_jj, wT_jd, wK_jd, wT_ow, wK_ow, upO_s]
            · rw [upO_n er, hT' _ (S.lt (E.teT r (by have : r < G.nt + 1 := hr; omega)) (by omega))]
              exact E.teT r (by have : r < G.nt + 1 := hr; omega)
          · intro r hr
            show upO G.ow (hZ h) (400001 + G.nt) (upO G.te G.nt (hZ h) r) = 400001 + r
            by_cases er : r = G.nt
            · subst er
              rw [upO_s, upO_s]
            · have lt := S.lt (E.teT r (by have : r < G.nt + 1 := hr; omega)) (by omega)
              rw [upO_n er, ho _ lt]
              exact E.teo r (by have : r < G.nt + 1 := hr; omega))
        (ju_ := JU'.step S.ju S.fr hT' (fun _ _ => rfl) ho (fun f' a ha _ => hR' f' a ha) (hR' _ _ (by omega)) (fun f' _ a ha => hR' f' a ha) (fun a i ha hq => hC' a i (.inl (by intro e; subst e; rw [S.t31] at hq; omega))))
        (tk_ := P6.step (SX'.tk (G := G) S) (by omega) S.fr hT' ho (hR' _ _ (by omega)))
        (wk_ := P6.step (SX'.wk (G := G) S) (by omega) S.fr hT' ho (hR' _ _ (by omega)))
        (kd_ := P6.step (SX'.kd (G := G) S) (by omega) S.fr hT' ho (hR' _ _ (by omega)))
        (st_ := P6.step (SX'.st (G := G) S) (by omega) S.fr hT' ho (hR' _ _ (by omega)))
        (vl_ := P6.step (SX'.vl (G := G) S) (by omega) S.fr hT' ho (hR' _ _ (by omega)))
        (pg_ := P6.step (SX'.pg (G := G) S) (by omega) S.fr hT' ho (hR' _ _ (by omega))))
      (zo_ := I.zo)
      (zc_ := by
        have := I.zc
        unfold SzC at *
        simp only [z_hI_sI, z_hL_sI, z_hR_sI, z_hA_sI, z_hB_sI, z_hC_sI, z_hT_sI, z_hN_sI, z_hZ_sI, z_hI_sL, z_hL_sL, z_hR_sL, z_hA_sL, z_hB_sL, z_hC_sL, z_hT_sL, z_hN_sL, z_hZ_sL, z_hI_sR, z_hL_sR, z_hR_sR, z_hA_sR, z_hB_sR, z_hC_sR, z_hT_sR, z_hN_sR, z_hZ_sR, z_hI_sA, z_hL_sA, z_hR_sA, z_hA_sA, z_hB_sA, z_hC_sA, z_hT_sA, z_hN_sA, z_hZ_sA, z_hI_sB, z_hL_sB, z_hR_sB, z_hA_sB, z_hB_sB, z_hC_sB, z_hT_sB, z_hN_sB, z_hZ_sB, z_hI_sC, z_hL_sC, z_hR_sC, z_hA_sC, z_hB_sC, z_hC_sC, z_hT_sC, z_hN_sC, z_hZ_sC, z_hI_sY, z_hL_sY, z_hR_sY, z_hA_sY, z_hB_sY, z_hC_sY, z_hT_sY, z_hN_sY, z_hZ_sY, z_hI_nO, z_hL_nO, z_hR_nO, z_hA_nO, z_hB_nO, z_hC_nO, z_hT_nO, z_hN_nO, z_hZ_nO, z_hI_nA, z_hL_nA, z_hR_nA, z_hA_nA, z_hB_nA, z_hC_nA, z_hT_nA, z_hN_nA, z_hZ_nA, if_true, if_false, and_false, false_and, and_true, true_and, and_self, decide_true, decide_false, reduceCtorEq, not_false_eq_true, not_true_eq_false, Nat.reduceEqDiff, Nat.reduceAdd, Nat.reduceMul, Nat.add_zero, Nat.zero_add, nz 5 (by omega), nz 6 (by omega), nz 8 (by omega), nz 10 (by omega), nz 12 (by omega), nz 14 (by omega)]
        exact this)
      (zk_ := by
        have := I.zk
        unfold SzK at *
        simp only [z_hI_sI, z_hL_sI, z_hR_sI, z_hA_sI, z_hB_sI, z_hC_sI, z_hT_sI, z_hN_sI, z_hZ_sI, z_hI_sL, z_hL_sL, z_hR_sL, z_hA_sL, z_hB_sL, z_hC_sL, z_hT_sL, z_hN_sL, z_hZ_sL, z_hI_sR, z_hL_sR, z_hR_sR, z_hA_sR, z_hB_sR, z_hC_sR, z_hT_sR, z_hN_sR, z_hZ_sR, z_hI_sA, z_hL_sA, z_hR_sA, z_hA_sA, z_hB_sA, z_hC_sA, z_hT_sA, z_hN_sA, z_hZ_sA, z_hI_sB, z_hL_sB, z_hR_sB, z_hA_sB, z_hB_sB, z_hC_sB, z_hT_sB, z_hN_sB, z_hZ_sB, z_hI_sC, z_hL_sC, z_hR_sC, z_hA_sC, z_hB_sC, z_hC_sC, z_hT_sC, z_hN_sC, z_hZ_sC, z_hI_sY, z_hL_sY, z_hR_sY, z_hA_sY, z_hB_sY, z_hC_sY, z_hT_sY, z_hN_sY, z_hZ_sY, z_hI_nO, z_hL_nO, z_hR_nO, z_hA_nO, z_hB_nO, z_hC_nO, z_hT_nO, z_hN_nO, z_hZ_nO, z_hI_nA, z_hL_nA, z_hR_nA, z_hA_nA, z_hB_nA, z_hC_nA, z_hT_nA, z_hN_nA, z_hZ_nA, if_true, if_false, and_false, false_and, and_true, true_and, and_self, decide_true, decide_false, reduceCtorEq, not_false_eq_true, not_true_eq_false, Nat.reduceEqDiff, Nat.reduceAdd, Nat.reduceMul, Nat.add_zero, Nat.zero_add, nz 5 (by omega), nz 6 (by omega), nz 8 (by omega), nz 10 (by omega), nz 12 (by omega), nz 14 (by omega)]
        exact this)
      (zm_ := I.zm)
      (kr_ := KR.cg (G := G) rfl rfl rfl rfl rfl rfl (I.kr.fr S (A _ (gr_z (by omega)) (gr_n S.o0 (by omega))) (M _ (fun k hk => by unfold kS at hk; omega))))
      (rm_ := RmR.cg (G := G) rfl rfl rfl rfl (I.rm.fr (h := h) (u := u) (fun _ => rfl) (fun _ => rfl) (fun _ => rfl)))
      (tp_ := TpR.cg (G := G) rfl (I.tp.fr (h := h) (u := u) rfl (by simp only [z_hI_sI, z_hL_sI, z_hR_sI, z_hA_sI, z_hB_sI, z_hC_sI, z_hT_sI, z_hN_sI, z_hZ_sI, z_hI_sL, z_hL_sL, z_hR_sL, z_hA_sL, z_hB_sL, z_hC_sL, z_hT_sL, z_hN_sL, z_hZ_sL, z_hI_sR, z_hL_sR, z_hR_sR, z_hA_sR, z_hB_sR, z_hC_sR, z_hT_sR, z_hN_sR, z_hZ_sR, z_hI_sA, z_hL_sA, z_hR_sA, z_hA_sA, z_hB_sA, z_hC_sA, z_hT_sA, z_hN_sA, z_hZ_sA, z_hI_sB, z_hL_sB, z_hR_sB, z_hA_sB, z_hB_sB, z_hC_sB, z_hT_sB, z_hN_sB, z_hZ_sB, z_hI_sC, z_hL_sC, z_hR_sC, z_hA_sC, z_hB_sC, z_hC_sC, z_hT_sC, z_hN_sC, z_hZ_sC, z_hI_sY, z_hL_sY, z_hR_sY, z_hA_sY, z_hB_sY, z_hC_sY, z_hT_sY, z_hN_sY, z_hZ_sY, z_hI_nO, z_hL_nO, z_hR_nO, z_hA_nO, z_hB_nO, z_hC_nO, z_hT_nO, z_hN_nO, z_hZ_nO, z_hI_nA, z_hL_nA, z_hR_nA, z_hA_nA, z_hB_nA, z_hC_nA, z_hT_nA, z_hN_nA, z_hZ_nA, if_true, if_false, and_false, false_and, and_true, true_and, and_self, decide_true, decide_false, reduceCtorEq, not_false_eq_true, not_true_eq_false, Nat.reduceEqDiff, Nat.reduceAdd, Nat.reduceMul, Nat.add_zero, Nat.zero_add, nz 1 (by omega)]) (fun i => rfl) rfl (fun i => rfl)))
      (ou_ := OuR.cg (G := G) rfl (I.ou.fr (h := h) (u := u) rfl (by simp only [z_hI_sI, z_hL_sI, z_hR_sI, z_hA_sI, z_hB_sI, z_hC_sI, z_hT_sI, z_hN_sI, z_hZ_sI, z_hI_sL, z_hL_sL, z_hR_sL, z_hA_sL, z_hB_sL, z_hC_sL, z_hT_sL, z_hN_sL, z_hZ_sL, z_hI_sR, z_hL_sR, z_hR_sR, z_hA_sR, z_hB_sR, z_hC_sR, z_hT_sR, z_hN_sR, z_hZ_sR, z_hI_sA, z_hL_sA, z_hR_sA, z_hA_sA, z_hB_sA, z_hC_sA, z_hT_sA, z_hN_sA, z_hZ_sA, z_hI_sB, z_hL_sB, z_hR_sB, z_hA_sB, z_hB_sB, z_hC_sB, z_hT_sB, z_hN_sB, z_hZ_sB, z_hI_sC, z_hL_sC, z_hR_sC, z_hA_sC, z_hB_sC, z_hC_sC, z_hT_sC, z_hN_sC, z_hZ_sC, z_hI_sY, z_hL_sY, z_hR_sY, z_hA_sY, z_hB_sY, z_hC_sY, z_hT_sY, z_hN_sY, z_hZ_sY, z_hI_nO, z_hL_nO, z_hR_nO, z_hA_nO, z_hB_nO, z_hC_nO, z_hT_nO, z_hN_nO, z_hZ_nO, z_hI_nA, z_hL_nA, z_hR_nA, z_hA_nA, z_hB_nA, z_hC_nA, z_hT_nA, z_hN_nA, z_hZ_nA, if_true, if_false, and_false, false_and, and_true, true_and, and_self, decide_true, decide_false, reduceCtorEq, not_false_eq_true, not_true_eq_false, Nat.reduceEqDiff, Nat.reduceAdd, Nat.reduceMul, Nat.add_zero, Nat.zero_add, nz 3 (by omega)]) (fun i => rfl) rfl (fun i => rfl)))
      (dy_ := ⟨d, hd, by simp only [z_hI_sI, z_hL_sI, z_hR_sI, z_hA_sI, z_hB_sI, z_hC_sI, z_hT_sI, z_hN_sI, z_hZ_sI, z_hI_sL, z_hL_sL, z_hR_sL, z_hA_sL, z_hB_sL, z_hC_sL, z_hT_sL, z_hN_sL, z_hZ_sL, z_hI_sR, z_hL_sR, z_hR_sR, z_hA_sR, z_hB_sR, z_hC_sR, z_hT_sR, z_hN_sR, z_hZ_sR, z_hI_sA, z_hL_sA, z_hR_sA, z_hA_sA, z_hB_sA, z_hC_sA, z_hT_sA, z_hN_sA, z_hZ_sA, z_hI_sB, z_hL_sB, z_hR_sB, z_hA_sB, z_hB_sB, z_hC_sB, z_hT_sB, z_hN_sB, z_hZ_sB, z_hI_sC, z_hL_sC, z_hR_sC, z_hA_sC, z_hB_sC, z_hC_sC, z_hT_sC, z_hN_sC, z_hZ_sC, z_hI_sY, z_hL_sY, z_hR_sY, z_hA_sY, z_hB_sY, z_hC_sY, z_hT_sY, z_hN_sY, z_hZ_sY, z_hI_nO, z_hL_nO, z_hR_nO, z_hA_nO, z_hB_nO, z_hC_nO, z_hT_nO, z_hN_nO, z_hZ_nO, z_hI_nA, z_hL_nA, z_hR_nA, z_hA_nA, z_hB_nA, z_hC_nA, z_hT_nA, z_hN_nA, z_hZ_nA, if_true, if_false, and_false, false_and, and_true, true_and, and_self, decide_true, decide_false, reduceCtorEq, not_false_eq_true, not_true_eq_false, Nat.reduceEqDiff, Nat.reduceAdd, Nat.reduceMul, Nat.add_zero, Nat.zero_add, nz 0 (by omega)]; exact d1, d2⟩)
      (nu_ := I.nu)
      (te_ := by
        apply TeR.mk
        · simp only [z_hI_sI, z_hL_sI, z_hR_sI, z_hA_sI, z_hB_sI, z_hC_sI, z_hT_sI, z_hN_sI, z_hZ_sI, z_hI_sL, z_hL_sL, z_hR_sL, z_hA_sL, z_hB_sL, z_hC_sL, z_hT_sL, z_hN_sL, z_hZ_sL, z_hI_sR, z_hL_sR, z_hR_sR, z_hA_sR, z_hB_sR, z_hC_sR, z_hT_sR, z_hN_sR, z_hZ_sR, z_hI_sA, z_hL_sA, z_hR_sA, z_hA_sA, z_hB_sA, z_hC_sA, z_hT_sA, z_hN_sA, z_hZ_sA, z_hI_sB, z_hL_sB, z_hR_sB, z_hA_sB, z_hB_sB, z_hC_sB, z_hT_sB, z_hN_sB, z_hZ_sB, z_hI_sC, z_hL_sC, z_hR_sC, z_hA_sC, z_hB_sC, z_hC_sC, z_hT_sC, z_hN_sC, z_hZ_sC, z_hI_sY, z_hL_sY, z_hR_sY, z_hA_sY, z_hB_sY, z_hC_sY, z_hT_sY, z_hN_sY, z_hZ_sY, z_hI_nO, z_hL_nO, z_hR_nO, z_hA_nO, z_hB_nO, z_hC_nO, z_hT_nO, z_hN_nO, z_hZ_nO, z_hI_nA, z_hL_nA, z_hR_nA, z_hA_nA, z_hB_nA, z_hC_nA, z_hT_nA, z_hN_nA, z_hZ_nA, if_true, if_false, and_false, false_and, and_true, true_and, and_self, decide_true, decide_false, reduceCtorEq, not_false_eq_true, not_true_eq_false, Nat.reduceEqDiff, Nat.reduceAdd, Nat.reduceMul, Nat.add_zero, Nat.zero_add, wT_tk, wK_tk, wT_wk, wK_wk, wT_kd, wK_kd, wT_st, wK_st, wT_vl, wK_vl, wT_pg, wK_pg, wT_rl, wK_rl, wT_ca, wK_ca, wT_hd, wK_hd, wT_cd, wK_cd, wT_nr, wK_nr, wT_nc, wK_nc, wT_te, wK_te, wT_nt, wK_nt, wT_jj, wK_jj, wT_jd, wK_jd, wT_ow, wK_ow]
        · simp only [z_mI_mSI, z_mL_mSI, z_mA_mSI, z_mB_mSI, z_mI_mSL, z_mL_mSL, z_mA_mSL, z_mB_mSL, z_mI_mSA, z_mL_mSA, z_mA_mSA, z_mB_mSA, z_mI_mSB, z_mL_mSB, z_mA_mSB, z_mB_mSB, if_true, if_false, and_false, false_and, and_true, true_and, and_self, decide_true, decide_false, reduceCtorEq, not_false_eq_true, not_true_eq_false, Nat.reduceEqDiff, Nat.reduceAdd, Nat.reduceMul, Nat.add_zero, Nat.zero_add, wT_tk, wK_tk, wT_wk, wK_wk, wT_kd, wK_kd, wT_st, wK_st, wT_vl, wK_vl, wT_pg, wK_pg, wT_rl, wK_rl, wT_ca, wK_ca, wT_hd, wK_hd, wT_cd, wK_cd, wT_nr, wK_nr, wT_nc, wK_nc, wT_te, wK_te, wT_nt, wK_nt, wT_jj, wK_jj, wT_jd, wK_jd, wT_ow, wK_ow]
        · intro r hr
          by_cases er : r = G.nt
          · subst er
            refine ⟨p, wn, hp, hl, hw9, ?_⟩
            simp only [wT_tk, wK_tk, wT_wk, wK_wk, wT_kd, wK_kd, wT_st, wK_st, wT_vl, wK_vl, wT_pg, wK_pg, wT_rl, wK_rl, wT_ca, wK_ca, wT_hd, wK_hd, wT_cd, wK_cd, wT_nr, wK_nr, wT_nc, wK_nc, wT_te, wK_te, wT_nt, wK_nt, wT_jj, wK_jj, wT_jd, wK_jd, wT_ow, wK_ow, upO_s, z_hI_sI, z_hL_sI, z_hR_sI, z_hA_sI, z_hB_sI, z_hC_sI, z_hT_sI, z_hN_sI, z_hZ_sI, z_hI_sL, z_hL_sL, z_hR_sL, z_hA_sL, z_hB_sL, z_hC_sL, z_hT_sL, z_hN_sL, z_hZ_sL, z_hI_sR, z_hL_sR, z_hR_sR, z_hA_sR, z_hB_sR, z_hC_sR, z_hT_sR, z_hN_sR, z_hZ_sR, z_hI_sA, z_hL_sA, z_hR_sA, z_hA_sA, z_hB_sA, z_hC_sA, z_hT_sA, z_hN_sA, z_hZ_sA, z_hI_sB, z_hL_sB, z_hR_sB, z_hA_sB, z_hB_sB, z_hC_sB, z_hT_sB, z_hN_sB, z_hZ_sB, z_hI_sC, z_hL_sC, z_hR_sC, z_hA_sC, z_hB_sC, z_hC_sC, z_hT_sC, z_hN_sC, z_hZ_sC, z_hI_sY, z_hL_sY, z_hR_sY, z_hA_sY, z_hB_sY, z_hC_sY, z_hT_sY, z_hN_sY, z_hZ_sY, z_hI_nO, z_hL_nO, z_hR_nO, z_hA_nO, z_hB_nO, z_hC_nO, z_hT_nO, z_hN_nO, z_hZ_nO, z_hI_nA, z_hL_nA, z_hR_nA, z_hA_nA, z_hB_nA, z_hC_nA, z_hT_nA, z_hN_nA, z_hZ_nA, z_mI_mSI, z_mL_mSI, z_mA_mSI, z_mB_mSI, z_mI_mSL, z_mL_mSL, z_mA_mSL, z_mB_mSL, z_mI_mSA, z_mL_mSA, z_mA_mSA, z_mB_mSA, z_mI_mSB, z_mL_mSB, z_mA_mSB, z_mB_mSB, if_true, if_false, and_false, false_and, and_true, true_and, and_self, decide_true, decide_false, reduceCtorEq, not_false_eq_true, not_true_eq_false, Nat.reduceEqDiff, Nat.reduceAdd, Nat.reduceMul, Nat.add_zero, Nat.zero_add, nz 0 (by omega)]
          · obtain ⟨p', w', g1, g2, g3⟩ := T.te r (by have : r < G.nt + 1 := hr; omega)
            have l1 : ¬ G.te r = hZ h := lz _ (S.lt (S.teT r (by have : r < G.nt + 1 := hr; omega)) (by omega))
            have l2 : ¬ G.te r = 0 := ne_ow (S.teo r (by have : r < G.nt + 1 := hr; omega)) S.o0 (by omega)
            refine ⟨p', w', g1, g2, ?_⟩
            simp only [wT_tk, wK_tk, wT_wk, wK_wk, wT_kd, wK_kd, wT_st, wK_st, wT_vl, wK_vl, wT_pg, wK_pg, wT_rl, wK_rl, wT_ca, wK_ca, wT_hd, wK_hd, wT_cd, wK_cd, wT_nr, wK_nr, wT_nc, wK_nc, wT_te, wK_te, wT_nt, wK_nt, wT_jj, wK_jj, wT_jd, wK_jd, wT_ow, wK_ow, upO_n er, z_hI_sI, z_hL_sI, z_hR_sI, z_hA_sI, z_hB_sI, z_hC_sI, z_hT_sI, z_hN_sI, z_hZ_sI, z_hI_sL, z_hL_sL, z_hR_sL, z_hA_sL, z_hB_sL, z_hC_sL, z_hT_sL, z_hN_sL, z_hZ_sL, z_hI_sR, z_hL_sR, z_hR_sR, z_hA_sR, z_hB_sR, z_hC_sR, z_hT_sR, z_hN_sR, z_hZ_sR, z_hI_sA, z_hL_sA, z_hR_sA, z_hA_sA, z_hB_sA, z_hC_sA, z_hT_sA, z_hN_sA, z_hZ_sA, z_hI_sB, z_hL_sB, z_hR_sB, z_hA_sB, z_hB_sB, z_hC_sB, z_hT_sB, z_hN_sB, z_hZ_sB, z_hI_sC, z_hL_sC, z_hR_sC, z_hA_sC, z_hB_sC, z_hC_sC, z_hT_sC, z_hN_sC, z_hZ_sC, z_hI_sY, z_hL_sY, z_hR_sY, z_hA_sY, z_hB_sY, z_hC_sY, z_hT_sY, z_hN_sY, z_hZ_sY, z_hI_nO, z_hL_nO, z_hR_nO, z_hA_nO, z_hB_nO, z_hC_nO, z_hT_nO, z_hN_nO, z_hZ_nO, z_hI_nA, z_hL_nA, z_hR_nA, z_hA_nA, z_hB_nA, z_hC_nA, z_hT_nA, z_hN_nA, z_hZ_nA, z_mI_mSI, z_mL_mSI, z_mA_mSI, z_mB_mSI, z_mI_mSL, z_mL_mSL, z_mA_mSL, z_mB_mSL, z_mI_mSA, z_mL_mSA, z_mA_mSA, z_mB_mSA, z_mI_mSB, z_mL_mSB, z_mA_mSB, z_mB_mSB, if_true, if_false, and_false, false_and, and_true, true_and, and_self, decide_true, decide_false, reduceCtorEq, not_false_eq_true, not_true_eq_false, Nat.reduceEqDiff, Nat.reduceAdd, Nat.reduceMul, Nat.add_zero, Nat.zero_add, l1, l2, er]
            exact g3)
      (pl_ := by simp only [z_hI_sI, z_hL_sI, z_hR_sI, z_hA_sI, z_hB_sI, z_hC_sI, z_hT_sI, z_hN_sI, z_hZ_sI, z_hI_sL, z_hL_sL, z_hR_sL, z_hA_sL, z_hB_sL, z_hC_sL, z_hT_sL, z_hN_sL, z_hZ_sL, z_hI_sR, z_hL_sR, z_hR_sR, z_hA_sR, z_hB_sR, z_hC_sR, z_hT_sR, z_hN_sR, z_hZ_sR, z_hI_sA, z_hL_sA, z_hR_sA, z_hA_sA, z_hB_sA, z_hC_sA, z_hT_sA, z_hN_sA, z_hZ_sA, z_hI_sB, z_hL_sB, z_hR_sB, z_hA_sB, z_hB_sB, z_hC_sB, z_hT_sB, z_hN_sB, z_hZ_sB, z_hI_sC, z_hL_sC, z_hR_sC, z_hA_sC, z_hB_sC, z_hC_sC, z_hT_sC, z_hN_sC, z_hZ_sC, z_hI_sY, z_hL_sY, z_hR_sY, z_hA_sY, z_hB_sY, z_hC_sY, z_hT_sY, z_hN_sY, z_hZ_sY, z_hI_nO, z_hL_nO, z_hR_nO, z_hA_nO, z_hB_nO, z_hC_nO, z_hT_nO, z_hN_nO, z_hZ_nO, z_hI_nA, z_hL_nA, z_hR_nA, z_hA_nA, z_hB_nA, z_hC_nA, z_hT_nA, z_hN_nA, z_hZ_nA, if_true, if_false, and_false, false_and, and_true, true_and, and_self, decide_true, decide_false, reduceCtorEq, not_false_eq_true, not_true_eq_false, Nat.reduceEqDiff, Nat.reduceAdd, Nat.reduceMul, Nat.add_zero, Nat.zero_add, nz 0 (by omega)]; exact I.pl)
      (ju_ := IvJ.cg (G := G) rfl rfl (I.ju.fr (h := h) (u := u) S (fun _ => rfl) (A _ (gr_z (by omega)) (gr_n S.o0 (by omega))) (M _ (fun k hk => by unfold jS at hk; omega)) (fun i _ => rfl) (fun i _ => rfl)))
  · obtain ⟨B1, B2⟩ := B
    exact ⟨by show _ ≤ 365000 + pot h G; omega, by show _ ≤ 5000000 + 3 * pot h G; omega⟩
