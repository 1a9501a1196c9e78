-- needs: 63 70 71 72 73 74 75 76 77 78
theorem sp_number : SP_number Inv := by
  intro n c s h u x k v ⟨G, z, I, B⟩
  have S := I.sx
  have z1 := I.zo.1
  simp only [fX11_number, fX11_number_0, fX11_number_32, fX12_number, fX12_number_0, S.t0, S.t1, S.t3, S.t5, S.t6, S.t8, S.t10, S.t12, S.t14, S.t23, S.t24, S.t7, S.t9, S.t11, S.t13, S.t15, S.t16, S.t17, S.t18, S.t19, S.t20, S.t21, S.t25, S.t29, S.t30, S.t31, S.n7, S.n9, S.n11, S.n13, S.n15, S.n16, S.n17, S.n18, S.n19, S.n20, S.n21, S.n25, S.n29, S.n30, S.n31, S.r1408_0, S.r1409_0, S.r1410_0, S.r1411_0, S.r1412_0, S.r128_5, S.r129_5, S.r130_5, S.r131_5, S.r132_5, S.r133_5, S.r134_5, S.r135_5, S.r136_5, S.r137_5, S.r138_5, S.r512_23, S.r513_23, S.r514_23, S.r515_23, S.r896_6, S.r896_8, S.r896_10, S.r896_12, S.r896_14, S.r1280_24, S.r0_1, S.ttk, S.otk, S.r0_3, S.twk, S.owk, S.r141_5, S.tpg, S.opg, S.r1281_24, S.tkd, S.okd, S.r1282_24, S.tst, S.ost, S.r1283_24, S.tvl, S.ovl, S.o0, S.o1, S.o3, S.o31, S.o5, S.o6, S.o7, S.o8, S.o9, S.o10, S.o11, S.o12, S.o13, S.o14, S.o15, S.o16, S.o17, S.o18, S.o19, S.o20, S.o21, S.o23, S.o24, S.o25, S.o29, S.o30, oN_v, oC_v, oB_v, oB2_v, oB3_v, oB4_v, oK3_v, oK4_v, oL_v, decide_true, I.zc.1, I.zm.1, if_true]
  have no : ∀ {q : Option (PH × Int32)} {q' : Option (MS × Int32)}, q = some (h, 0) → q' = some (u, 0) → ∃ h' r u', q = some (h', r) ∧ q' = some (u', r) ∧ Inv n c s h' u' := fun e1 e2 => ⟨h, 0, u, e1, e2, G, z, I, B.dn⟩
  rcases one_c (x := x) (n := z.np) (by omega) with ⟨e, hx⟩ | ⟨j, hj, hx, e⟩
  · rw [e]
    refine no ?_ (by simp only [oN_v, oC_v, oB_v, oB2_v, oB3_v, oB4_v, oK3_v, oK4_v, oL_v, if_true])
    by_cases h1 : x < 0
    · simp only [if_pos h1]
    · simp only [if_neg h1, if_pos (show nI z.np ≤ x by rcases hx with q | q; exact absurd q h1; exact q)]
  · subst hx
    rw [e]
    simp only [oN_v, oC_v, oB_v, oB2_v, oB3_v, oB4_v, oK3_v, oK4_v, oL_v, if_neg (nI_pos (n := j) (by omega)), if_neg (nI_ge hj (show z.np < 2147483648 by omega)), show ¬ ((1 : Int32) = 0) by decide, if_false]
    by_cases k0 : k < 0
    · simp only [if_pos k0]; exact no rfl rfl
    · simp only [if_neg k0]
      by_cases k3 : 3 < k
      · simp only [if_pos k3, if_pos (show 4 ≤ k by grind)]; exact no rfl rfl
      · simp only [if_neg k3, if_neg (show ¬ 4 ≤ k by grind)]
        by_cases v0 : v < -999999
        · simp only [if_pos v0]; exact no rfl rfl
        · simp only [if_neg v0]
          by_cases v1 : v ≤ 999999
          · simp only [if_pos v1]
            obtain ⟨q, hq, hq2, eq⟩ := nI_of3 (x := k) (d := 0) (m := 3) (by omega) (by omega) k0 (show k ≤ nI 3 from by rw [show nI 3 = (3 : Int32) from rfl]; grind)
            subst eq
            have e1 : nI j * 4 + nI q = nI (4 * j + q) := by
              rw [show (4 : Int32) = nI 4 from rfl, nI_mul, nI_add, Nat.mul_comm]
            have e2 : 4 * nI j + nI q = nI (4 * j + q) := by
              rw [show (4 : Int32) = nI 4 from rfl, nI_mul, nI_add]
            simp only [e1, e2, oC_t (ix_n (show 4 * j + q < 20 by omega) (by omega)), oC_t (ix_n (show 4 * j + q < mlen 26 by show _ < 20; omega) (by decide)), nI_clamp (show 4 * j + q < 2147483648 by omega)]
            refine ⟨_, _, _, rfl, rfl, G, z, ?_, B.dn⟩
            have A : ∀ P : Nat → Prop, ¬ P 17 → Ag P h (sA h 17 (4 * j + q) v) := fun P hP => (Ag.refl h).sA hP
            have M : ∀ P : Nat → Prop, ¬ P 26 → MAg P u (mSA u 26 (4 * j + q) v) := fun P hP => (MAg.refl u).sA hP
            exact Iv.mk
              (sx_ := S)
              (zo_ := I.zo)
              (zc_ := I.zc)
              (zk_ := I.zk)
              (zm_ := I.zm)
              (kr_ := I.kr.fr S (A _ (gr_n S.o17 (by omega))) (M _ (by unfold kS; omega)))
              (rm_ := I.rm.fr (h := h) (u := u) (fun _ => rfl) (fun _ => rfl) (fun _ => rfl))
              (tp_ := I.tp.fr (h := h) (u := u) rfl rfl (fun i => by rw [z_hA_sA, ifn1 (ne_ow S.otk S.o17 (by omega))]) rfl (fun i => by rw [z_mA_mSA, ifn1 (by omega)]))
              (ou_ := I.ou.fr (h := h) (u := u) rfl rfl (fun i => by rw [z_hA_sA, ifn1 (ne_ow S.owk S.o17 (by omega))]) rfl (fun i => by rw [z_mA_mSA, ifn1 (by omega)]))
              (dy_ := I.dy)
              (nu_ := by
                intro i hi
                rw [z_hA_sA, z_mA_mSA]
                by_cases ei : i = 4 * j + q
                · rw [if_pos ⟨rfl, ei⟩, if_pos ⟨rfl, ei⟩]
                  exact ⟨rfl, by grind, v1, by omega⟩
                · rw [ifn2 ei, ifn2 ei]
                  exact I.nu i hi)
              (te_ := I.te.fr S rfl (A _ (gr_n S.o17 (by omega))) (M _ (by unfold tS; omega)) (fun i _ => by rw [z_mA_mSA, ifn1 (by omega)]))
              (pl_ := I.pl)
              (ju_ := I.ju.fr (h := h) (u := u) S (fun _ => rfl) (A _ (gr_n S.o17 (by omega))) (M _ (by unfold jS; omega)) (fun i _ => by rw [z_mA_mSA, ifn1 (by omega)]) (fun i _ => by rw [z_mA_mSA, ifn1 (by omega)]))
          · simp only [if_neg v1]; exact no rfl rfl
theorem sp_back : SP_back Inv := by
  intro n c s h u x ⟨G, z, I, B⟩
  have S := I.sx
  obtain ⟨l, l1, l2, l3, l4, l5⟩ := I.tp.ex
  simp only [fX11_back, fX11_back_0, fX12_back, fX12_back_0, S.t0, S.t1, S.t3, S.t5, S.t6, S.t8, S.t10, S.t12, S.t14, S.t23, S.t24, S.t7, S.t9, S.t11, S.t13, S.t15, S.t16, S.t17, S.t18, S.t19, S.t20, S.t21, S.t25, S.t29, S.t30, S.t31, S.n7, S.n9, S.n11, S.n13, S.n15, S.n16, S.n17, S.n18, S.n19, S.n20, S.n21, S.n25, S.n29, S.n30, S.n31, S.r1408_0, S.r1409_0, S.r1410_0, S.r1411_0, S.r1412_0, S.r128_5, S.r129_5, S.r130_5, S.r131_5, S.r132_5, S.r133_5, S.r134_5, S.r135_5, S.r136_5, S.r137_5, S.r138_5, S.r512_23, S.r513_23, S.r514_23, S.r515_23, S.r896_6, S.r896_8, S.r896_10, S.r896_12, S.r896_14, S.r1280_24, S.r0_1, S.ttk, S.otk, S.r0_3, S.twk, S.owk, S.r141_5, S.tpg, S.opg, S.r1281_24, S.tkd, S.okd, S.r1282_24, S.tst, S.ost, S.r1283_24, S.tvl, S.ovl, S.o0, S.o1, S.o3, S.o31, S.o5, S.o6, S.o7, S.o8, S.o9, S.o10, S.o11, S.o12, S.o13, S.o14, S.o15, S.o16, S.o17, S.o18, S.o19, S.o20, S.o21, S.o23, S.o24, S.o25, S.o29, S.o30, oN_v, oC_v, oB_v, oB2_v, oB3_v, oB4_v, oK3_v, oK4_v, oL_v, decide_true, l3, l4]
  have no : ∀ {q : Option (PH × Int32)} {q' : Option (MS × Int32)}, q = some (h, -1) → q' = some (u, -1) → ∃ h' r u', q = some (h', r) ∧ q' = some (u', r) ∧ Inv n c s h' u' := fun e1 e2 => ⟨h, -1, u, e1, e2, G, z, I, B.dn⟩
  by_cases h1 : x < 0
  · simp only [if_pos h1]; exact no rfl rfl
  · simp only [if_neg h1]
    by_cases h2 : x ≤ nI l
    · obtain ⟨j, hj, hj2, e⟩ := nI_of3 (d := 0) (by omega) (by omega) h1 h2
      subst e
      have e3 : nI l - nI j = nI (l - j) := nI_sub hj2
      simp only [if_pos h2, e3, z_hI_sI, z_hL_sI, z_hR_sI, z_hA_sI, z_hB_sI, z_hC_sI, z_hT_sI, z_hN_sI, z_hZ_sI, z_hI_sL, z_hL_sL, z_hR_sL, z_hA_sL, z_hB_sL, z_hC_sL, z_hT_sL, z_hN_sL, z_hZ_sL, z_hI_sR, z_hL_sR, z_hR_sR, z_hA_sR, z_hB_sR, z_hC_sR, z_hT_sR, z_hN_sR, z_hZ_sR, z_hI_sA, z_hL_sA, z_hR_sA, z_hA_sA, z_hB_sA, z_hC_sA, z_hT_sA, z_hN_sA, z_hZ_sA, z_hI_sB, z_hL_sB, z_hR_sB, z_hA_sB, z_hB_sB, z_hC_sB, z_hT_sB, z_hN_sB, z_hZ_sB, z_hI_sC, z_hL_sC, z_hR_sC, z_hA_sC, z_hB_sC, z_hC_sC, z_hT_sC, z_hN_sC, z_hZ_sC, z_hI_sY, z_hL_sY, z_hR_sY, z_hA_sY, z_hB_sY, z_hC_sY, z_hT_sY, z_hN_sY, z_hZ_sY, z_hI_nO, z_hL_nO, z_hR_nO, z_hA_nO, z_hB_nO, z_hC_nO, z_hT_nO, z_hN_nO, z_hZ_nO, z_hI_nA, z_hL_nA, z_hR_nA, z_hA_nA, z_hB_nA, z_hC_nA, z_hT_nA, z_hN_nA, z_hZ_nA, z_mI_mSI, z_mL_mSI, z_mA_mSI, z_mB_mSI, z_mI_mSL, z_mL_mSL, z_mA_mSL, z_mB_mSL, z_mI_mSA, z_mL_mSA, z_mA_mSA, z_mB_mSA, z_mI_mSB, z_mL_mSB, z_mA_mSB, z_mB_mSB, S.t0, S.t1, S.t3, S.t5, S.t6, S.t8, S.t10, S.t12, S.t14, S.t23, S.t24, S.t7, S.t9, S.t11, S.t13, S.t15, S.t16, S.t17, S.t18, S.t19, S.t20, S.t21, S.t25, S.t29, S.t30, S.t31, S.n7, S.n9, S.n11, S.n13, S.n15, S.n16, S.n17, S.n18, S.n19, S.n20, S.n21, S.n25, S.n29, S.n30, S.n31, S.r1408_0, S.r1409_0, S.r1410_0, S.r1411_0, S.r1412_0, S.r128_5, S.r129_5, S.r130_5, S.r131_5, S.r132_5, S.r133_5, S.r134_5, S.r135_5, S.r136_5, S.r137_5, S.r138_5, S.r512_23, S.r513_23, S.r514_23, S.r515_23, S.r896_6, S.r896_8, S.r896_10, S.r896_12, S.r896_14, S.r1280_24, S.r0_1, S.ttk, S.otk, S.r0_3, S.twk, S.owk, S.r141_5, S.tpg, S.opg, S.r1281_24, S.tkd, S.okd, S.r1282_24, S.tst, S.ost, S.r1283_24, S.tvl, S.ovl, S.o0, S.o1, S.o3, S.o31, S.o5, S.o6, S.o7, S.o8, S.o9, S.o10, S.o11, S.o12, S.o13, S.o14, S.o15, S.o16, S.o17, S.o18, S.o19, S.o20, S.o21, S.o23, S.o24, S.o25, S.o29, S.o30, oN_v, oC_v, oB_v, oB2_v, oB3_v, oB4_v, oK3_v, oK4_v, oL_v, decide_true, and_self, if_true]
      refine ⟨_, _, _, rfl, rfl, G, z, ?_, B.dn⟩
      have A : ∀ P : Nat → Prop, ¬ P 1 → Ag P h (sI h 1 1 (nI (l - j))) := fun P hP => (Ag.refl h).sI hP
      have M : ∀ P : Nat → Prop, ¬ P 2 → MAg P u (mSI u 2 (nI (l - j))) := fun P hP => (MAg.refl u).sI hP
      exact Iv.mk
        (sx_ := S)
        (zo_ := I.zo)
        (zc_ := I.zc)
        (zk_ := I.zk)
        (zm_ := I.zm)
        (kr_ := I.kr.fr S (A _ (gr_n S.o1 (by omega))) (M _ (by unfold kS; omega)))
        (rm_ := I.rm.fr (h := h) (u := u) (fun _ => rfl) (fun _ => rfl) (fun _ => rfl))
        (tp_ := ⟨⟨l - j, by omega, by show _ ≤ hN h G.tk; omega, by rw [z_hI_sI, if_pos ⟨rfl, rfl⟩], by rw [z_mI_mSI, if_pos rfl], fun i hi => l5 i (by omega)⟩, I.tp.bt, I.tp.hn, I.tp.ok⟩)
        (ou_ := I.ou.fr (h := h) (u := u) rfl (by rw [z_hI_sI, ifn2 (by omega)]) (fun i => rfl) (by rw [z_mI_mSI, if_neg (by omega)]) (fun i => rfl))
        (dy_ := I.dy)
        (nu_ := I.nu)
        (te_ := I.te.fr S rfl (A _ (gr_n S.o1 (by omega))) (M _ (by unfold tS; omega)) (fun i _ => rfl))
        (pl_ := I.pl)
        (ju_ := I.ju.fr (h := h) (u := u) S (fun _ => rfl) (A _ (gr_n S.o1 (by omega))) (M _ (by unfold jS; omega)) (fun i _ => rfl) (fun i _ => rfl))
    · simp only [if_neg h2]; exact no rfl rfl
