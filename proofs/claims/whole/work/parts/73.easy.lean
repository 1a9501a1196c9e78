-- needs: 63 70 71 72
theorem gr_n {Z : Nat} {G : Gh} {a x n : Nat} (h : G.ow a = x) (hn : x / 100000 ≠ n) : ¬ gr Z G n a := by unfold gr; rw [h]; exact fun q => hn q.2
theorem gr_z {Z : Nat} {G : Gh} {n a : Nat} (h : Z ≤ a) : ¬ gr Z G n a := fun q => by have := q.1; omega
/-- the invariant over changes that touch neither tables nor sizes -/
theorem Bud.dn {n c s : Nat} {h : PH} {G : Gh} (B : Bud (n + 1) c s h G) : Bud n c s h G := ⟨by have := B.1; omega, by have := B.2; omega⟩
theorem sp_place : SP_place Inv := by
  intro n c s h u ⟨G, z, I, B⟩
  have S := I.sx
  refine ⟨hI h 1415 0, ?_, ?_, G, z, I, B.dn⟩
  · simp only [fX11_place, fX11_place_0, S.t0, S.t1, S.t3, S.t5, S.t6, S.t8, S.t10, S.t12, S.t14, S.t23, S.t24, S.t7, S.t9, S.t11, S.t13, S.t15, S.t16, S.t17, S.t18, S.t19, S.t20, S.t21, S.t25, S.t29, S.t30, S.t31, S.n7, S.n9, S.n11, S.n13, S.n15, S.n16, S.n17, S.n18, S.n19, S.n20, S.n21, S.n25, S.n29, S.n30, S.n31, S.r1408_0, S.r1409_0, S.r1410_0, S.r1411_0, S.r1412_0, S.r128_5, S.r129_5, S.r130_5, S.r131_5, S.r132_5, S.r133_5, S.r134_5, S.r135_5, S.r136_5, S.r137_5, S.r138_5, S.r512_23, S.r513_23, S.r514_23, S.r515_23, S.r896_6, S.r896_8, S.r896_10, S.r896_12, S.r896_14, S.r1280_24, S.r0_1, S.ttk, S.otk, S.r0_3, S.twk, S.owk, S.r141_5, S.tpg, S.opg, S.r1281_24, S.tkd, S.okd, S.r1282_24, S.tst, S.ost, S.r1283_24, S.tvl, S.ovl, S.o0, S.o1, S.o3, S.o31, S.o5, S.o6, S.o7, S.o8, S.o9, S.o10, S.o11, S.o12, S.o13, S.o14, S.o15, S.o16, S.o17, S.o18, S.o19, S.o20, S.o21, S.o23, S.o24, S.o25, S.o29, S.o30, oN_v, oC_v, oB_v, oB2_v, oB3_v, oB4_v, oK3_v, oK4_v, oL_v, decide_true]
  · simp only [fX12_place, fX12_place_0, I.pl, oN_v, oC_v, oB_v, oB2_v, oB3_v, oB4_v, oK3_v, oK4_v, oL_v]
theorem Iv.bench {h : PH} {u u' : MS} {G : Gh} {z : Sz} (I : Iv h u G z) {f : Nat} {v : Int32} (hf : f = 1414 ∨ f = 1415) (M : MAg (fun k => k ≠ 72 ∧ k ≠ 17) u u') (hd : DyR (sI h f 0 v) u') (hp : hI (sI h f 0 v) 1415 0 = mI u' 17) : Iv (sI h f 0 v) u' G z := by
  have S := I.sx
  have A : ∀ n, n ≠ 0 → Ag (gr (hZ h) G n) h (sI h f 0 v) := fun n hn => (Ag.refl h).sI (gr_n S.o0 (by omega))
  have e : ∀ f' a, a ≠ 0 ∨ f' ≠ f → hI (sI h f 0 v) f' a = hI h f' a := fun f' a ha => by rw [z_hI_sI, if_neg (by omega)]
  have e1 : ∀ a, a ≠ 0 → ∀ f', hI (sI h f 0 v) f' a = hI h f' a := fun a ha f' => e f' a (.inl ha)
  have mi : ∀ k, k ≠ 72 ∧ k ≠ 17 → mI u' k = mI u k := fun k hk => (M k hk).1
  have ma : ∀ k, k ≠ 72 ∧ k ≠ 17 → ∀ i, mA u' k i = mA u k i := fun k hk => (M k hk).2.2.1
  exact Iv.mk
    (sx_ := S)
    (zo_ := I.zo)
    (zc_ := by
      have := I.zc
      unfold SzC at *
      simp only [e1 6 (by omega), e1 8 (by omega), e1 10 (by omega), e1 12 (by omega), e1 14 (by omega), e1 5 (by omega)]
      exact this)
    (zk_ := by
      have := I.zk
      unfold SzK at *
      simp only [e1 6 (by omega), e1 8 (by omega), e1 10 (by omega), e1 12 (by omega), e1 14 (by omega), e1 5 (by omega)]
      exact this)
    (zm_ := by
      have := I.zm
      unfold SzM at *
      simp only [mi 18 (by omega), mi 19 (by omega), mi 20 (by omega), mi 21 (by omega), mi 22 (by omega), mi 23 (by omega), mi 24 (by omega)]
      exact this)
    (kr_ := I.kr.fr S (A 3 (by omega)) (M.mono fun k hk => by unfold kS at hk; omega))
    (rm_ := I.rm.fr (h := h) (fun _ => rfl) (fun _ => rfl) (M 9 (by omega)).2.2.2)
    (tp_ := I.tp.fr (h := h) rfl (e1 1 (by omega) _) (fun _ => rfl) (mi 2 (by omega)) (ma 1 (by omega)))
    (ou_ := I.ou.fr (h := h) rfl (e1 3 (by omega) _) (fun _ => rfl) (mi 113 (by omega)) (ma 114 (by omega)))
    (dy_ := hd)
    (nu_ := I.nu.fr (h := h) (fun _ => rfl) (ma 26 (by omega)))
    (te_ := I.te.fr S (e 1413 0 (by omega)) (A 4 (by omega)) (M.mono fun k hk => by unfold tS at hk; omega) (fun i _ => ma 28 (by omega) i))
    (pl_ := hp)
    (ju_ := I.ju.fr (h := h) S (fun _ => rfl) (A 5 (by omega)) (M.mono fun k hk => by unfold jS at hk; omega) (fun i _ => ma 28 (by omega) i) (fun i _ => ma 42 (by omega) i))
theorem nI_of3 {x : Int32} {d m : Nat} (hd : d < 2147483648) (hm : m < 2147483648) (h1 : ¬ x < nI d) (h2 : x ≤ nI m) : ∃ j, d ≤ j ∧ j ≤ m ∧ x = nI j := by
  have h0 : ¬ x < 0 := by
    intro q
    have := nI_pos' (n := d) (by omega)
    grind
  obtain ⟨j, hj, e⟩ := nI_of h0
  subst e
  rw [nI_ltI (by omega) (by omega)] at h1
  rw [nI_leI (by omega) (by omega)] at h2
  exact ⟨j, by omega, h2, rfl⟩
theorem sp_clock : SP_clock Inv := by
  intro n c s h u x ⟨G, z, I, B⟩
  have S := I.sx
  obtain ⟨d, hd, h1, h2⟩ := I.dy
  simp only [fX11_clock, fX11_clock_0, fX12_clock, fX12_clock_0, S.t0, S.t1, S.t3, S.t5, S.t6, S.t8, S.t10, S.t12, S.t14, S.t23, S.t24, S.t7, S.t9, S.t11, S.t13, S.t15, S.t16, S.t17, S.t18, S.t19, S.t20, S.t21, S.t25, S.t29, S.t30, S.t31, S.n7, S.n9, S.n11, S.n13, S.n15, S.n16, S.n17, S.n18, S.n19, S.n20, S.n21, S.n25, S.n29, S.n30, S.n31, S.r1408_0, S.r1409_0, S.r1410_0, S.r1411_0, S.r1412_0, S.r128_5, S.r129_5, S.r130_5, S.r131_5, S.r132_5, S.r133_5, S.r134_5, S.r135_5, S.r136_5, S.r137_5, S.r138_5, S.r512_23, S.r513_23, S.r514_23, S.r515_23, S.r896_6, S.r896_8, S.r896_10, S.r896_12, S.r896_14, S.r1280_24, S.r0_1, S.ttk, S.otk, S.r0_3, S.twk, S.owk, S.r141_5, S.tpg, S.opg, S.r1281_24, S.tkd, S.okd, S.r1282_24, S.tst, S.ost, S.r1283_24, S.tvl, S.ovl, S.o0, S.o1, S.o3, S.o31, S.o5, S.o6, S.o7, S.o8, S.o9, S.o10, S.o11, S.o12, S.o13, S.o14, S.o15, S.o16, S.o17, S.o18, S.o19, S.o20, S.o21, S.o23, S.o24, S.o25, S.o29, S.o30, oN_v, oC_v, oB_v, oB2_v, oB3_v, oB4_v, oK3_v, oK4_v, oL_v, decide_true, h1, h2]
  by_cases c1 : x < nI d
  · simp only [if_pos c1]
    exact ⟨h, 0, u, rfl, rfl, G, z, I, B.dn⟩
  · simp only [if_neg c1]
    by_cases c2 : x ≤ 999999
    · simp only [if_pos c2]
      obtain ⟨j, hj, hj2, e⟩ := nI_of3 (m := 999999) (by omega) (by omega) c1 c2
      refine ⟨_, 1, _, rfl, rfl, G, z, I.bench (.inl rfl) ((MAg.refl u).sI (by omega)) ⟨j, hj2, ?_, ?_⟩ ?_, B.dn⟩
      · rw [z_hI_sI, if_pos ⟨rfl, rfl⟩, e]
      · rw [z_mI_mSI, if_pos rfl, e]
      · rw [z_hI_sI, if_neg (by decide), z_mI_mSI, if_neg (by decide), I.pl]
    · simp only [if_neg c2]
      exact ⟨h, 0, u, rfl, rfl, G, z, I, B.dn⟩
