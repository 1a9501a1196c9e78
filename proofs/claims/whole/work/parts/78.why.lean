-- needs: 63 70 71 72 73 74 75 76 77
/-- digit v of the binding b, n digits of base p -/
def dg (p n b v : Nat) : Nat := b / p ^ (n - 1 - v) % p
/-- the reckoner's persons, its variables bound -/
def whoH (h : PH) (a p n b : Nat) : PH := match n with
  | 0 => h
  | 1 => sA h a 5 (nI (dg p 1 b 0))
  | 2 => sA (sA h a 6 (nI (dg p 2 b 1))) a 5 (nI (dg p 2 b 0))
  | _ => sA (sA (sA h a 7 (nI (dg p 3 b 2))) a 6 (nI (dg p 3 b 1))) a 5 (nI (dg p 3 b 0))
theorem bind_v {h : PH} {G : Gh} {p n b : Nat} (S : SX h G) (J : G.jj = true) (hp : p ≤ 5) (hn : n ≤ 3) (hb : b < 2147483648) (h0 : 0 < p ∨ n = 0) : fX6_bind h (G.jd 1) (nI b) (nI n) (nI p) = some (whoH h (G.jd 2) p n b) := by
  obtain ⟨m, hm⟩ : ∃ m, FU = m + 4 := ⟨99996, rfl⟩
  unfold fX6_bind fX6_bind_0
  rw [hm]
  have t1 : ∀ h', SX h' G → hT h' (G.jd 1) = 7 := fun h' S' => S'.jt1 J
  have step : ∀ (h' : PH) (m' v q : Nat), SX h' G → v < 3 → 0 < p → q < 2147483648 → fX6_bind_12 (m' + 1) h' (G.jd 1) (nI p) (nI q) (nI v) = fX6_bind_12 m' (sA h' (G.jd 2) (5 + v) (nI (q % p))) (G.jd 1) (nI p) (nI (q / p)) (nI v + -1) := by
    intro h' m' v q S hv hp0 hq
    have e0 : ¬ nI p ≤ 0 := nI_nle hp0 (by omega)
    have e1 : ¬ nI p = 0 := nI_ne0 hp0 (by omega)
    simp only [fX6_bind_12, fX6_bind_12F, fX6_bind_37, fX6_bind_50, if_neg (nI_pos (n := v) (by omega)), S.t0, S.t1, S.t3, S.t5, S.t6, S.t8, S.t10, S.t12, S.t14, S.t23, S.t24, S.t7, S.t9, S.t11, S.t13, S.t15, S.t16, S.t17, S.t18, S.t19, S.t20, S.t21, S.t25, S.t29, S.t30, S.t31, S.n7, S.n9, S.n11, S.n13, S.n15, S.n16, S.n17, S.n18, S.n19, S.n20, S.n21, S.n25, S.n29, S.n30, S.n31, S.r1408_0, S.r1409_0, S.r1410_0, S.r1411_0, S.r1412_0, S.r128_5, S.r129_5, S.r130_5, S.r131_5, S.r132_5, S.r133_5, S.r134_5, S.r135_5, S.r136_5, S.r137_5, S.r138_5, S.r512_23, S.r513_23, S.r514_23, S.r515_23, S.r896_6, S.r896_8, S.r896_10, S.r896_12, S.r896_14, S.r1280_24, S.r0_1, S.ttk, S.otk, S.r0_3, S.twk, S.owk, S.r141_5, S.tpg, S.opg, S.r1281_24, S.tkd, S.okd, S.r1282_24, S.tst, S.ost, S.r1283_24, S.tvl, S.ovl, S.o0, S.o1, S.o3, S.o31, S.o5, S.o6, S.o7, S.o8, S.o9, S.o10, S.o11, S.o12, S.o13, S.o14, S.o15, S.o16, S.o17, S.o18, S.o19, S.o20, S.o21, S.o23, S.o24, S.o25, S.o29, S.o30, S.jY J, S.jt0 J, S.jt1 J, S.jt2 J, S.jt3 J, S.jt4 J, S.jt5 J, S.jt6 J, S.jt7 J, S.jt8 J, S.jt9 J, S.jt10 J, S.jt11 J, S.jt12 J, S.jt13 J, S.jt14 J, S.jt15 J, S.jt16 J, S.jt17 J, S.jt18 J, S.jt19 J, S.jt20 J, S.jn2 J, S.jn3 J, S.jn9 J, S.jn10 J, S.jn11 J, S.jn12 J, S.jn13 J, S.jn14 J, S.jn18 J, S.jn19 J, S.jn20 J, S.jr640 J, S.jr641 J, S.jr768 J, S.jr769 J, S.jr770 J, S.jr771 J, S.jr772 J, S.jr773 J, S.jr774 J, S.jr775 J, S.jr645 J, S.jr646 J, S.jr647 J, S.jr648 J, S.jr649 J, S.jr650 J, S.jr652 J, S.jr653 J, S.jr654 J, S.jr656 J, S.jr657 J, S.jr658 J, oN_v, oC_v, oB_v, oB2_v, oB3_v, oB4_v, oK3_v, oK4_v, oL_v, decide_true, if_neg e0, e1, not_false_eq_true, nI_mod2, nI_div hq (show p < 2147483648 by omega), show (5 : Int32) + nI v = nI (5 + v) from nI_add 5 v, oC_t (ix_n (show 5 + v < 8 by omega) (by omega)), nI_clamp (show 5 + v < 2147483648 by omega)]
  have last : ∀ (h' : PH) (m' : Nat) (q : Int32), fX6_bind_12 (m' + 1) h' (G.jd 1) (nI p) q (-1) = some h' := by
    intro h' m' q
    simp only [fX6_bind_12, fX6_bind_12F, show ((-1 : Int32) < 0) by decide, if_true]
  have dm : ∀ v : Nat, nI (v + 1) + -1 = nI v := fun v => by
    rw [← nI_pred v]; grind
  have d0 : nI 0 + -1 = -1 := by decide
  have hd1 : b / p < 2147483648 := Nat.lt_of_le_of_lt (Nat.div_le_self b p) hb
  have hd2 : b / p / p < 2147483648 := Nat.lt_of_le_of_lt (Nat.div_le_self _ p) hd1
  have dd : b / p / p = b / p ^ 2 := by rw [Nat.div_div_eq_div_mul, Nat.pow_two]
  rcases (show n = 0 ∨ n = 1 ∨ n = 2 ∨ n = 3 by omega) with q | q | q | q <;> subst q
  · rw [oL_v, show (if (3 : Int32) < nI 0 then 3 else nI 0) - 1 = -1 by decide, last]
    rfl
  · rw [oL_v, show (if (3 : Int32) < nI 1 then 3 else nI 1) - 1 = nI 0 by decide, step h _ 0 b S (by omega) (by omega) hb, d0, last]
    simp only [whoH, dg, Nat.pow_zero, Nat.div_one, Nat.sub_self, Nat.add_zero]
  · rw [oL_v, show (if (3 : Int32) < nI 2 then 3 else nI 2) - 1 = nI 1 by decide, step h _ 1 b S (by omega) (by omega) hb, dm 0, step (sA h _ _ _) _ 0 _ S (by omega) (by omega) hd1, d0, last]
    simp only [whoH, dg, Nat.pow_zero, Nat.div_one, Nat.sub_self, Nat.add_zero, Nat.reduceAdd, Nat.reduceSub, Nat.pow_one]
  · rw [oL_v, show (if (3 : Int32) < nI 3 then 3 else nI 3) - 1 = nI 2 by decide, step h _ 2 b S (by omega) (by omega) hb, dm 1, step (sA h _ _ _) _ 1 _ S (by omega) (by omega) hd1, dm 0, step (sA (sA h _ _ _) _ _ _) _ 0 _ S (by omega) (by omega) hd2, d0, last, dd]
    simp only [whoH, dg, Nat.pow_zero, Nat.div_one, Nat.sub_self, Nat.add_zero, Nat.reduceAdd, Nat.reduceSub, Nat.pow_one]
theorem whoH_v {h : PH} {a p n b v : Nat} (hn : n ≤ 3) (hv : v < n) : hA (whoH h a p n b) a (5 + v) = nI (dg p n b v) := by
  rcases (show n = 1 ∨ n = 2 ∨ n = 3 by omega) with q | q | q <;> subst q
  · obtain rfl : v = 0 := by omega
    simp [whoH, z_hA_sA]
  · rcases (show v = 0 ∨ v = 1 by omega) with q | q <;> subst q <;> simp [whoH, z_hA_sA]
  · rcases (show v = 0 ∨ v = 1 ∨ v = 2 by omega) with q | q | q <;> subst q <;> simp [whoH, z_hA_sA]
theorem whoH_o {h : PH} {a p n b x i : Nat} (hx : x ≠ a ∨ i < 5) : hA (whoH h a p n b) x i = hA h x i := by
  unfold whoH
  split
  · rfl
  · simp only [z_hA_sA]; rw [if_neg (by omega)]
  · simp only [z_hA_sA]; rw [if_neg (by omega), if_neg (by omega)]
  · simp only [z_hA_sA]; rw [if_neg (by omega), if_neg (by omega), if_neg (by omega)]
theorem whoH_s {h : PH} {a p n b : Nat} : hI (whoH h a p n b) = hI h ∧ hL (whoH h a p n b) = hL h ∧ hR (whoH h a p n b) = hR h ∧ hB (whoH h a p n b) = hB h ∧ hC (whoH h a p n b) = hC h ∧ hT (whoH h a p n b) = hT h ∧ hN (whoH h a p n b) = hN h ∧ hZ (whoH h a p n b) = hZ h := by
  unfold whoH
  split <;> exact ⟨rfl, rfl, rfl, rfl, rfl, rfl, rfl, rfl⟩
theorem whoH_SX {h : PH} {G : Gh} {a p n b : Nat} (S : SX h G) : SX (whoH h a p n b) G := by
  obtain ⟨_, _, e3, _, e5, e6, e7, e8⟩ := whoH_s (h := h) (a := a) (p := p) (n := n) (b := b)
  unfold SX
  rw [e3, e5, e6, e7, e8]
  exact S
/-- what the invariant reads of both -/
def iP (Z : Nat) (G : Gh) (a : Nat) : Prop := (a < Z ∧ G.ow a / 100000 ≠ 5 ∧ G.ow a / 100000 ≠ 7) ∨ jP G a
def iM (k : Nat) : Prop := k = 1 ∨ k = 2 ∨ k = 9 ∨ (17 ≤ k ∧ k ≤ 62) ∨ (72 ≤ k ∧ k ≤ 78) ∨ (96 ≤ k ∧ k ≤ 111) ∨ k = 113 ∨ k = 114
theorem Iv.keep {h h' : PH} {u u' : MS} {G : Gh} {z : Sz} (I : Iv h u G z) (S' : SX h' G) (eN : ∀ a, hN h' a = hN h a) (A : Ag (iP (hZ h) G) h h') (M : MAg iM u u') (w : ∀ p, p < 5 → hA h' (G.jd 2) p = hA h (G.jd 2) p) (b : ∀ i, isBy (hA h' (G.jd 17) i)) : Iv h' u' G z := by
  have S := I.sx
  have g : ∀ n, n ≠ 5 → n ≠ 7 → Ag (gr (hZ h) G n) h h' := fun n h5 h7 => A.mono fun a ha => .inl ⟨ha.1, by have := ha.2; omega⟩
  have p : ∀ a x, a < hZ h → G.ow a = x → x / 100000 ≠ 5 → x / 100000 ≠ 7 → iP (hZ h) G a := fun a x l e h5 h7 => .inl ⟨l, by rw [e]; exact ⟨h5, h7⟩⟩
  have zz := S.zz
  have mi : ∀ k, iM k → mI u' k = mI u k := fun k hk => (M k hk).1
  have ma : ∀ k, iM k → ∀ i, mA u' k i = mA u k i := fun k hk => (M k hk).2.2.1
  have i0 := (A 0 (p _ _ (by omega) S.o0 (by omega) (by omega))).1
  have i1 := (A 1 (p _ _ (by omega) S.o1 (by omega) (by omega))).1
  have i3 := (A 3 (p _ _ (by omega) S.o3 (by omega) (by omega))).1
  have i5 := (A 5 (p _ _ (by omega) S.o5 (by omega) (by omega))).1
  have i6 := (A 6 (p _ _ (by omega) S.o6 (by omega) (by omega))).1
  have i8 := (A 8 (p _ _ (by omega) S.o8 (by omega) (by omega))).1
  have i10 := (A 10 (p _ _ (by omega) S.o10 (by omega) (by omega))).1
  have i12 := (A 12 (p _ _ (by omega) S.o12 (by omega) (by omega))).1
  have i14 := (A 14 (p _ _ (by omega) S.o14 (by omega) (by omega))).1
  exact Iv.mk
    (sx_ := S')
    (zo_ := I.zo)
    (zc_ := by
      have := I.zc
      unfold SzC at *
      simp only [i5, i6, i8, i10, i12, i14]
      exact this)
    (zk_ := by
      have := I.zk
      unfold SzK at *
      simp only [i5, i6, i8, i10, i12, i14]
      exact this)
    (zm_ := by
      have := I.zm
      unfold SzM at *
      simp only [mi 18 (by unfold iM; omega), mi 19 (by unfold iM; omega), mi 20 (by unfold iM; omega), mi 21 (by unfold iM; omega), mi 22 (by unfold iM; omega), mi 23 (by unfold iM; omega), mi 24 (by unfold iM; omega)]
      exact this)
    (kr_ := I.kr.fr S (g 3 (by omega) (by omega)) (M.mono fun k hk => by unfold kS at hk; unfold iM; omega))
    (rm_ := I.rm.fr (h := h) eN (A 25 (p _ _ (by omega) S.o25 (by omega) (by omega))).2.2.2 (M 9 (by unfold iM; omega)).2.2.2)
    (tp_ := I.tp.fr (h := h) (eN _) (i1 _) (A G.tk (p _ _ (lt_T S.fr S.ttk (by omega)) S.otk (by omega) (by omega))).2.2.1 (mi 2 (by unfold iM; omega)) (ma 1 (by unfold iM; omega)))
    (ou_ := I.ou.fr (h := h) (eN _) (i3 _) (A G.wk (p _ _ (lt_T S.fr S.twk (by omega)) S.owk (by omega) (by omega))).2.2.1 (mi 113 (by unfold iM; omega)) (ma 114 (by unfold iM; omega)))
    (dy_ := by
      have := I.dy
      unfold DyR at *
      rw [i0, mi 72 (by unfold iM; omega)]
      exact this)
    (nu_ := I.nu.fr (h := h) (A 17 (p _ _ (by omega) S.o17 (by omega) (by omega))).2.2.1 (ma 26 (by unfold iM; omega)))
    (te_ := I.te.fr S (i0 1413) (g 4 (by omega) (by omega)) (M.mono fun k hk => by unfold tS at hk; unfold iM; omega) (fun i _ => ma 28 (by unfold iM; omega) i))
    (pl_ := by rw [i0, mi 17 (by unfold iM; omega)]; exact I.pl)
    (ju_ := by
      have mj : ∀ k, 96 ≤ k → k ≤ 111 → mI u' k = mI u k := fun k h1 h2 => mi k (by unfold iM; omega)
      have K := I.ju
      unfold IvJ at *
      simp only [mj 96 (by omega) (by omega), mj 100 (by omega) (by omega), mj 101 (by omega) (by omega), mj 102 (by omega) (by omega), mj 103 (by omega) (by omega)]
      rcases K with K | ⟨j, k, l, a, b', c, K⟩
      · exact .inl K
      · refine .inr ⟨j, k, ⟨fun p hp => (w p hp).trans (l.wh p hp), by rw [eN, eN]; exact l.k1, by rw [eN, eN]; exact l.k2, by rw [eN]; exact l.k3, by rw [eN]; exact l.k4, b⟩, a, b', c, K.fr (A.mono fun a p => .inr p) (M.mono fun k hk => by unfold jS at hk; unfold iM; omega) (fun i _ => ma 28 (by unfold iM; omega) i) (fun i _ => ma 42 (by unfold iM; omega) i)⟩)
theorem iP_n {h : PH} {G : Gh} (S : SX h G) (J : G.jj = true) {i : Nat} (hi : i < 21 ∨ (100 ≤ i ∧ i < 124)) (hn : i ≠ 0 ∧ i ≠ 10 ∧ i ≠ 11 ∧ i ≠ 18 ∧ i ≠ 19 ∧ i ≠ 20) : ¬ iP (hZ h) G (G.jd i) := by
  have o := S.jo J i hi
  rintro (⟨_, q, _⟩ | ⟨k, hk, e⟩)
  · rw [o] at q; omega
  · have o2 := S.jo J k (by omega)
    rw [← e, o] at o2
    omega
theorem whoH_ag {P : Nat → Prop} {h : PH} {a p n b : Nat} (hP : ¬ P a) : Ag P h (whoH h a p n b) := by
  unfold whoH
  split
  · exact Ag.refl h
  · exact (Ag.refl h).sA hP
  · exact ((Ag.refl h).sA hP).sA hP
  · exact (((Ag.refl h).sA hP).sA hP).sA hP
theorem Iv.who {h : PH} {u : MS} {G : Gh} {z : Sz} (I : Iv h u G z) (J : G.jj = true) {p n b : Nat} : Iv (whoH h (G.jd 2) p n b) u G z := by
  have S := I.sx
  obtain ⟨_, _, _, _, _, _, e7, _⟩ := whoH_s (h := h) (a := G.jd 2) (p := p) (n := n) (b := b)
  have js : JS h G := by
    rcases I.ju with ⟨q, _⟩ | ⟨_, _, q, _⟩
    · rw [J] at q; cases q
    · exact q
  have n17 : G.jd 17 ≠ G.jd 2 := ne_ow (S.jo J 17 (by omega)) (S.jo J 2 (by omega)) (by omega)
  refine I.keep (whoH_SX S) (fun a => by rw [e7]) (whoH_ag (iP_n S J (by omega) (by omega))) (MAg.refl u) (fun p hp => whoH_o (.inr hp)) (fun i => by rw [whoH_o (.inl n17)]; exact js.bt i)
theorem sp_why : SP_why Inv := by
  intro n c s h u x so a b y ⟨G, z, I, B⟩
  have S := I.sx
  rcases I.ju with ⟨J, h0, _⟩ | ⟨J, h0, js, jp, jw, jj, K⟩
  · refine ⟨h, -1, ?_, ?_, G, z, I, B.dn⟩
    · simp only [fX11_why, fX11_why_0, S.t0, S.t1, S.t3, S.t5, S.t6, S.t8, S.t10, S.t12, S.t14, S.t23, S.t24, S.t7, S.t9, S.t11, S.t13, S.t15, S.t16, S.t17, S.t18, S.t19, S.t20, S.t21, S.t25, S.t29, S.t30, S.t31, S.n7, S.n9, S.n11, S.n13, S.n15, S.n16, S.n17, S.n18, S.n19, S.n20, S.n21, S.n25, S.n29, S.n30, S.n31, S.r1408_0, S.r1409_0, S.r1410_0, S.r1411_0, S.r1412_0, S.r128_5, S.r129_5, S.r130_5, S.r131_5, S.r132_5, S.r133_5, S.r134_5, S.r135_5, S.r136_5, S.r137_5, S.r138_5, S.r512_23, S.r513_23, S.r514_23, S.r515_23, S.r896_6, S.r896_8, S.r896_10, S.r896_12, S.r896_14, S.r1280_24, S.r0_1, S.ttk, S.otk, S.r0_3, S.twk, S.owk, S.r141_5, S.tpg, S.opg, S.r1281_24, S.tkd, S.okd, S.r1282_24, S.tst, S.ost, S.r1283_24, S.tvl, S.ovl, S.o0, S.o1, S.o3, S.o31, S.o5, S.o6, S.o7, S.o8, S.o9, S.o10, S.o11, S.o12, S.o13, S.o14, S.o15, S.o16, S.o17, S.o18, S.o19, S.o20, S.o21, S.o23, S.o24, S.o25, S.o29, S.o30, oN_v, oC_v, oB_v, oB2_v, oB3_v, oB4_v, oK3_v, oK4_v, oL_v, decide_true, S.jN J, if_true]
    · simp only [fX12_why, fX12_why_0, fX12_why_28, h0, if_true]
  · obtain ⟨r, e1, e2, hr⟩ := lit_eq (x := x) (so := bo so) (a := a) (b := b) (cw := jw) (cp := jp) S I.kr.pl I.zo.2.1 K.lw (by have := K.lp; have := I.zo.1; omega)
    simp only [fX11_why, fX11_why_0, fX5_find, fX5_find_0, fX12_why, fX12_why_0, fX12_why_28, S.t0, S.t1, S.t3, S.t5, S.t6, S.t8, S.t10, S.t12, S.t14, S.t23, S.t24, S.t7, S.t9, S.t11, S.t13, S.t15, S.t16, S.t17, S.t18, S.t19, S.t20, S.t21, S.t25, S.t29, S.t30, S.t31, S.n7, S.n9, S.n11, S.n13, S.n15, S.n16, S.n17, S.n18, S.n19, S.n20, S.n21, S.n25, S.n29, S.n30, S.n31, S.r1408_0, S.r1409_0, S.r1410_0, S.r1411_0, S.r1412_0, S.r128_5, S.r129_5, S.r130_5, S.r131_5, S.r132_5, S.r133_5, S.r134_5, S.r135_5, S.r136_5, S.r137_5, S.r138_5, S.r512_23, S.r513_23, S.r514_23, S.r515_23, S.r896_6, S.r896_8, S.r896_10, S.r896_12, S.r896_14, S.r1280_24, S.r0_1, S.ttk, S.otk, S.r0_3, S.twk, S.owk, S.r141_5, S.tpg, S.opg, S.r1281_24, S.tkd, S.okd, S.r1282_24, S.tst, S.ost, S.r1283_24, S.tvl, S.ovl, S.o0, S.o1, S.o3, S.o31, S.o5, S.o6, S.o7, S.o8, S.o9, S.o10, S.o11, S.o12, S.o13, S.o14, S.o15, S.o16, S.o17, S.o18, S.o19, S.o20, S.o21, S.o23, S.o24, S.o25, S.o29, S.o30, S.jY J, S.jt0 J, S.jt1 J, S.jt2 J, S.jt3 J, S.jt4 J, S.jt5 J, S.jt6 J, S.jt7 J, S.jt8 J, S.jt9 J, S.jt10 J, S.jt11 J, S.jt12 J, S.jt13 J, S.jt14 J, S.jt15 J, S.jt16 J, S.jt17 J, S.jt18 J, S.jt19 J, S.jt20 J, S.jn2 J, S.jn3 J, S.jn9 J, S.jn10 J, S.jn11 J, S.jn12 J, S.jn13 J, S.jn14 J, S.jn18 J, S.jn19 J, S.jn20 J, S.jr640 J, S.jr641 J, S.jr768 J, S.jr769 J, S.jr770 J, S.jr771 J, S.jr772 J, S.jr773 J, S.jr774 J, S.jr775 J, S.jr645 J, S.jr646 J, S.jr647 J, S.jr648 J, S.jr649 J, S.jr650 J, S.jr652 J, S.jr653 J, S.jr654 J, S.jr656 J, S.jr657 J, S.jr658 J, oN_v, oC_v, oB_v, oB2_v, oB3_v, oB4_v, oK3_v, oK4_v, oL_v, decide_true, reduceCtorEq, if_false, K.p1, K.p2, K.w1, K.w2, h0, e1, e2, show ¬ ((1 : Int32) = 0) by decide]
    rcases hr with hr | ⟨p, hp, hr, hl⟩
    · subst hr
      simp only [if_true]
      exact ⟨_, _, rfl, rfl, G, z, I, B.dn⟩
    · subst hr
      simp only [if_neg (nI_m1 (p := p) (by omega)), fX5_reason, fX5_reason_0, S.t0, S.t1, S.t3, S.t5, S.t6, S.t8, S.t10, S.t12, S.t14, S.t23, S.t24, S.t7, S.t9, S.t11, S.t13, S.t15, S.t16, S.t17, S.t18, S.t19, S.t20, S.t21, S.t25, S.t29, S.t30, S.t31, S.n7, S.n9, S.n11, S.n13, S.n15, S.n16, S.n17, S.n18, S.n19, S.n20, S.n21, S.n25, S.n29, S.n30, S.n31, S.r1408_0, S.r1409_0, S.r1410_0, S.r1411_0, S.r1412_0, S.r128_5, S.r129_5, S.r130_5, S.r131_5, S.r132_5, S.r133_5, S.r134_5, S.r135_5, S.r136_5, S.r137_5, S.r138_5, S.r512_23, S.r513_23, S.r514_23, S.r515_23, S.r896_6, S.r896_8, S.r896_10, S.r896_12, S.r896_14, S.r1280_24, S.r0_1, S.ttk, S.otk, S.r0_3, S.twk, S.owk, S.r141_5, S.tpg, S.opg, S.r1281_24, S.tkd, S.okd, S.r1282_24, S.tst, S.ost, S.r1283_24, S.tvl, S.ovl, S.o0, S.o1, S.o3, S.o31, S.o5, S.o6, S.o7, S.o8, S.o9, S.o10, S.o11, S.o12, S.o13, S.o14, S.o15, S.o16, S.o17, S.o18, S.o19, S.o20, S.o21, S.o23, S.o24, S.o25, S.o29, S.o30, S.jY J, S.jt0 J, S.jt1 J, S.jt2 J, S.jt3 J, S.jt4 J, S.jt5 J, S.jt6 J, S.jt7 J, S.jt8 J, S.jt9 J, S.jt10 J, S.jt11 J, S.jt12 J, S.jt13 J, S.jt14 J, S.jt15 J, S.jt16 J, S.jt17 J, S.jt18 J, S.jt19 J, S.jt20 J, S.jn2 J, S.jn3 J, S.jn9 J, S.jn10 J, S.jn11 J, S.jn12 J, S.jn13 J, S.jn14 J, S.jn18 J, S.jn19 J, S.jn20 J, S.jr640 J, S.jr641 J, S.jr768 J, S.jr769 J, S.jr770 J, S.jr771 J, S.jr772 J, S.jr773 J, S.jr774 J, S.jr775 J, S.jr645 J, S.jr646 J, S.jr647 J, S.jr648 J, S.jr649 J, S.jr650 J, S.jr652 J, S.jr653 J, S.jr654 J, S.jr656 J, S.jr657 J, S.jr658 J, oN_v, oC_v, oB_v, oB2_v, oB3_v, oB4_v, oK3_v, oK4_v, oL_v, decide_true, oC_t (ix_n hp (show 600 < 2147483648 by omega)), nI_clamp (show p < 2147483648 by omega), oC_t (ix_n (show p < mlen 105 from hp) (by decide)), oC_t (ix_n (show p < mlen 106 from hp) (by decide))]
      obtain ⟨mk1, mk2⟩ := K.mr p hp hl
      have RS := K.rs p hp hl
      have kind : fX5_kindOfReason h (G.jd 0) (nI p) = some (mA u 105 p) := by
        simp only [fX5_kindOfReason, fX5_kindOfReason_0, S.t0, S.t1, S.t3, S.t5, S.t6, S.t8, S.t10, S.t12, S.t14, S.t23, S.t24, S.t7, S.t9, S.t11, S.t13, S.t15, S.t16, S.t17, S.t18, S.t19, S.t20, S.t21, S.t25, S.t29, S.t30, S.t31, S.n7, S.n9, S.n11, S.n13, S.n15, S.n16, S.n17, S.n18, S.n19, S.n20, S.n21, S.n25, S.n29, S.n30, S.n31, S.r1408_0, S.r1409_0, S.r1410_0, S.r1411_0, S.r1412_0, S.r128_5, S.r129_5, S.r130_5, S.r131_5, S.r132_5, S.r133_5, S.r134_5, S.r135_5, S.r136_5, S.r137_5, S.r138_5, S.r512_23, S.r513_23, S.r514_23, S.r515_23, S.r896_6, S.r896_8, S.r896_10, S.r896_12, S.r896_14, S.r1280_24, S.r0_1, S.ttk, S.otk, S.r0_3, S.twk, S.owk, S.r141_5, S.tpg, S.opg, S.r1281_24, S.tkd, S.okd, S.r1282_24, S.tst, S.ost, S.r1283_24, S.tvl, S.ovl, S.o0, S.o1, S.o3, S.o31, S.o5, S.o6, S.o7, S.o8, S.o9, S.o10, S.o11, S.o12, S.o13, S.o14, S.o15, S.o16, S.o17, S.o18, S.o19, S.o20, S.o21, S.o23, S.o24, S.o25, S.o29, S.o30, S.jY J, S.jt0 J, S.jt1 J, S.jt2 J, S.jt3 J, S.jt4 J, S.jt5 J, S.jt6 J, S.jt7 J, S.jt8 J, S.jt9 J, S.jt10 J, S.jt11 J, S.jt12 J, S.jt13 J, S.jt14 J, S.jt15 J, S.jt16 J, S.jt17 J, S.jt18 J, S.jt19 J, S.jt20 J, S.jn2 J, S.jn3 J, S.jn9 J, S.jn10 J, S.jn11 J, S.jn12 J, S.jn13 J, S.jn14 J, S.jn18 J, S.jn19 J, S.jn20 J, S.jr640 J, S.jr641 J, S.jr768 J, S.jr769 J, S.jr770 J, S.jr771 J, S.jr772 J, S.jr773 J, S.jr774 J, S.jr775 J, S.jr645 J, S.jr646 J, S.jr647 J, S.jr648 J, S.jr649 J, S.jr650 J, S.jr652 J, S.jr653 J, S.jr654 J, S.jr656 J, S.jr657 J, S.jr658 J, oN_v, oC_v, oB_v, oB2_v, oB3_v, oB4_v, oK3_v, oK4_v, oL_v, decide_true, oC_t (ix_n hp (show 600 < 2147483648 by omega)), nI_clamp (show p < 2147483648 by omega), mk1]
        rcases RS with ⟨r1, r2, r3, _⟩ | ⟨r1, r2, r3, _⟩ | ⟨r, b, r0, r1, r2, _, r3, r4, _⟩
        · rw [r1, r3, if_neg r2, if_pos rfl]
        · rw [r1, r3]
          split
          · rfl
          · rw [if_neg (by decide), if_pos rfl]
        · have zo := I.zo.2.2.2.2.1
          rw [r2, r4, if_neg r3, if_neg, if_neg (nI_m1 (by omega))]
          intro q
          have := nI_pos' (n := 125 * r + b) (by omega)
          rw [q] at this
          exact absurd this (by decide)
      by_cases y0 : y = 0
      · subst y0
        simp only [kind, if_true, oN_v, oC_v, oB_v, oB2_v, oB3_v, oB4_v, oK3_v, oK4_v, oL_v, show ¬ ((0 : Int32) < 0) by decide, if_false, show ((0 : Int32) ≤ 4) by decide]
        exact ⟨_, _, rfl, rfl, G, z, I, B.dn⟩
      · simp only [if_neg y0]
        have refN : (mA u 106 p = -1) → (∀ v, v < 3 → mA u 107 (3 * p + v) = -1) → (if y < 0 then some (-1) else if y ≤ 4 then if y = 1 then some (mA u 106 p) else oC (ix (3 * nI p + y - 2) (mlen 107)) (some (mA u 107 (Int32.toNatClampNeg (3 * nI p + y - 2)))) else some (-1)) = some (-1) := by
          intro g1 g2
          by_cases y1 : y < 0
          · rw [if_pos y1]
          · rw [if_neg y1]
            by_cases y4 : y ≤ 4
            · rw [if_pos y4]
              obtain ⟨k, hk, hk2, ek⟩ := nI_of3 (d := 0) (m := 4) (by omega) (by omega) y1 y4
              subst ek
              by_cases y2 : nI k = 1
              · rw [if_pos y2, g1]
              · rw [if_neg y2]
                have k2 : 2 ≤ k := by
                  rcases (show k = 0 ∨ k = 1 ∨ 2 ≤ k by omega) with q | q | q
                  · subst q; exact absurd rfl y0
                  · subst q; exact absurd rfl y2
                  · exact q
                have e : 3 * nI p + nI k - 2 = nI (3 * p + (k - 2)) := by
                  rw [show (3 : Int32) = nI 3 from rfl, show (2 : Int32) = nI 2 from rfl, nI_mul, nI_add, nI_sub (by omega)]
                  congr 1; omega
                rw [e, oC_t (ix_n (show 3 * p + (k - 2) < mlen 107 by show _ < 1800; omega) (by decide)), nI_clamp (by omega), g2 _ (by omega)]
            · rw [if_neg y4]
        rcases RS with ⟨r1, r2, r3, r4, r5⟩ | ⟨r1, r2, r3, r4, r5⟩ | ⟨r, b, r0, r1, r2, r2', r3, r4, r5, r6⟩
        · simp only [fX5_bound, fX5_bound_0, fX5_bound_19, r1, show ¬ ((0 : Int32) ≤ -2) by decide, if_false, if_true, oN_v, oC_v, oB_v, oB2_v, oB3_v, oB4_v, oK3_v, oK4_v, oL_v, refN r4 r5]
          exact ⟨_, _, rfl, rfl, G, z, I, B.dn⟩
        · simp only [fX5_bound, fX5_bound_0, fX5_bound_19, r1, show ¬ ((0 : Int32) ≤ -1) by decide, if_false, if_true, oN_v, oC_v, oB_v, oB2_v, oB3_v, oB4_v, oK3_v, oK4_v, oL_v, refN r4 r5]
          exact ⟨_, _, rfl, rfl, G, z, I, B.dn⟩
        · have zo := I.zo.2.2.2.2.1
          obtain ⟨l, k, m, v, h1, h2, h3, h4, h5, h6, h7, h8, h9, ha, hb, hc, hd, he, hf⟩ := I.kr.ru r r0
          have rG : r < G.nr := by have := I.kr.nrG; omega
          have vv : (mA u 42 r).toNatClampNeg = v := by rw [hd, nI_clamp (by omega)]
          rw [vv] at r2'
          rw [vv] at r6
          have e1 : nI (125 * r + b) / 125 = nI r := by
            rw [show (125 : Int32) = nI 125 from rfl, nI_div (by omega) (by omega)]
            congr 1; omega
          have e2 : nI (125 * r + b) - nI r * 125 = nI b := by
            rw [show (125 : Int32) = nI 125 from rfl, nI_mul, nI_sub (by omega)]
            congr 1; omega
          have lp := K.lp
          have z1 := I.zo.1
          have bv := bind_v (b := b) S J (show jp ≤ 5 by omega) h5 (by omega) r2'
          have bd : fX5_bound h (G.jd 0) (nI (125 * r + b)) = some (whoH h (G.jd 2) jp v b, some (G.rl r)) := by
            simp only [fX5_bound, fX5_bound_0, fX5_bound_19, if_pos (nI_pos' (n := 125 * r + b) (by omega)), S.t0, S.t1, S.t3, S.t5, S.t6, S.t8, S.t10, S.t12, S.t14, S.t23, S.t24, S.t7, S.t9, S.t11, S.t13, S.t15, S.t16, S.t17, S.t18, S.t19, S.t20, S.t21, S.t25, S.t29, S.t30, S.t31, S.n7, S.n9, S.n11, S.n13, S.n15, S.n16, S.n17, S.n18, S.n19, S.n20, S.n21, S.n25, S.n29, S.n30, S.n31, S.r1408_0, S.r1409_0, S.r1410_0, S.r1411_0, S.r1412_0, S.r128_5, S.r129_5, S.r130_5, S.r131_5, S.r132_5, S.r133_5, S.r134_5, S.r135_5, S.r136_5, S.r137_5, S.r138_5, S.r512_23, S.r513_23, S.r514_23, S.r515_23, S.r896_6, S.r896_8, S.r896_10, S.r896_12, S.r896_14, S.r1280_24, S.r0_1, S.ttk, S.otk, S.r0_3, S.twk, S.owk, S.r141_5, S.tpg, S.opg, S.r1281_24, S.tkd, S.okd, S.r1282_24, S.tst, S.ost, S.r1283_24, S.tvl, S.ovl, S.o0, S.o1, S.o3, S.o31, S.o5, S.o6, S.o7, S.o8, S.o9, S.o10, S.o11, S.o12, S.o13, S.o14, S.o15, S.o16, S.o17, S.o18, S.o19, S.o20, S.o21, S.o23, S.o24, S.o25, S.o29, S.o30, S.jY J, S.jt0 J, S.jt1 J, S.jt2 J, S.jt3 J, S.jt4 J, S.jt5 J, S.jt6 J, S.jt7 J, S.jt8 J, S.jt9 J, S.jt10 J, S.jt11 J, S.jt12 J, S.jt13 J, S.jt14 J, S.jt15 J, S.jt16 J, S.jt17 J, S.jt18 J, S.jt19 J, S.jt20 J, S.jn2 J, S.jn3 J, S.jn9 J, S.jn10 J, S.jn11 J, S.jn12 J, S.jn13 J, S.jn14 J, S.jn18 J, S.jn19 J, S.jn20 J, S.jr640 J, S.jr641 J, S.jr768 J, S.jr769 J, S.jr770 J, S.jr771 J, S.jr772 J, S.jr773 J, S.jr774 J, S.jr775 J, S.jr645 J, S.jr646 J, S.jr647 J, S.jr648 J, S.jr649 J, S.jr650 J, S.jr652 J, S.jr653 J, S.jr654 J, S.jr656 J, S.jr657 J, S.jr658 J, oN_v, oC_v, oB_v, oB2_v, oB3_v, oB4_v, oK3_v, oK4_v, oL_v, decide_true, e1, e2, ruleAt_v S I.zc.2.2.2.2.1 I.kr.nrG r0, reduceCtorEq, if_false, S.rlT r rG, hc, K.p1, bv]
          simp only [r2, bd, oN_v, oC_v, oB_v, oB2_v, oB3_v, oB4_v, oK3_v, oK4_v, oL_v, reduceCtorEq, if_false, e1]
          obtain ⟨s1, s2, s3, s4, s5, s6, s7, s8⟩ := whoH_s (h := h) (a := G.jd 2) (p := jp) (n := v) (b := b)
          have S' := whoH_SX (a := G.jd 2) (p := jp) (n := v) (b := b) S
          have I' := I.who J (p := jp) (n := v) (b := b)
          have B' : Bud n c s (whoH h (G.jd 2) jp v b) G := by
            unfold Bud pot
            rw [s7]
            exact B.dn
          by_cases y1 : y < 0
          · simp only [if_neg (show ¬ 1 ≤ y by grind), if_pos y1, oN_v, oC_v, oB_v, oB2_v, oB3_v, oB4_v, oK3_v, oK4_v, oL_v]
            exact ⟨_, _, rfl, rfl, G, z, I', B'⟩
          · simp only [if_pos (show 1 ≤ y by grind), if_neg y1]
            by_cases y2 : y = 1
            · subst y2
              simp only [if_true, oN_v, oC_v, oB_v, oB2_v, oB3_v, oB4_v, oK3_v, oK4_v, oL_v, show ((1 : Int32) ≤ 4) by decide, r5]
              exact ⟨_, _, rfl, rfl, G, z, I', B'⟩
            · simp only [if_neg y2, oN_v, oC_v, oB_v, oB2_v, oB3_v, oB4_v, oK3_v, oK4_v, oL_v, S'.rlT r rG, decide_true, s1, hc]
              obtain ⟨q, hq, eq⟩ := nI_of y1
              subst eq
              have k2 : 2 ≤ q := by
                rcases (show q = 0 ∨ q = 1 ∨ 2 ≤ q by omega) with w | w | w
                · subst w; exact absurd rfl y0
                · subst w; exact absurd rfl y2
                · exact w
              have e3 : nI q - 2 = nI (q - 2) := by
                rw [show (2 : Int32) = nI 2 from rfl, nI_sub (by omega)]
              simp only [e3]
              by_cases c1 : v ≤ q - 2
              · simp only [if_pos (nI_le (a := v) c1 (by omega)), oN_v, oC_v, oB_v, oB2_v, oB3_v, oB4_v, oK3_v, oK4_v, oL_v]
                refine ⟨_, _, rfl, ?_, G, z, I', B'⟩
                by_cases y4 : nI q ≤ 4
                · rw [if_pos y4]
                  have q4 : q ≤ 4 := (nI_leI (by omega) (by omega)).mp (show nI q ≤ nI 4 from y4)
                  have e : 3 * nI p + nI q - 2 = nI (3 * p + (q - 2)) := by
                    rw [show (3 : Int32) = nI 3 from rfl, show (2 : Int32) = nI 2 from rfl, nI_mul, nI_add, nI_sub (by omega)]
                    congr 1; omega
                  rw [e, oC_t (ix_n (show 3 * p + (q - 2) < mlen 107 by show _ < 1800; omega) (by decide)), nI_clamp (by omega), r6 _ (by omega), if_neg (by omega)]
                · rw [if_neg y4]
              · have q4 : q ≤ 4 := by omega
                have y4 : nI q ≤ 4 := nI_le (b := 4) q4 (by omega)
                have e : 3 * nI p + nI q - 2 = nI (3 * p + (q - 2)) := by
                  rw [show (3 : Int32) = nI 3 from rfl, show (2 : Int32) = nI 2 from rfl, nI_mul, nI_add, nI_sub (by omega)]
                  congr 1; omega
                have e5 : 5 + nI q - 2 = nI (5 + (q - 2)) := by
                  rw [show (5 : Int32) = nI 5 from rfl, show (2 : Int32) = nI 2 from rfl, nI_add, nI_sub (by omega)]
                  congr 1; omega
                have pv : fX6_personOf (whoH h (G.jd 2) jp v b) (G.jd 1) (nI (5 + (q - 2))) = some (nI (dg jp v b (q - 2))) := by
                  simp only [fX6_personOf, fX6_personOf_0, if_neg (nI_pos (n := 5 + (q - 2)) (by omega)), S'.jt1 J, S'.jr769 J, S'.jt2 J, S'.jn2 J, oN_v, oC_v, oB_v, oB2_v, oB3_v, oB4_v, oK3_v, oK4_v, oL_v, decide_true, if_neg (nI_ge (a := 5 + (q - 2)) (b := 8) (by omega) (by omega)), oC_t (ix_n (show 5 + (q - 2) < 8 by omega) (by omega)), nI_clamp (show 5 + (q - 2) < 2147483648 by omega), whoH_v h5 (show q - 2 < v by omega)]
                simp only [if_neg (nI_ge (a := q - 2) (b := v) (by omega) (by omega)), S'.jt0 J, S'.jr641 J, S'.jt1 J, oN_v, oC_v, oB_v, oB2_v, oB3_v, oB4_v, oK3_v, oK4_v, oL_v, decide_true, e5, pv, if_pos y4, e, oC_t (ix_n (show 3 * p + (q - 2) < mlen 107 by show _ < 1800; omega) (by decide)), nI_clamp (show 3 * p + (q - 2) < 2147483648 by omega), r6 _ (show q - 2 < 3 by omega), if_pos (show q - 2 < v by omega)]
                exact ⟨_, _, rfl, rfl, G, z, I', B'⟩
