-- needs: 63 70 71 72 73 74 75 76 77 78 79 80 82
/-- the reference's tape: l bytes behind the first L -/
def MT (u : MS) (u' : MS) (L : Nat) (l : List Int32) : Prop := (mI u' 2 = nI (L + l.length)) ∧ (∀ i, i < L + l.length → mA u' 1 i = if i < L then mA u 1 i else by8 (l.getD (i - L) 0)) ∧ (MAg (fun k => k ≠ 1 ∧ k ≠ 2) u u')
theorem MT.le {u : MS} {u' : MS} {L : Nat} {l : List Int32} (X_ : MT u u' L l) : mI u' 2 = nI (L + l.length) := X_.1
theorem MT.da {u : MS} {u' : MS} {L : Nat} {l : List Int32} (X_ : MT u u' L l) : ∀ i, i < L + l.length → mA u' 1 i = if i < L then mA u 1 i else by8 (l.getD (i - L) 0) := X_.2.1
theorem MT.ag {u : MS} {u' : MS} {L : Nat} {l : List Int32} (X_ : MT u u' L l) : MAg (fun k => k ≠ 1 ∧ k ≠ 2) u u' := X_.2.2
theorem MT.mk {u : MS} {u' : MS} {L : Nat} {l : List Int32} (le_ : mI u' 2 = nI (L + l.length)) (da_ : ∀ i, i < L + l.length → mA u' 1 i = if i < L then mA u 1 i else by8 (l.getD (i - L) 0)) (ag_ : MAg (fun k => k ≠ 1 ∧ k ≠ 2) u u') : MT u u' L l := ⟨le_, da_, ag_⟩
theorem MT.trans {u u1 u2 : MS} {L : Nat} {l1 l2 : List Int32} (X : MT u u1 L l1) (Y : MT u1 u2 (L + l1.length) l2) : MT u u2 L (l1 ++ l2) := by
  apply MT.mk
  · have := Y.le
    rw [List.length_append, ← Nat.add_assoc]
    exact this
  · intro i hi
    rw [List.length_append] at hi
    rw [Y.da i (by omega)]
    by_cases c : i < L + l1.length
    · rw [if_pos c, X.da i c]
      by_cases c2 : i < L
      · rw [if_pos c2, if_pos c2]
      · rw [if_neg c2, if_neg c2, gd_l (by omega)]
    · rw [if_neg c, if_neg (by omega), gd_r (by omega)]
      congr 2
      omega
  · exact X.ag.trans Y.ag
theorem put1 {u : MS} {L : Nat} (h : mI u 2 = nI L) (x : Int32) : MT u (mSI (mSA u 1 L (by8 x)) 2 (nI (L + 1))) L [x] := by
  apply MT.mk
  · simp only [z_mI_mSI, z_mL_mSI, z_mA_mSI, z_mB_mSI, z_mI_mSL, z_mL_mSL, z_mA_mSL, z_mB_mSL, z_mI_mSA, z_mL_mSA, z_mA_mSA, z_mB_mSA, z_mI_mSB, z_mL_mSB, z_mA_mSB, z_mB_mSB, if_true, if_false, and_false, false_and, and_true, true_and, and_self, decide_true, decide_false, reduceCtorEq, not_false_eq_true, not_true_eq_false, Nat.reduceEqDiff, Nat.reduceAdd, Nat.reduceMul, Nat.add_zero, Nat.zero_add, List.length_singleton]
  · intro i hi
    simp only [z_mI_mSI, z_mL_mSI, z_mA_mSI, z_mB_mSI, z_mI_mSL, z_mL_mSL, z_mA_mSL, z_mB_mSL, z_mI_mSA, z_mL_mSA, z_mA_mSA, z_mB_mSA, z_mI_mSB, z_mL_mSB, z_mA_mSB, z_mB_mSB, if_true, if_false, and_false, false_and, and_true, true_and, and_self, decide_true, decide_false, reduceCtorEq, not_false_eq_true, not_true_eq_false, Nat.reduceEqDiff, Nat.reduceAdd, Nat.reduceMul, Nat.add_zero, Nat.zero_add]
    by_cases c : i = L
    · rw [if_pos c, if_neg (by omega), c, Nat.sub_self]; rfl
    · rw [if_neg c, if_pos (by simp only [List.length_singleton] at hi; omega)]
  · exact ((MAg.refl u).sA (by omega)).sI (by omega)
theorem put_v {u : MS} {L : Nat} (h : mI u 2 = nI L) (hL : L + 4 ≤ 4000) (x : Int32) : ∃ u', fX12_put u x = some u' ∧ MT u u' L [x >>> 24, x >>> 16, x >>> 8, x] := by
  obtain ⟨m, hm⟩ : ∃ m, FU = m + 5 := ⟨99995, rfl⟩
  have W1 := put1 h (x >>> 24)
  have W2 := put1 W1.le (x >>> 16)
  have W3 := put1 W2.le (x >>> 8)
  have W4 := put1 W3.le x
  refine ⟨_, ?_, ((W1.trans W2).trans W3).trans W4⟩
  unfold fX12_put fX12_put_0
  rw [hm]
  have st : ∀ (u1 : MS) (n q : Nat) (y y' w : Int32), mI u1 2 = nI q → q < 4000 → ¬ y < 0 → y + -8 = y' → x >>> (y &&& 31) = w → fX12_put_3 (n + 1) u1 x y = fX12_put_3 n (mSI (mSA u1 1 q (by8 w)) 2 (nI (q + 1))) x y' := by
    intro u1 n q y y' w h1 h2 h3 h4 h5
    rw [← h5, ← h4]
    simp only [fX12_put_3, fX12_put_3F, if_neg h3, h1, oC_t (ix_n (show q < mlen 1 from h2) (by decide)), oN_v, oC_v, oB_v, oB2_v, oB3_v, oB4_v, oK3_v, oK4_v, oL_v, z_mI_mSI, z_mL_mSI, z_mA_mSI, z_mB_mSI, z_mI_mSL, z_mL_mSL, z_mA_mSL, z_mB_mSL, z_mI_mSA, z_mL_mSA, z_mA_mSA, z_mB_mSA, z_mI_mSB, z_mL_mSB, z_mA_mSB, z_mB_mSB, if_true, if_false, and_false, false_and, and_true, true_and, and_self, decide_true, decide_false, reduceCtorEq, not_false_eq_true, not_true_eq_false, Nat.reduceEqDiff, Nat.reduceAdd, Nat.reduceMul, Nat.add_zero, Nat.zero_add, nI_clamp (show q < 2147483648 by omega), nI_1]
    rfl
  exact (st u _ L 24 16 (x >>> 24) h (by omega) (by decide) (by decide) rfl).trans ((st _ _ (L + 1) 16 8 (x >>> 16) W1.le (by omega) (by decide) (by decide) rfl).trans ((st _ _ (L + 1 + 1) 8 0 (x >>> 8) W2.le (by omega) (by decide) (by decide) rfl).trans ((st _ _ (L + 1 + 1 + 1) 0 (-8) x W3.le (by omega) (by decide) (by decide) (by rw [show ((0 : Int32) &&& 31) = 0 by decide]; simp)).trans rfl)))
theorem feed_x {h : PH} {a k L : Nat} (B : BS h a k L) (x1 x2 x3 x4 x5 : Int32) (hL : L ≤ 3980) : ∃ h1 h2 h3 h4 h5 k5 i1 j1 i2 j2 i3 j3 i4 j4 i5 j5, fX0_addWord h a x1 = some (h1, i1, j1) ∧ fX0_addWord h1 a x2 = some (h2, i2, j2) ∧ fX0_addWord h2 a x3 = some (h3, i3, j3) ∧ fX0_addWord h3 a x4 = some (h4, i4, j4) ∧ fX0_addWord h4 a x5 = some (h5, i5, j5) ∧ BW h h5 a k k5 L ([x1 >>> 24, x1 >>> 16, x1 >>> 8, x1] ++ [x2 >>> 24, x2 >>> 16, x2 >>> 8, x2] ++ [x3 >>> 24, x3 >>> 16, x3 >>> 8, x3] ++ [x4 >>> 24, x4 >>> 16, x4 >>> 8, x4] ++ [x5 >>> 24, x5 >>> 16, x5 >>> 8, x5]) (i1 + i2 + i3 + i4 + i5) (j1 + j2 + j3 + j4 + j5) ∧ (∀ q, q = h1 ∨ q = h2 ∨ q = h3 ∨ q = h4 ∨ q = h5 → (∀ b, b < hZ h → hT q b = hT h b) ∧ ∀ f b, b < hZ h → ¬ (f = 0 ∧ b = a) → hR q f b = hR h f b) := by
  have lta : a < hZ h := lt_T B.fr B.ta (by omega)
  have ltk : k < hZ h := lt_T B.fr B.tk (by omega)
  have nak : a ≠ k := fun q => by have := B.ta; rw [q, B.tk] at this; omega
  obtain ⟨h1, k1, i1, j1, e1, W1⟩ := addWord_v B x1 (by omega)
  obtain ⟨h2, k2, i2, j2, e2, W2⟩ := addWord_v W1.bs x2 (by simp only [List.length_cons, List.length_nil]; omega)
  have V2 := W1.trans nak lta ltk W2
  obtain ⟨h3, k3, i3, j3, e3, W3⟩ := addWord_v V2.bs x3 (by simp only [List.length_append, List.length_cons, List.length_nil]; omega)
  have V3 := V2.trans nak lta ltk W3
  obtain ⟨h4, k4, i4, j4, e4, W4⟩ := addWord_v V3.bs x4 (by simp only [List.length_append, List.length_cons, List.length_nil]; omega)
  have V4 := V3.trans nak lta ltk W4
  obtain ⟨h5, k5, i5, j5, e5, W5⟩ := addWord_v V4.bs x5 (by simp only [List.length_append, List.length_cons, List.length_nil]; omega)
  have V5 := V4.trans nak lta ltk W5
  refine ⟨h1, h2, h3, h4, h5, k5, i1, j1, i2, j2, i3, j3, i4, j4, i5, j5, e1, e2, e3, e4, e5, V5, ?_⟩
  rintro q (rfl | rfl | rfl | rfl | rfl)
  · exact ⟨W1.T, W1.R⟩
  · exact ⟨V2.T, V2.R⟩
  · exact ⟨V3.T, V3.R⟩
  · exact ⟨V4.T, V4.R⟩
  · exact ⟨V5.T, V5.R⟩
theorem feed_m {u : MS} {L : Nat} (h : mI u 2 = nI L) (hL : L ≤ 3980) (x1 x2 x3 x4 x5 : Int32) : ∃ u', fX12_feed u x1 x2 x3 x4 x5 = some (u', nI (L + 20)) ∧ MT u u' L ([x1 >>> 24, x1 >>> 16, x1 >>> 8, x1] ++ [x2 >>> 24, x2 >>> 16, x2 >>> 8, x2] ++ [x3 >>> 24, x3 >>> 16, x3 >>> 8, x3] ++ [x4 >>> 24, x4 >>> 16, x4 >>> 8, x4] ++ [x5 >>> 24, x5 >>> 16, x5 >>> 8, x5]) := by
  obtain ⟨u1, e1, W1⟩ := put_v h (by omega) x1
  obtain ⟨u2, e2, W2⟩ := put_v W1.le (by simp only [List.length_cons, List.length_nil]; omega) x2
  have V2 := W1.trans W2
  obtain ⟨u3, e3, W3⟩ := put_v V2.le (by simp only [List.length_append, List.length_cons, List.length_nil]; omega) x3
  have V3 := V2.trans W3
  obtain ⟨u4, e4, W4⟩ := put_v V3.le (by simp only [List.length_append, List.length_cons, List.length_nil]; omega) x4
  have V4 := V3.trans W4
  obtain ⟨u5, e5, W5⟩ := put_v V4.le (by simp only [List.length_append, List.length_cons, List.length_nil]; omega) x5
  have V5 := V4.trans W5
  refine ⟨u5, ?_, V5⟩
  have q : nI L + 20 ≤ 4000 := by
    rw [show nI L + 20 = nI (L + 20) from nI_add L 20]
    exact nI_le (b := 4000) (by omega) (by omega)
  simp only [fX12_feed, fX12_feed_0, h, if_pos q, e1, e2, e3, e4, e5, oN_v, oC_v, oB_v, oB2_v, oB3_v, oB4_v, oK3_v, oK4_v, oL_v, V5.le, List.length_append, List.length_cons, List.length_nil]
theorem upO_eq {ow : Nat → Nat} {a v x : Nat} (h : x = a → ow a = v) : upO ow a v x = ow x := by
  unfold upO
  split
  · rename_i e; rw [e, h e]
  · rfl
theorem Iv.tape {h h' : PH} {u u' : MS} {G : Gh} {z : Sz} {k' L i j : Nat} {l : List Int32} (I : Iv h u G z) (hL4 : L + l.length ≤ 4000) (hl : hI h 1 1 = nI L) (W : BW h h' 1 G.tk k' L l i j) (M : MT u u' L l) : Iv h' u' (G.wK k' G.wk (upO G.ow k' 100002)) z := by
  have S := I.sx
  have zz := S.zz
  have ltk := S.lt S.ttk (by omega)
  obtain ⟨L', l1, l2, l3, l4, l5⟩ := I.tp.ex
  have eL : L' = L := (nI_eq (by omega) (by omega)).mp (l3.symm.trans hl)
  subst eL
  have ho : ∀ a, a < hZ h → upO G.ow k' 100002 a = G.ow a := fun a ha => upO_eq fun e => by
    subst e
    rcases W.kk with q | q
    · rw [q]; exact S.otk
    · omega
  have hR' : ∀ f a, a < hZ h → ¬ (f = 0 ∧ a = 1) → hR h' f a = hR h f a := W.R
  have A : ∀ n, n ≠ 1 → Ag (gr (hZ h) G n) h h' := fun n hn => W.ag.mono fun a ha => ⟨ha.1, fun q => by rw [q] at ha; have := ha.2; rw [S.o1] at this; omega, fun q => by rw [q] at ha; have := ha.2; rw [S.otk] at this; omega⟩
  have ag : ∀ a x, a < hZ h → G.ow a = x → x ≠ 100001 → x ≠ 100002 → (∀ f, hI h' f a = hI h f a) ∧ (∀ f, hL h' f a = hL h f a) ∧ (∀ i, hA h' a i = hA h a i) ∧ ∀ i, hB h' a i = hB h a i := fun a x ha ho h1 h2 => W.ag a ⟨ha, ne_ow ho S.o1 h1, ne_ow ho S.otk h2⟩
  have i0 := (ag 0 _ (by omega) S.o0 (by omega) (by omega)).1
  have i5 := (ag 5 _ (by omega) S.o5 (by omega) (by omega)).1
  have i6 := (ag 6 _ (by omega) S.o6 (by omega) (by omega)).1
  have i8 := (ag 8 _ (by omega) S.o8 (by omega) (by omega)).1
  have i10 := (ag 10 _ (by omega) S.o10 (by omega) (by omega)).1
  have i12 := (ag 12 _ (by omega) S.o12 (by omega) (by omega)).1
  have i14 := (ag 14 _ (by omega) S.o14 (by omega) (by omega)).1
  have mi : ∀ k, k ≠ 1 ∧ k ≠ 2 → mI u' k = mI u k := fun k hk => (M.ag k hk).1
  have ma : ∀ k, k ≠ 1 ∧ k ≠ 2 → ∀ i, mA u' k i = mA u k i := fun k hk => (M.ag k hk).2.2.1
  have nj : ∀ J : G.jj = true, ∀ a, a < 21 → hN h' (G.jd a) = hN h (G.jd a) := fun J a ha => W.N _ (jd_lt J S a ha)
  exact Iv.mk
    (sx_ := SX'.mk
      (ss_ := SS'.step S.ss W.T W.N ho (fun f' a ha hf => hR' f' a ha (fun q => hf.1 q.1)) W.hz W.bs.fr)
      (ru_ := RU'.step S.ru S.fr zz W.T W.N ho (fun f' a ha hf => hR' f' a ha (fun q => hf.1 q.1)) (fun a i ha _ => W.C a i ha))
      (te_ := TE'.step (SX'.te (G := G) S) S.fr W.T W.N ho (fun f' a ha hf => hR' f' a ha (fun q => hf.1 q.1)) (fun i _ => W.C 31 i (by omega)))
      (ju_ := JU'.step S.ju S.fr W.T W.N ho (fun f' a ha hf => hR' f' a ha (fun q => hf.1 q.1)) (hR' _ _ (by omega) (by omega)) (fun f' hf a ha => hR' f' a ha (by omega)) (fun a i ha _ => W.C a i ha))
      (tk_ := ⟨W.bs.rk, W.bs.tk, upO_s⟩)
      (wk_ := P6.step (SX'.wk (G := G) S) (by omega) S.fr W.T ho (hR' _ _ (by omega) (by omega)))
      (kd_ := P6.step (SX'.kd (G := G) S) (by omega) S.fr W.T ho (hR' _ _ (by omega) (by omega)))
      (st_ := P6.step (SX'.st (G := G) S) (by omega) S.fr W.T ho (hR' _ _ (by omega) (by omega)))
      (vl_ := P6.step (SX'.vl (G := G) S) (by omega) S.fr W.T ho (hR' _ _ (by omega) (by omega)))
      (pg_ := P6.step (SX'.pg (G := G) S) (by omega) S.fr W.T ho (hR' _ _ (by omega) (by omega))))
    (zo_ := I.zo)
    (zc_ := by
      have := I.zc
      unfold SzC at *
      simp only [i5, i6, i8, i10, i12, i14]
      exact this)
    (zk_ := by
      have := I.zk
      unfold SzK at *
      simp only [i5, i6, i8, i10, i12, i14]
      exact this)
    (zm_ := by
      have := I.zm
      unfold SzM at *
      simp only [mi 18 (by omega), mi 19 (by omega), mi 20 (by omega), mi 21 (by omega), mi 22 (by omega), mi 23 (by omega), mi 24 (by omega)]
      exact this)
    (kr_ := KR.cg (G := G) rfl rfl rfl rfl rfl rfl (I.kr.fr S (A 3 (by omega)) (M.ag.mono fun k hk => by unfold kS at hk; omega)))
    (rm_ := by
      have K := I.rm
      have n1 := W.N G.kd (S.lt S.tkd (by omega))
      have n2 := W.N G.st (S.lt S.tst (by omega))
      have n3 := W.N G.vl (S.lt S.tvl (by omega))
      have n4 := W.N G.pg (S.lt S.tpg (by omega))
      have e25 := (ag 25 _ (by omega) S.o25 (by omega) (by omega)).2.2.2
      exact ⟨n2.trans (K.k1.trans n1.symm), n3.trans (K.k2.trans n1.symm), by show hN h' G.kd ≤ 1201; rw [n1]; exact K.k3, by show _ ≤ hN h' G.pg; rw [n4]; exact K.p1, by show _ ≤ hN h' G.pg; rw [n4]; exact K.p2, by show hN h' G.pg ≤ _; rw [n4]; exact K.p3, K.p4, K.p5, fun i hi => (e25 i).trans (K.kc i hi), fun i hi => ((M.ag 9 (by omega)).2.2.2 i).trans (K.km i hi)⟩)
    (tp_ := by
      refine ⟨⟨L' + l.length, hL4, ?_, W.bs.le, M.le, ?_⟩, W.bs.bt, W.bs.nk, W.bs.ok⟩
      · rcases W.bs.lk with q | q
        · exact q
        · show _ ≤ hN h' k'; omega
      · intro i hi
        show hA h' k' i = _
        rw [W.da i hi (by omega), M.da i hi]
        split
        · exact l5 i (by assumption)
        · rfl)
    (ou_ := OuR.cg (G := G) rfl (I.ou.fr (h := h) (u := u) (W.N _ (S.lt S.twk (by omega))) ((ag 3 _ (by omega) S.o3 (by omega) (by omega)).1 1) (ag G.wk _ (S.lt S.twk (by omega)) S.owk (by omega) (by omega)).2.2.1 (mi 113 (by omega)) (ma 114 (by omega))))
    (dy_ := by
      have := I.dy
      unfold DyR at *
      rw [i0, mi 72 (by omega)]
      exact this)
    (nu_ := I.nu.fr (h := h) (u := u) (ag 17 _ (by omega) S.o17 (by omega) (by omega)).2.2.1 (ma 26 (by omega)))
    (te_ := TeR.cg (G := G) rfl rfl (I.te.fr S (i0 1413) (A 4 (by omega)) (M.ag.mono fun k hk => by unfold tS at hk; omega) (fun i _ => ma 28 (by omega) i)))
    (pl_ := by rw [i0, mi 17 (by omega)]; exact I.pl)
    (ju_ := by
      refine IvJ.cg (G := G) rfl rfl ?_
      have K := I.ju
      unfold IvJ at *
      simp only [mi 96 (by omega), mi 100 (by omega), mi 101 (by omega), mi 102 (by omega), mi 103 (by omega)]
      rcases K with K | ⟨J, k, js, a, b', c, K⟩
      · exact .inl K
      · have g2 := (ag (G.jd 2) _ (jd_lt J S 2 (by omega)) (S.jo J 2 (by omega)) (by omega) (by omega)).2.2.1
        have g17 := (ag (G.jd 17) _ (jd_lt J S 17 (by omega)) (S.jo J 17 (by omega)) (by omega) (by omega)).2.2.1
        have n15 := nj J 15 (by omega)
        have n16 := nj J 16 (by omega)
        have n17 := nj J 17 (by omega)
        refine .inr ⟨J, k, ⟨fun p hp => (g2 p).trans (js.wh p hp), by rw [n15, n16]; exact js.k1, by rw [n15, n17]; exact js.k2, by rw [n15]; exact js.k3, by rw [n15]; exact js.k4, fun i => by rw [g17]; exact js.bt i⟩, a, b', c, K.fr ((A 5 (by omega)).mono fun a p => jP_gr J S p) (M.ag.mono fun k hk => by unfold jS at hk; omega) (fun i _ => ma 28 (by omega) i) (fun i _ => ma 42 (by omega) i)⟩)
theorem sp_feed : SP_feed Inv := by
  intro n c s h u x1 x2 x3 x4 x5 ⟨G, z, I, B⟩
  have S := I.sx
  have zz := S.zz
  obtain ⟨L, l1, l2, l3, l4, l5⟩ := I.tp.ex
  have e20 : nI L + 20 = nI (L + 20) := nI_add L 20
  by_cases hL : L ≤ 3980
  · have BSt : BS h 1 G.tk L := ⟨S.t1, S.r0_1, S.ttk, l3, I.tp.hn, I.tp.ok, .inl l2, I.tp.bt, S.fr⟩
    obtain ⟨h1, h2, h3, h4, h5, k5, i1, j1, i2, j2, i3, j3, i4, j4, i5, j5, e1, e2, e3, e4, e5, W, F⟩ := feed_x BSt x1 x2 x3 x4 x5 hL
    obtain ⟨u', em, M⟩ := feed_m l4 hL x1 x2 x3 x4 x5
    have q : nI L + 20 ≤ 4000 := by rw [e20]; exact nI_le (b := 4000) (by omega) (by omega)
    have F1 := F h1 (by simp)
    have F2 := F h2 (by simp)
    have F3 := F h3 (by simp)
    have F4 := F h4 (by simp)
    have F5 := F h5 (by simp)
    have I' := I.tape (by simp only [List.length_append, List.length_cons, List.length_nil]; omega) l3 W M
    refine ⟨h5, nI (L + 20), i1 + (i2 + (i3 + (i4 + (i5 + 0)))), j1 + (j2 + (j3 + (j4 + (j5 + 0)))), u', ?_, em, _, z, I', ?_⟩
    · simp only [fX11_feed, fX11_feed_0, S.t0, S.t1, S.t3, S.t5, S.t6, S.t8, S.t10, S.t12, S.t14, S.t23, S.t24, S.t7, S.t9, S.t11, S.t13, S.t15, S.t16, S.t17, S.t18, S.t19, S.t20, S.t21, S.t25, S.t29, S.t30, S.t31, S.n7, S.n9, S.n11, S.n13, S.n15, S.n16, S.n17, S.n18, S.n19, S.n20, S.n21, S.n25, S.n29, S.n30, S.n31, S.r1408_0, S.r1409_0, S.r1410_0, S.r1411_0, S.r1412_0, S.r128_5, S.r129_5, S.r130_5, S.r131_5, S.r132_5, S.r133_5, S.r134_5, S.r135_5, S.r136_5, S.r137_5, S.r138_5, S.r512_23, S.r513_23, S.r514_23, S.r515_23, S.r896_6, S.r896_8, S.r896_10, S.r896_12, S.r896_14, S.r1280_24, S.r0_1, S.ttk, S.otk, S.r0_3, S.twk, S.owk, S.r141_5, S.tpg, S.opg, S.r1281_24, S.tkd, S.okd, S.r1282_24, S.tst, S.ost, S.r1283_24, S.tvl, S.ovl, S.o0, S.o1, S.o3, S.o31, S.o5, S.o6, S.o7, S.o8, S.o9, S.o10, S.o11, S.o12, S.o13, S.o14, S.o15, S.o16, S.o17, S.o18, S.o19, S.o20, S.o21, S.o23, S.o24, S.o25, S.o29, S.o30, l3, if_pos q, e1, e2, e3, e4, e5, F1.1 0 (by omega), F2.1 0 (by omega), F3.1 0 (by omega), F4.1 0 (by omega), F5.1 0 (by omega), F1.1 1 (by omega), F2.1 1 (by omega), F3.1 1 (by omega), F4.1 1 (by omega), F5.1 1 (by omega), F1.2 1408 0 (by omega) (by omega), F2.2 1408 0 (by omega) (by omega), F3.2 1408 0 (by omega) (by omega), F4.2 1408 0 (by omega) (by omega), F5.2 1408 0 (by omega) (by omega), oN_v, oC_v, oB_v, oB2_v, oB3_v, oB4_v, oK3_v, oK4_v, oL_v, if_true, if_false, and_false, false_and, and_true, true_and, and_self, decide_true, decide_false, reduceCtorEq, not_false_eq_true, not_true_eq_false, Nat.reduceEqDiff, Nat.reduceAdd, Nat.reduceMul, Nat.add_zero, Nat.zero_add, W.bs.le, List.length_append, List.length_cons, List.length_nil]
    · have c1 := W.c1
      have c2 := W.c2
      have nw := W.N G.wk (S.lt S.twk (by omega))
      have np := W.N G.pg (S.lt S.tpg (by omega))
      unfold Bud pot at *
      have ej : (if G.jj then 3 * hN h5 (G.jd 15) else 0) = (if G.jj then 3 * hN h (G.jd 15) else 0) := by
        cases J : G.jj
        · rfl
        · simp only [if_true]; rw [W.N _ (jd_lt J S 15 (by omega))]
      have B1 := B.1
      have B2 := B.2
      show _ ≤ _ + (hN h5 k5 + hN h5 G.wk + hN h5 G.pg + if G.jj then 3 * hN h5 (G.jd 15) else 0) ∧ _ ≤ _ + 3 * (hN h5 k5 + hN h5 G.wk + hN h5 G.pg + if G.jj then 3 * hN h5 (G.jd 15) else 0)
      rw [ej, nw, np]
      generalize (if G.jj then 3 * hN h (G.jd 15) else 0) = q at *
      omega
  · have q : ¬ nI L + 20 ≤ 4000 := by rw [e20]; exact nI_ge (b := L + 20) (a := 4000) (by omega) (by omega)
    refine ⟨h, -1, 0, 0, u, ?_, ?_, G, z, I, B.dn⟩
    · simp only [fX11_feed, fX11_feed_0, S.t0, S.t1, S.t3, S.t5, S.t6, S.t8, S.t10, S.t12, S.t14, S.t23, S.t24, S.t7, S.t9, S.t11, S.t13, S.t15, S.t16, S.t17, S.t18, S.t19, S.t20, S.t21, S.t25, S.t29, S.t30, S.t31, S.n7, S.n9, S.n11, S.n13, S.n15, S.n16, S.n17, S.n18, S.n19, S.n20, S.n21, S.n25, S.n29, S.n30, S.n31, S.r1408_0, S.r1409_0, S.r1410_0, S.r1411_0, S.r1412_0, S.r128_5, S.r129_5, S.r130_5, S.r131_5, S.r132_5, S.r133_5, S.r134_5, S.r135_5, S.r136_5, S.r137_5, S.r138_5, S.r512_23, S.r513_23, S.r514_23, S.r515_23, S.r896_6, S.r896_8, S.r896_10, S.r896_12, S.r896_14, S.r1280_24, S.r0_1, S.ttk, S.otk, S.r0_3, S.twk, S.owk, S.r141_5, S.tpg, S.opg, S.r1281_24, S.tkd, S.okd, S.r1282_24, S.tst, S.ost, S.r1283_24, S.tvl, S.ovl, S.o0, S.o1, S.o3, S.o31, S.o5, S.o6, S.o7, S.o8, S.o9, S.o10, S.o11, S.o12, S.o13, S.o14, S.o15, S.o16, S.o17, S.o18, S.o19, S.o20, S.o21, S.o23, S.o24, S.o25, S.o29, S.o30, oN_v, oC_v, oB_v, oB2_v, oB3_v, oB4_v, oK3_v, oK4_v, oL_v, if_true, if_false, and_false, false_and, and_true, true_and, and_self, decide_true, decide_false, reduceCtorEq, not_false_eq_true, not_true_eq_false, Nat.reduceEqDiff, Nat.reduceAdd, Nat.reduceMul, Nat.add_zero, Nat.zero_add, l3, if_neg q]
    · simp only [fX12_feed, fX12_feed_0, l4, if_neg q]
