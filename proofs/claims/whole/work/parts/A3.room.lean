def Gh.wR (G : Gh) (kd st vl : Nat) (ow : Nat → Nat) : Gh := Gh.mk G.tk G.wk kd st vl G.pg G.rl G.ca G.hd G.cd G.nr G.nc G.te G.nt G.jj G.jd ow
theorem SX.src {h : PH} {G : Gh} (S : SX h G) (x : Option Nat) : SX (sR h 1285 24 x) G := by
  have zz := S.zz
  have hR' : ∀ f a, f ≠ 1285 → hR (sR h 1285 24 x) f a = hR h f a := fun f a hf => by
    simp only [z_hI_sI, z_hL_sI, z_hR_sI, z_hA_sI, z_hB_sI, z_hC_sI, z_hT_sI, z_hN_sI, z_hZ_sI, z_hI_sL, z_hL_sL, z_hR_sL, z_hA_sL, z_hB_sL, z_hC_sL, z_hT_sL, z_hN_sL, z_hZ_sL, z_hI_sR, z_hL_sR, z_hR_sR, z_hA_sR, z_hB_sR, z_hC_sR, z_hT_sR, z_hN_sR, z_hZ_sR, z_hI_sA, z_hL_sA, z_hR_sA, z_hA_sA, z_hB_sA, z_hC_sA, z_hT_sA, z_hN_sA, z_hZ_sA, z_hI_sB, z_hL_sB, z_hR_sB, z_hA_sB, z_hB_sB, z_hC_sB, z_hT_sB, z_hN_sB, z_hZ_sB, z_hI_sC, z_hL_sC, z_hR_sC, z_hA_sC, z_hB_sC, z_hC_sC, z_hT_sC, z_hN_sC, z_hZ_sC, z_hI_sY, z_hL_sY, z_hR_sY, z_hA_sY, z_hB_sY, z_hC_sY, z_hT_sY, z_hN_sY, z_hZ_sY, z_hI_nO, z_hL_nO, z_hR_nO, z_hA_nO, z_hB_nO, z_hC_nO, z_hT_nO, z_hN_nO, z_hZ_nO, z_hI_nA, z_hL_nA, z_hR_nA, z_hA_nA, z_hB_nA, z_hC_nA, z_hT_nA, z_hN_nA, z_hZ_nA]
    rw [if_neg (fun q => hf q.1)]
  have q : ∀ f a, a < hZ h → fS f → hR (sR h 1285 24 x) f a = hR h f a := fun f a _ hf => hR' f a (by unfold fS at hf; omega)
  exact SX'.mk (SS'.step S.ss (fun _ _ => rfl) (fun _ _ => rfl) (fun _ _ => rfl) q (Nat.le_refl _) S.fr) (RU'.step S.ru S.fr zz (fun _ _ => rfl) (fun _ _ => rfl) (fun _ _ => rfl) q (fun _ _ _ _ => rfl)) (TE'.step (SX'.te (G := G) S) S.fr (fun _ _ => rfl) (fun _ _ => rfl) (fun _ _ => rfl) q (fun _ _ => rfl)) (JU'.step S.ju S.fr (fun _ _ => rfl) (fun _ _ => rfl) (fun _ _ => rfl) q (hR' _ _ (by omega)) (fun f hf a _ => hR' f a (by omega)) (fun _ _ _ _ => rfl)) (P6.step (SX'.tk (G := G) S) (by omega) S.fr (fun _ _ => rfl) (fun _ _ => rfl) (hR' _ _ (by omega))) (P6.step (SX'.wk (G := G) S) (by omega) S.fr (fun _ _ => rfl) (fun _ _ => rfl) (hR' _ _ (by omega))) (P6.step (SX'.pg (G := G) S) (by omega) S.fr (fun _ _ => rfl) (fun _ _ => rfl) (hR' _ _ (by omega))) (P6.step (SX'.kd (G := G) S) (by omega) S.fr (fun _ _ => rfl) (fun _ _ => rfl) (hR' _ _ (by omega))) (P6.step (SX'.st (G := G) S) (by omega) S.fr (fun _ _ => rfl) (fun _ _ => rfl) (hR' _ _ (by omega))) (P6.step (SX'.vl (G := G) S) (by omega) S.fr (fun _ _ => rfl) (fun _ _ => rfl) (hR' _ _ (by omega)))
theorem Iv.src {h : PH} {u : MS} {G : Gh} {z : Sz} (I : Iv h u G z) (x : Option Nat) : Iv (sR h 1285 24 x) u G z := Iv.mk (I.sx.src x) I.zo I.zc I.zk I.zm I.kr I.rm I.tp I.ou I.dy I.nu I.te I.pl I.ju
/-- new rows for the tokens -/
def rmH (h : PH) (n : Nat) : PH := sR (nA (sR (nA (sR (nA h 101 n) 1281 24 (some (hZ h))) 101 n) 1282 24 (some (hZ h + 1))) 102 n) 1283 24 (some (hZ h + 2))
def rmO (h : PH) (G : Gh) : Nat → Nat := upO (upO (upO G.ow (hZ h) 700101) (hZ h + 1) 700102) (hZ h + 2) 700103
theorem rmH_T (h : PH) (n a : Nat) : hT (rmH h n) a = if a = hZ h + 2 then 102 else if a = hZ h + 1 then 101 else if a = hZ h then 101 else hT h a := rfl
theorem rmH_N (h : PH) (n a : Nat) : hN (rmH h n) a = if a = hZ h + 2 then n else if a = hZ h + 1 then n else if a = hZ h then n else hN h a := rfl
theorem rmH_A (h : PH) (n a i : Nat) : hA (rmH h n) a i = if a = hZ h + 2 then 0 else if a = hZ h + 1 then 0 else if a = hZ h then 0 else hA h a i := rfl
theorem rmH_B (h : PH) (n a i : Nat) : hB (rmH h n) a i = if a = hZ h + 2 then 0 else if a = hZ h + 1 then 0 else if a = hZ h then 0 else hB h a i := rfl
theorem rmH_C (h : PH) (n a i : Nat) : hC (rmH h n) a i = if a = hZ h + 2 then none else if a = hZ h + 1 then none else if a = hZ h then none else hC h a i := rfl
theorem rmH_R (h : PH) (n f a : Nat) : hR (rmH h n) f a = if f = 1283 ∧ a = 24 then some (hZ h + 2) else if f = 1282 ∧ a = 24 then some (hZ h + 1) else if f = 1281 ∧ a = 24 then some (hZ h) else hR h f a := rfl
theorem Iv.room {h : PH} {u : MS} {G : Gh} {z : Sz} (I : Iv h u G z) {n : Nat} (hn : n ≤ 1201) : Iv (rmH h n) u (G.wR (hZ h) (hZ h + 1) (hZ h + 2) (rmO h G)) z := by
  have S := I.sx
  have zz := S.zz
  have hT' : ∀ a, a < hZ h → hT (rmH h n) a = hT h a := fun a ha => by
    rw [rmH_T, if_neg (by omega), if_neg (by omega), if_neg (by omega)]
  have hN' : ∀ a, a < hZ h → hN (rmH h n) a = hN h a := fun a ha => by
    rw [rmH_N, if_neg (by omega), if_neg (by omega), if_neg (by omega)]
  have ho : ∀ a, a < hZ h → rmO h G a = G.ow a := fun a ha => by
    unfold rmO
    rw [upO_n (by omega), upO_n (by omega), upO_n (by omega)]
  have hR0 : ∀ f a, f ≠ 1281 → f ≠ 1282 → f ≠ 1283 → hR (rmH h n) f a = hR h f a := fun f a h1 h2 h3 => by
    rw [rmH_R, if_neg (fun q => h3 q.1), if_neg (fun q => h2 q.1), if_neg (fun q => h1 q.1)]
  have hR' : ∀ f a, a < hZ h → fS f → hR (rmH h n) f a = hR h f a := fun f a _ hf => by
    unfold fS at hf
    exact hR0 f a (by omega) (by omega) (by omega)
  have hC' : ∀ a i, a < hZ h → hC (rmH h n) a i = hC h a i := fun a i ha => by
    rw [rmH_C, if_neg (by omega), if_neg (by omega), if_neg (by omega)]
  have hA' : ∀ a i, a < hZ h → hA (rmH h n) a i = hA h a i := fun a i ha => by
    rw [rmH_A, if_neg (by omega), if_neg (by omega), if_neg (by omega)]
  have hB' : ∀ a i, a < hZ h → hB (rmH h n) a i = hB h a i := fun a i ha => by
    rw [rmH_B, if_neg (by omega), if_neg (by omega), if_neg (by omega)]
  have A : ∀ P : Nat → Prop, (∀ a, P a → a < hZ h) → Ag P h (rmH h n) := fun P hP a ha => ⟨fun _ => rfl, fun _ => rfl, fun i => hA' a i (hP a ha), fun i => hB' a i (hP a ha)⟩
  have fr' : ∀ i, hZ h + 3 ≤ i → hT (rmH h n) i = 0 := fun i hi => by
    rw [rmH_T, if_neg (by omega), if_neg (by omega), if_neg (by omega)]
    exact S.fr i (by omega)
  have t0 : hT (rmH h n) (hZ h) = 101 ∧ hN (rmH h n) (hZ h) = n ∧ hR (rmH h n) 1281 24 = some (hZ h) ∧ rmO h G (hZ h) = 700101 :=
    ⟨by rw [rmH_T, if_neg (by omega), if_neg (by omega), if_pos rfl], by rw [rmH_N, if_neg (by omega), if_neg (by omega), if_pos rfl], by rw [rmH_R, if_neg (by omega), if_neg (by omega), if_pos ⟨rfl, rfl⟩], by unfold rmO; rw [upO_n (by omega), upO_n (by omega), upO_s]⟩
  have t1 : hT (rmH h n) (hZ h + 1) = 101 ∧ hN (rmH h n) (hZ h + 1) = n ∧ hR (rmH h n) 1282 24 = some (hZ h + 1) ∧ rmO h G (hZ h + 1) = 700102 :=
    ⟨by rw [rmH_T, if_neg (by omega), if_pos rfl], by rw [rmH_N, if_neg (by omega), if_pos rfl], by rw [rmH_R, if_neg (by omega), if_pos ⟨rfl, rfl⟩], by unfold rmO; rw [upO_n (by omega), upO_s]⟩
  have t2 : hT (rmH h n) (hZ h + 2) = 102 ∧ hN (rmH h n) (hZ h + 2) = n ∧ hR (rmH h n) 1283 24 = some (hZ h + 2) ∧ rmO h G (hZ h + 2) = 700103 :=
    ⟨by rw [rmH_T, if_pos rfl], by rw [rmH_N, if_pos rfl], by rw [rmH_R, if_pos ⟨rfl, rfl⟩], by unfold rmO; rw [upO_s]⟩
  have jl : ∀ J : G.jj = true, ∀ a, jP G a → a < hZ h := fun J a ha => (jP_gr J S ha).1
  exact Iv.mk
    (sx_ := SX'.mk
      (ss_ := SS'.step S.ss hT' hN' ho hR' (show hZ h ≤ hZ h + 3 by omega) fr')
      (ru_ := RU'.step S.ru S.fr zz hT' hN' ho hR' (fun a i ha _ => hC' a i ha))
      (te_ := TE'.step (SX'.te (G := G) S) S.fr hT' hN' ho hR' (fun i _ => hC' 31 i (by omega)))
      (ju_ := JU'.step S.ju S.fr hT' hN' ho hR' (hR0 _ _ (by omega) (by omega) (by omega)) (fun f hf a _ => hR0 f a (by omega) (by omega) (by omega)) (fun a i ha _ => hC' a i ha))
      (tk_ := P6.step (SX'.tk (G := G) S) (by omega) S.fr hT' ho (hR0 _ _ (by omega) (by omega) (by omega)))
      (wk_ := P6.step (SX'.wk (G := G) S) (by omega) S.fr hT' ho (hR0 _ _ (by omega) (by omega) (by omega)))
      (pg_ := P6.step (SX'.pg (G := G) S) (by omega) S.fr hT' ho (hR0 _ _ (by omega) (by omega) (by omega)))
      (kd_ := ⟨t0.2.2.1, t0.1, t0.2.2.2⟩)
      (st_ := ⟨t1.2.2.1, t1.1, t1.2.2.2⟩)
      (vl_ := ⟨t2.2.2.1, t2.1, t2.2.2.2⟩))
    (zo_ := I.zo)
    (zc_ := I.zc)
    (zk_ := I.zk)
    (zm_ := I.zm)
    (kr_ := KR.cg (G := G) rfl rfl rfl rfl rfl rfl (I.kr.fr S (A _ (fun a ha => ha.1)) (MAg.refl u)))
    (rm_ := by
      have K := I.rm
      have n4 := hN' G.pg (S.lt S.tpg (by omega))
      exact ⟨t1.2.1.trans t0.2.1.symm, t2.2.1.trans t0.2.1.symm, by show hN (rmH h n) (hZ h) ≤ 1201; rw [t0.2.1]; exact hn, by show _ ≤ hN (rmH h n) G.pg; rw [n4]; exact K.p1, by show _ ≤ hN (rmH h n) G.pg; rw [n4]; exact K.p2, by show hN (rmH h n) G.pg ≤ _; rw [n4]; exact K.p3, K.p4, K.p5, fun i hi => (hB' 25 i (by omega)).trans (K.kc i hi), K.km⟩)
    (tp_ := TpR.cg (G := G) rfl (I.tp.fr (h := h) (u := u) (hN' _ (S.lt S.ttk (by omega))) rfl (fun i => hA' _ i (S.lt S.ttk (by omega))) rfl (fun _ => rfl)))
    (ou_ := OuR.cg (G := G) rfl (I.ou.fr (h := h) (u := u) (hN' _ (S.lt S.twk (by omega))) rfl (fun i => hA' _ i (S.lt S.twk (by omega))) rfl (fun _ => rfl)))
    (dy_ := I.dy)
    (nu_ := I.nu.fr (h := h) (u := u) (fun i => hA' 17 i (by omega)) (fun _ => rfl))
    (te_ := TeR.cg (G := G) rfl rfl (I.te.fr S rfl (A _ (fun a ha => ha.1)) (MAg.refl u) (fun _ _ => rfl)))
    (pl_ := I.pl)
    (ju_ := by
      refine IvJ.cg (G := G) rfl rfl ?_
      have K := I.ju
      unfold IvJ at *
      rcases K with K | ⟨J, k, js, a, b', c, K⟩
      · exact .inl K
      · have n15 := hN' (G.jd 15) (jd_lt J S 15 (by omega))
        have n16 := hN' (G.jd 16) (jd_lt J S 16 (by omega))
        have n17 := hN' (G.jd 17) (jd_lt J S 17 (by omega))
        refine .inr ⟨J, k, ⟨fun p hp => (hA' _ _ (jd_lt J S 2 (by omega))).trans (js.wh p hp), by rw [n15, n16]; exact js.k1, by rw [n15, n17]; exact js.k2, by rw [n15]; exact js.k3, by rw [n15]; exact js.k4, fun i => by rw [hA' _ _ (jd_lt J S 17 (by omega))]; exact js.bt i⟩, a, b', c, K.fr (A _ (jl J)) (MAg.refl u) (fun _ _ => rfl) (fun _ _ => rfl)⟩)
theorem makeRoom_v {h : PH} {G : Gh} {n : Nat} (S : SX h G) (h1 : 1 ≤ n) (hn : n ≤ 1201) (hk : hN h G.kd ≤ 1201) : (n ≤ hN h G.kd ∧ fX10_makeRoom h 24 (nI n) = some (h, 0, 0)) ∨ (¬ n ≤ hN h G.kd ∧ fX10_makeRoom h 24 (nI n) = some (rmH h n, 3, n + (n + n))) := by
  have c1 : (0 ≤ nI n) = True := eq_true (nI_pos' (by omega))
  have c2 : (n * 8 ≤ 536870912) = True := eq_true (by omega)
  by_cases c : n ≤ hN h G.kd
  · refine .inl ⟨c, ?_⟩
    simp only [fX10_makeRoom, fX10_makeRoom_0, S.t0, S.t1, S.t3, S.t5, S.t6, S.t8, S.t10, S.t12, S.t14, S.t23, S.t24, S.t7, S.t9, S.t11, S.t13, S.t15, S.t16, S.t17, S.t18, S.t19, S.t20, S.t21, S.t25, S.t29, S.t30, S.t31, S.n7, S.n9, S.n11, S.n13, S.n15, S.n16, S.n17, S.n18, S.n19, S.n20, S.n21, S.n25, S.n29, S.n30, S.n31, S.r1408_0, S.r1409_0, S.r1410_0, S.r1411_0, S.r1412_0, S.r128_5, S.r129_5, S.r130_5, S.r131_5, S.r132_5, S.r133_5, S.r134_5, S.r135_5, S.r136_5, S.r137_5, S.r138_5, S.r512_23, S.r513_23, S.r514_23, S.r515_23, S.r896_6, S.r896_8, S.r896_10, S.r896_12, S.r896_14, S.r1280_24, S.r0_1, S.ttk, S.otk, S.r0_3, S.twk, S.owk, S.r141_5, S.tpg, S.opg, S.r1281_24, S.tkd, S.okd, S.r1282_24, S.tst, S.ost, S.r1283_24, S.tvl, S.ovl, S.o0, S.o1, S.o3, S.o31, S.o5, S.o6, S.o7, S.o8, S.o9, S.o10, S.o11, S.o12, S.o13, S.o14, S.o15, S.o16, S.o17, S.o18, S.o19, S.o20, S.o21, S.o23, S.o24, S.o25, S.o29, S.o30, oN_v, oC_v, oB_v, oB2_v, oB3_v, oB4_v, oK3_v, oK4_v, oL_v, if_true, if_false, and_false, false_and, and_true, true_and, and_self, decide_true, decide_false, reduceCtorEq, not_false_eq_true, not_true_eq_false, Nat.reduceEqDiff, Nat.reduceAdd, Nat.reduceMul, Nat.add_zero, Nat.zero_add, if_pos (nI_le c (show hN h G.kd < 2147483648 by omega))]
  · refine .inr ⟨c, ?_⟩
    simp only [fX10_makeRoom, fX10_makeRoom_0, S.t0, S.t1, S.t3, S.t5, S.t6, S.t8, S.t10, S.t12, S.t14, S.t23, S.t24, S.t7, S.t9, S.t11, S.t13, S.t15, S.t16, S.t17, S.t18, S.t19, S.t20, S.t21, S.t25, S.t29, S.t30, S.t31, S.n7, S.n9, S.n11, S.n13, S.n15, S.n16, S.n17, S.n18, S.n19, S.n20, S.n21, S.n25, S.n29, S.n30, S.n31, S.r1408_0, S.r1409_0, S.r1410_0, S.r1411_0, S.r1412_0, S.r128_5, S.r129_5, S.r130_5, S.r131_5, S.r132_5, S.r133_5, S.r134_5, S.r135_5, S.r136_5, S.r137_5, S.r138_5, S.r512_23, S.r513_23, S.r514_23, S.r515_23, S.r896_6, S.r896_8, S.r896_10, S.r896_12, S.r896_14, S.r1280_24, S.r0_1, S.ttk, S.otk, S.r0_3, S.twk, S.owk, S.r141_5, S.tpg, S.opg, S.r1281_24, S.tkd, S.okd, S.r1282_24, S.tst, S.ost, S.r1283_24, S.tvl, S.ovl, S.o0, S.o1, S.o3, S.o31, S.o5, S.o6, S.o7, S.o8, S.o9, S.o10, S.o11, S.o12, S.o13, S.o14, S.o15, S.o16, S.o17, S.o18, S.o19, S.o20, S.o21, S.o23, S.o24, S.o25, S.o29, S.o30, oN_v, oC_v, oB_v, oB2_v, oB3_v, oB4_v, oK3_v, oK4_v, oL_v, if_true, if_false, and_false, false_and, and_true, true_and, and_self, decide_true, decide_false, reduceCtorEq, not_false_eq_true, not_true_eq_false, Nat.reduceEqDiff, Nat.reduceAdd, Nat.reduceMul, Nat.add_zero, Nat.zero_add, if_neg (nI_ge (show hN h G.kd < n by omega) (show n < 2147483648 by omega)), c1, nI_clamp (show n < 2147483648 by omega), c2, rmH, z_hZ_nA, z_hZ_sR, Nat.add_assoc]
