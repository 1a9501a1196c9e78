/-! a rule's end -/
def Sz.wN (c : Sz) (pc rc : Nat) : Sz := Sz.mk c.np c.nw c.ns c.nl (c.nr + 1) c.no pc rc
section RE
variable {h h' : PH} {u u' : MS} {G G' : Gh} {z c : Sz} {w v v' L n t t' pc rc pc' rc' y kc k a B : Nat} {D : Nat → Nat × Nat × Nat × List Nat}
theorem Sz.leN (h1 : c.pc ≤ pc) (h2 : c.rc ≤ rc) : c.le (c.wN pc rc) := ⟨Nat.le_refl _, Nat.le_refl _, Nat.le_refl _, Nat.le_refl _, Nat.le_succ _, Nat.le_refl _, h1, h2⟩
theorem CT.wN (C : CT h u G c D t) (h1 : c.pc ≤ pc) (h2 : c.rc ≤ rc) (N : NR (hB h 15 c.nr) (mB u 38 c.nr)) (rG : c.nr + 1 ≤ G.nr) (kd : ∃ k, k ≤ 2 ∧ hI h 1025 (G.rl c.nr) = nI k ∧ mA u 40 c.nr = nI k) (ru : mI u 15 = 0 → RuR h u G (c.wN pc rc) c.nr) : CT h u G (c.wN pc rc) D t :=
  CT.mk C.pn C.wn C.sn C.ln (fun i hi => by
    by_cases q : i = c.nr
    · rw [q]; exact N
    · exact C.rn i (by have : i < c.nr + 1 := hi; omega)) rG (fun r hr => by
    by_cases q : r = c.nr
    · rw [q]; exact kd
    · exact C.kd r (by have : r < c.nr + 1 := hr; omega)) C.pl C.lw (fun e r hr => by
    by_cases q : r = c.nr
    · rw [q]; exact ru e
    · exact (C.ru e r (by have : r < c.nr + 1 := hr; omega)).mono (Sz.leN h1 h2))
theorem HdR.x {a' i : Nat} {c' : Sz} {nv nv' : Nat} (eI : ∀ f, hI h' f a' = hI h f a) (m : ∀ k, 40 ≤ k → k ≤ 50 → k ≠ 42 → k ≠ 43 → mA u' k i = mA u k i) (m28 : ∀ j, j < c.nw → mA u' 28 j = mA u 28 j) (pg : ∀ i, i < c.pc → hA h' G'.pg i = hA h G.pg i) (mp : ∀ k i, 60 ≤ k → k ≤ 62 → i < c.rc → mA u' k i = mA u k i) (l : c.le c') (hv : nv ≤ nv') (p : HdR h u G c nv a i) : HdR h' u' G' c' nv' a' i := by
  unfold HdR at *
  simp only [eI, m 40 (by omega) (by omega) (by omega) (by omega), m 44 (by omega) (by omega) (by omega) (by omega), m 45 (by omega) (by omega) (by omega) (by omega), m 46 (by omega) (by omega) (by omega) (by omega), m 47 (by omega) (by omega) (by omega) (by omega), m 48 (by omega) (by omega) (by omega) (by omega), m 49 (by omega) (by omega) (by omega) (by omega), m 50 (by omega) (by omega) (by omega) (by omega)]
  rcases p with ⟨p1, p2⟩ | ⟨p1, ⟨s, q1, q2, q3⟩, p3, p4, p5, p6, p7⟩
  · exact .inl ⟨p1, p2.x m28 l hv⟩
  · have := l.2.2.1
    exact .inr ⟨p1, ⟨s, by omega, q2, q3⟩, p3, p4, (p5.mono l).nv hv, p6, p7.x pg mp l hv⟩
theorem RX.rlk (X : RX h u G z c w v L n D t pc rc y kc k) {zz : Sz} (hz : zz.nr ≤ w) : ¬ kO G zz (G.rl w) := by
  have S := X.i.sx
  have wG := X.wG
  have r30 := S.nr30
  rintro ⟨r, hr, q⟩
  have e0 := S.rlo w wG
  rcases q with q | q | ⟨i, hi, q⟩
  · have e := S.rlo r (by omega); rw [← q, e0] at e; omega
  · have e := S.hdo r (by omega); rw [← q, e0] at e; omega
  · have e := S.cdo r (by omega) i hi; have := S.nc6 r (by omega); rw [← q, e0] at e; omega
theorem rl_o (S : SX h G) (wG : w < G.nr) : G.rl w ≠ 23 ∧ G.rl w ≠ 5 ∧ G.rl w ≠ 6 ∧ G.rl w ≠ 8 ∧ G.rl w ≠ 10 ∧ G.rl w ≠ 12 ∧ G.rl w ≠ 14 ∧ G.rl w ≠ 24 ∧ G.ow (G.rl w) / 100000 = 3 := by
  have e := S.rlo w wG
  have r30 := S.nr30
  exact ⟨ne_ow e S.o23 (by omega), ne_ow e S.o5 (by omega), ne_ow e S.o6 (by omega), ne_ow e S.o8 (by omega), ne_ow e S.o10 (by omega), ne_ow e S.o12 (by omega), ne_ow e S.o14 (by omega), ne_ow e S.o24 (by omega), by rw [e]; omega⟩
/-- the rule is told -/
theorem RX.fin (X : RX h u G z c w v L n D t pc rc y k k) (hd : mI u 15 = 0 → HdR h u G (c.wC pc rc) v (G.hd w) w) : PI (sI h 1026 (G.rl w) (nI v)) (inL (mSI u 22 (nI (w + 1))) (c.nl - 1)) G z L n D ∧ Liv (sI h 1026 (G.rl w) (nI v)) (inL (mSI u 22 (nI (w + 1))) (c.nl - 1)) D n t ∧ FL (sI h 1026 (G.rl w) (nI v)) (inL (mSI u 22 (nI (w + 1))) (c.nl - 1)) ∧ LR (sI h 1026 (G.rl w) (nI v)) (inL (mSI u 22 (nI (w + 1))) (c.nl - 1)) G z (c.wN pc rc) n D t := by
  have S := X.i.sx
  have wG := X.wG
  have w3 := X.K.w3
  have wc := X.wc
  have l1 := X.l1
  obtain ⟨q1, q2, q3⟩ := X.zs
  obtain ⟨n23, n5, n6, n8, n10, n12, n14, n24, o3⟩ := rl_o S wG
  have cI : ∀ zz : Sz, zz.nr ≤ w → CD h (sI h 1026 (G.rl w) (nI v)) G G zz := fun zz hz => CD.xI S (.inl o3) (X.rlk hz) (by omega) (by omega) (by omega) (by omega)
  have hi : ∀ f b, b ≠ G.rl w → hI (sI h 1026 (G.rl w) (nI v)) f b = hI h f b := fun f b q => by simp only [z_hI_sI, z_hL_sI, z_hR_sI, z_hA_sI, z_hB_sI, z_hC_sI, z_hT_sI, z_hN_sI, z_hZ_sI, z_hI_sL, z_hL_sL, z_hR_sL, z_hA_sL, z_hB_sL, z_hC_sL, z_hT_sL, z_hN_sL, z_hZ_sL, z_hI_sR, z_hL_sR, z_hR_sR, z_hA_sR, z_hB_sR, z_hC_sR, z_hT_sR, z_hN_sR, z_hZ_sR, z_hI_sA, z_hL_sA, z_hR_sA, z_hA_sA, z_hB_sA, z_hC_sA, z_hT_sA, z_hN_sA, z_hZ_sA, z_hI_sB, z_hL_sB, z_hR_sB, z_hA_sB, z_hB_sB, z_hC_sB, z_hT_sB, z_hN_sB, z_hZ_sB, z_hI_sC, z_hL_sC, z_hR_sC, z_hA_sC, z_hB_sC, z_hC_sC, z_hT_sC, z_hN_sC, z_hZ_sC, z_hI_sY, z_hL_sY, z_hR_sY, z_hA_sY, z_hB_sY, z_hC_sY, z_hT_sY, z_hN_sY, z_hZ_sY, z_hI_nO, z_hL_nO, z_hR_nO, z_hA_nO, z_hB_nO, z_hC_nO, z_hT_nO, z_hN_nO, z_hZ_nO, z_hI_nA, z_hL_nA, z_hR_nA, z_hA_nA, z_hB_nA, z_hC_nA, z_hT_nA, z_hN_nA, z_hZ_nA]; rw [if_neg (fun e => q e.2)]
  have hr : ∀ f, f ≠ 1026 → hI (sI h 1026 (G.rl w) (nI v)) f (G.rl w) = hI h f (G.rl w) := fun f q => by simp only [z_hI_sI, z_hL_sI, z_hR_sI, z_hA_sI, z_hB_sI, z_hC_sI, z_hT_sI, z_hN_sI, z_hZ_sI, z_hI_sL, z_hL_sL, z_hR_sL, z_hA_sL, z_hB_sL, z_hC_sL, z_hT_sL, z_hN_sL, z_hZ_sL, z_hI_sR, z_hL_sR, z_hR_sR, z_hA_sR, z_hB_sR, z_hC_sR, z_hT_sR, z_hN_sR, z_hZ_sR, z_hI_sA, z_hL_sA, z_hR_sA, z_hA_sA, z_hB_sA, z_hC_sA, z_hT_sA, z_hN_sA, z_hZ_sA, z_hI_sB, z_hL_sB, z_hR_sB, z_hA_sB, z_hB_sB, z_hC_sB, z_hT_sB, z_hN_sB, z_hZ_sB, z_hI_sC, z_hL_sC, z_hR_sC, z_hA_sC, z_hB_sC, z_hC_sC, z_hT_sC, z_hN_sC, z_hZ_sC, z_hI_sY, z_hL_sY, z_hR_sY, z_hA_sY, z_hB_sY, z_hC_sY, z_hT_sY, z_hN_sY, z_hZ_sY, z_hI_nO, z_hL_nO, z_hR_nO, z_hA_nO, z_hB_nO, z_hC_nO, z_hT_nO, z_hN_nO, z_hZ_nO, z_hI_nA, z_hL_nA, z_hR_nA, z_hA_nA, z_hB_nA, z_hC_nA, z_hT_nA, z_hN_nA, z_hZ_nA]; rw [if_neg (fun e => q e.1)]
  have mi : ∀ j, j ≠ 22 → mI (inL (mSI u 22 (nI (w + 1))) (c.nl - 1)) j = mI u j := fun j q => by unfold inL; simp only [z_mI_mSI, z_mL_mSI, z_mA_mSI, z_mB_mSI, z_mI_mSL, z_mL_mSL, z_mA_mSL, z_mB_mSL, z_mI_mSA, z_mL_mSA, z_mA_mSA, z_mB_mSA, z_mI_mSB, z_mL_mSB, z_mA_mSB, z_mB_mSB]; rw [if_neg q]
  have m22 : mI (inL (mSI u 22 (nI (w + 1))) (c.nl - 1)) 22 = nI (w + 1) := by unfold inL; simp only [z_mI_mSI, z_mL_mSI, z_mA_mSI, z_mB_mSI, z_mI_mSL, z_mL_mSL, z_mA_mSL, z_mB_mSL, z_mI_mSA, z_mL_mSA, z_mA_mSA, z_mB_mSA, z_mI_mSB, z_mL_mSB, z_mA_mSB, z_mB_mSB, if_true, if_false, and_false, false_and, and_true, true_and, and_self, decide_true, decide_false, reduceCtorEq, not_false_eq_true, not_true_eq_false, Nat.reduceEqDiff, Nat.reduceAdd, Nat.reduceMul, Nat.add_zero, Nat.zero_add]
  have ma : ∀ j i, j ≠ 35 → mA (inL (mSI u 22 (nI (w + 1))) (c.nl - 1)) j i = mA u j i := fun j i q => by unfold inL; simp only [z_mI_mSI, z_mL_mSI, z_mA_mSI, z_mB_mSI, z_mI_mSL, z_mL_mSL, z_mA_mSL, z_mB_mSL, z_mI_mSA, z_mL_mSA, z_mA_mSA, z_mB_mSA, z_mI_mSB, z_mL_mSB, z_mA_mSB, z_mB_mSB]; rw [if_neg (fun e => q e.1)]
  have mdz : MD u (inL (mSI u 22 (nI (w + 1))) (c.nl - 1)) z := ((MD.refl u z).sI (by omega)).sA (by omega) (by unfold kM; omega)
  have h23 : ∀ f, hI (sI h 1026 (G.rl w) (nI v)) f 23 = hI h f 23 := fun f => hi f 23 n23.symm
  have V' : Liv (sI h 1026 (G.rl w) (nI v)) (inL (mSI u 22 (nI (w + 1))) (c.nl - 1)) D n t := X.V.fr (fun f _ => h23 f) rfl (mi 11 (by omega)) (mi 13 (by omega))
  have F' : FL (sI h 1026 (G.rl w) (nI v)) (inL (mSI u 22 (nI (w + 1))) (c.nl - 1)) := X.F.fr (h23 _) (h23 _) (mi 15 (by omega)) (mi 16 (by omega))
  obtain ⟨z1, z2, z3, z4, z5, z6⟩ := X.zc
  obtain ⟨m1, m2, m3, m4, m5, m6⟩ := X.zm
  obtain ⟨k1, k2, k3, k4, k5, k6⟩ := X.ok
  refine ⟨X.i.d (cI z q1) mdz X.i.rm.p3, V', F', ?_⟩
  refine LR.mk (Sz.le_trans X.le (Sz.leN X.p0 X.r0)) ⟨k1, k2, k3, k4, by show c.nr + 1 ≤ 30; omega, k6⟩ ⟨(hi _ _ n6.symm).trans z1, (hi _ _ n8.symm).trans z2, (hi _ _ n10.symm).trans z3, (hi _ _ n12.symm).trans z4, (hi _ _ n14.symm).trans (by rw [z5, ← wc]; rfl), (hi _ _ n5.symm).trans z6, (hi _ _ n5.symm).trans X.sz⟩ ⟨(mi 18 (by omega)).trans m1, (mi 19 (by omega)).trans m2, (mi 20 (by omega)).trans m3, (mi 21 (by omega)).trans m4, m22.trans (by rw [← wc]; rfl), (mi 23 (by omega)).trans m6, (mi 24 (by omega)).trans X.m24⟩ ((h23 _).trans X.o1) ((mi 63 (by omega)).trans X.o2) (fun i hi => ?_) ?_ X.b1 X.b2 X.hp ⟨by have := X.b1; have := X.bp; show pc ≤ z.pc + 1200 * (c.nr + 1 - z.nr); omega, by have := X.b2; have := X.bp; show rc ≤ z.rc + 1200 * (c.nr + 1 - z.nr); omega⟩
  · obtain ⟨k, b1, b2, b3, b4, b5, b6⟩ := X.ot i hi
    exact ⟨k, b1, b2, b3, b4, (ma 64 _ (by omega)).trans b5, (ma 64 _ (by omega)).trans b6⟩
  · have C1 : CT (sI h 1026 (G.rl w) (nI v)) (inL (mSI u 22 (nI (w + 1))) (c.nl - 1)) G c D t := X.ct.d (t' := t) X.F (cI c (by omega)) ((((MD.refl u c).sI (k := 22) (v := nI (w + 1)) (by omega))).inL' (by omega)) (FM.of rfl rfl) (Nat.le_refl _)
    refine C1.wN X.p0 X.r0 ?_ (by omega) ?_ (fun e => ?_)
    · rw [wc]; exact X.nm
    · rw [wc]
      exact ⟨y, X.y2, (hr _ (by omega)).trans X.kd.1, (ma 40 w (by omega)).trans X.kd.2⟩
    · have e' : mI u 15 = 0 := (mi 15 (by omega)).symm.trans e
      have kn := X.kn
      have le2 : (c.wC pc rc).le (c.wN pc rc) := ⟨Nat.le_refl _, Nat.le_refl _, Nat.le_refl _, Nat.le_refl _, Nat.le_succ _, Nat.le_refl _, Nat.le_refl _, Nat.le_refl _⟩
      rw [wc]
      refine ⟨c.nl - 1, y, k, v, by show c.nl - 1 < c.nl; omega, X.y2, X.k6, kn, X.K.v3, (hr _ (by omega)).trans X.lw.1, (ma 39 w (by omega)).trans X.lw.2, (hr _ (by omega)).trans X.kd.1, (ma 40 w (by omega)).trans X.kd.2, (hr _ (by omega)).trans X.n1, (ma 41 w (by omega)).trans X.n2, by simp only [z_hI_sI, z_hL_sI, z_hR_sI, z_hA_sI, z_hB_sI, z_hC_sI, z_hT_sI, z_hN_sI, z_hZ_sI, z_hI_sL, z_hL_sL, z_hR_sL, z_hA_sL, z_hB_sL, z_hC_sL, z_hT_sL, z_hN_sL, z_hZ_sL, z_hI_sR, z_hL_sR, z_hR_sR, z_hA_sR, z_hB_sR, z_hC_sR, z_hT_sR, z_hN_sR, z_hZ_sR, z_hI_sA, z_hL_sA, z_hR_sA, z_hA_sA, z_hB_sA, z_hC_sA, z_hT_sA, z_hN_sA, z_hZ_sA, z_hI_sB, z_hL_sB, z_hR_sB, z_hA_sB, z_hB_sB, z_hC_sB, z_hT_sB, z_hN_sB, z_hZ_sB, z_hI_sC, z_hL_sC, z_hR_sC, z_hA_sC, z_hB_sC, z_hC_sC, z_hT_sC, z_hN_sC, z_hZ_sC, z_hI_sY, z_hL_sY, z_hR_sY, z_hA_sY, z_hB_sY, z_hC_sY, z_hT_sY, z_hN_sY, z_hZ_sY, z_hI_nO, z_hL_nO, z_hR_nO, z_hA_nO, z_hB_nO, z_hC_nO, z_hT_nO, z_hN_nO, z_hZ_nO, z_hI_nA, z_hL_nA, z_hR_nA, z_hA_nA, z_hB_nA, z_hC_nA, z_hT_nA, z_hN_nA, z_hZ_nA, if_true, if_false, and_false, false_and, and_true, true_and, and_self, decide_true, decide_false, reduceCtorEq, not_false_eq_true, not_true_eq_false, Nat.reduceEqDiff, Nat.reduceAdd, Nat.reduceMul, Nat.add_zero, Nat.zero_add], (ma 42 w (by omega)).trans X.K.m42, ?_, fun i hi' => ?_⟩
      · exact (hd e').x (c := c.wC pc rc) (fun f => hi f _ (ne_ow (S.hdo w wG) (S.rlo w wG) (by omega))) (fun j h1 h2 h3 h4 => ma j w (by omega)) (fun j _ => ma 28 j (by omega)) (fun _ _ => rfl) (fun j i h1 h2 h3 => ma j i (by omega)) le2 (Nat.le_refl _)
      · have n6' := S.nc6 w wG
        exact (X.cs e' i hi').x (c := c.wC pc rc) (fun f => hi f _ (ne_ow (S.cdo w wG i (by omega)) (S.rlo w wG) (by omega))) (fun j h1 h2 => ma j _ (by omega)) (fun j _ => ma 28 j (by omega)) (fun _ _ => rfl) (fun j i h1 h2 h3 => ma j i (by omega)) le2 (Nat.le_refl _)
/-- a rule's outcome: told (and the law's count of rules behind it), or both stopped -/
def TO (h : PH) (G : Gh) (z c : Sz) (w L n : Nat) (D : Nat → Nat × Nat × Nat × List Nat) (t e f : Nat) (gg : Nat → Int32) (F : Option (PH × Nat × Nat)) (M : Option MS) : Prop := ∃ h' G' ci cj u', F = some (h', ci, cj) ∧ M = some u' ∧ RCx h h' G G' ci cj e f ∧ (∀ x, x < 520 → x ≠ 516 → hI h' x 23 = gg x) ∧ ((∃ t' pc' rc', t < t' ∧ mI u' 13 = 0 ∧ PI h' (inL u' (c.nl - 1)) G' z L n D ∧ Liv h' (inL u' (c.nl - 1)) D n t' ∧ FL h' (inL u' (c.nl - 1)) ∧ LR h' (inL u' (c.nl - 1)) G' z (c.wN pc' rc') n D t') ∨ (PI h' u' G' z L n D ∧ Ded h' u'))
theorem TO.pre {h1 : PH} {G1 : Gh} {ci cj e f e1 f1 t1 : Nat} {gg : Nat → Int32} {F : Option (PH × Nat × Nat)} {M : Option MS} (C : RCx h h1 G G1 ci cj e1 f1) (ht : t ≤ t1) (g : TO h1 G1 z c w L n D t1 e f gg F M) : TO h G z c w L n D t (e1 + e) (f1 + f) gg (oK3 ci cj F) M := by
  obtain ⟨h', G', di, dj, u', a1, a2, a3, a4, a5⟩ := g
  refine ⟨h', G', ci + di, cj + dj, u', by rw [a1, oK3_v], a2, C.trans a3, a4, ?_⟩
  rcases a5 with ⟨t', p', r', b1, b2⟩ | b
  · exact .inl ⟨t', p', r', by omega, b2⟩
  · exact .inr b
theorem TO.mono {e f e1 f1 : Nat} {gg : Nat → Int32} {F : Option (PH × Nat × Nat)} {M : Option MS} (g : TO h G z c w L n D t e f gg F M) (h1 : e ≤ e1) (h2 : f ≤ f1) : TO h G z c w L n D t e1 f1 gg F M := by
  obtain ⟨h', G', di, dj, u', a1, a2, a3, a4, a5⟩ := g
  exact ⟨h', G', di, dj, u', a1, a2, a3.mono h1 h2, a4, a5⟩
/-- the semicolon behind the head -/
theorem tail_v (X : RX h u G z c w v L n D t pc rc y k k) (hd : mI u 15 = 0 → HdR h u G (c.wC pc rc) v (G.hd w) w) : TO h G z c w L n D t 0 0 (fun f => hI h f 23) (fX4_tellRule_195 h 23 (some (G.rl w))) (fX12_tellRule_410 u) := by
  have S := X.i.sx
  have wG := X.wG
  have t9 := S.rlT w wG
  obtain ⟨n23, _⟩ := rl_o S wG
  obtain ⟨h1, u1, r1, e1, e2, Q1, W1, o1⟩ := want_v X.i X.V X.F (k := 5) (by omega) (by omega) (by omega)
  have e1' : fX4_expect h 23 59 = some (h1, r1) := e1
  have e2' : fX12_must u 5 = some u1 := e2
  have S1 := Q1.sx S
  have t91 : hT h1 (G.rl w) = 9 := by rw [Q1.T]; exact t9
  have vc : hI h1 516 23 = nI v := (Q1.g 516 (by omega)).trans X.K.vc
  have hC : fX4_tellRule_195 h 23 (some (G.rl w)) = some (sI h1 1026 (G.rl w) (nI v), 0, 0) := by
    unfold fX4_tellRule_195
    rw [oC_d S.t23, e1', oB2_v, oC_d S1.t23, oN_v, oC_d t91, vc, oL_v]
  have gg : ∀ x, x < 520 → x ≠ 516 → hI (sI h1 1026 (G.rl w) (nI v)) x 23 = hI h x 23 := fun x q1 q2 => by
    simp only [z_hI_sI, z_hL_sI, z_hR_sI, z_hA_sI, z_hB_sI, z_hC_sI, z_hT_sI, z_hN_sI, z_hZ_sI, z_hI_sL, z_hL_sL, z_hR_sL, z_hA_sL, z_hB_sL, z_hC_sL, z_hT_sL, z_hN_sL, z_hZ_sL, z_hI_sR, z_hL_sR, z_hR_sR, z_hA_sR, z_hB_sR, z_hC_sR, z_hT_sR, z_hN_sR, z_hZ_sR, z_hI_sA, z_hL_sA, z_hR_sA, z_hA_sA, z_hB_sA, z_hC_sA, z_hT_sA, z_hN_sA, z_hZ_sA, z_hI_sB, z_hL_sB, z_hR_sB, z_hA_sB, z_hB_sB, z_hC_sB, z_hT_sB, z_hN_sB, z_hZ_sB, z_hI_sC, z_hL_sC, z_hR_sC, z_hA_sC, z_hB_sC, z_hC_sC, z_hT_sC, z_hN_sC, z_hZ_sC, z_hI_sY, z_hL_sY, z_hR_sY, z_hA_sY, z_hB_sY, z_hC_sY, z_hT_sY, z_hN_sY, z_hZ_sY, z_hI_nO, z_hL_nO, z_hR_nO, z_hA_nO, z_hB_nO, z_hC_nO, z_hT_nO, z_hN_nO, z_hZ_nO, z_hI_nA, z_hL_nA, z_hR_nA, z_hA_nA, z_hB_nA, z_hC_nA, z_hT_nA, z_hN_nA, z_hZ_nA]
    rw [if_neg (fun q => n23 q.2.symm)]
    exact Q1.g x q1
  have C : RCx h (sI h1 1026 (G.rl w) (nI v)) G G 0 0 0 0 := (RC.n Q1.N).x 0 0
  rcases o1 with ⟨_, _, c1, V1, F1, M1⟩ | ⟨_, Xd⟩
  · have X1 := X.mv Q1 W1 V1 F1 M1 (by omega)
    have m22 : mI u1 22 = nI w := X1.zm.2.2.2.2.1
    obtain ⟨a1, a2, a3, a4⟩ := X1.fin (fun e0 => by
      have n23' : G.hd w ≠ 23 := ne_ow (S.hdo w wG) S.o23 (by have := S.nr30; omega)
      refine (hd (FM.z X.F M1 e0)).x (c := c.wC pc rc) (fun f => Q1.I f _ n23') (fun j _ _ _ _ => by rw [W1.A]) (fun j _ => by rw [W1.A]) (fun i _ => by rw [Q1.A]) (fun j i _ _ _ => by rw [W1.A]) (Sz.le_refl _) (Nat.le_refl _))
    refine ⟨_, G, 0, 0, mSI u1 22 (nI (w + 1)), hC, ?_, C, gg, .inl ⟨t + 1, pc, rc, by omega, ?_, a1, a2, a3, a4⟩⟩
    · unfold fX12_tellRule_410
      rw [e2', oB_v, if_pos V1.f0, m22, nI_1, oL_v]
    · simp only [z_mI_mSI, z_mL_mSI, z_mA_mSI, z_mB_mSI, z_mI_mSL, z_mL_mSL, z_mA_mSL, z_mB_mSL, z_mI_mSA, z_mL_mSA, z_mA_mSA, z_mB_mSA, z_mI_mSB, z_mL_mSB, z_mA_mSB, z_mB_mSB, if_true, if_false, and_false, false_and, and_true, true_and, and_self, decide_true, decide_false, reduceCtorEq, not_false_eq_true, not_true_eq_false, Nat.reduceEqDiff, Nat.reduceAdd, Nat.reduceMul, Nat.add_zero, Nat.zero_add]
      exact V1.f0
  · refine ⟨_, G, 0, 0, u1, hC, ?_, C, gg, .inr ⟨?_, ?_⟩⟩
    · unfold fX12_tellRule_410
      rw [e2', oB_v, if_neg Xd.f.1]
    · exact (X.i.q Q1 W1).cq (CD.xI S1 (.inl (rl_o S wG).2.2.2.2.2.2.2.2) (X.rlk X.zs.1) (by omega) (by omega) (by omega) (by omega))
    · exact Xd.fr (fun g _ => by simp only [z_hI_sI, z_hL_sI, z_hR_sI, z_hA_sI, z_hB_sI, z_hC_sI, z_hT_sI, z_hN_sI, z_hZ_sI, z_hI_sL, z_hL_sL, z_hR_sL, z_hA_sL, z_hB_sL, z_hC_sL, z_hT_sL, z_hN_sL, z_hZ_sL, z_hI_sR, z_hL_sR, z_hR_sR, z_hA_sR, z_hB_sR, z_hC_sR, z_hT_sR, z_hN_sR, z_hZ_sR, z_hI_sA, z_hL_sA, z_hR_sA, z_hA_sA, z_hB_sA, z_hC_sA, z_hT_sA, z_hN_sA, z_hZ_sA, z_hI_sB, z_hL_sB, z_hR_sB, z_hA_sB, z_hB_sB, z_hC_sB, z_hT_sB, z_hN_sB, z_hZ_sB, z_hI_sC, z_hL_sC, z_hR_sC, z_hA_sC, z_hB_sC, z_hC_sC, z_hT_sC, z_hN_sC, z_hZ_sC, z_hI_sY, z_hL_sY, z_hR_sY, z_hA_sY, z_hB_sY, z_hC_sY, z_hT_sY, z_hN_sY, z_hZ_sY, z_hI_nO, z_hL_nO, z_hR_nO, z_hA_nO, z_hB_nO, z_hC_nO, z_hT_nO, z_hN_nO, z_hZ_nO, z_hI_nA, z_hL_nA, z_hR_nA, z_hA_nA, z_hB_nA, z_hC_nA, z_hT_nA, z_hN_nA, z_hZ_nA]; rw [if_neg (fun q => n23 q.2.symm)])
/-- and behind a stop -/
theorem tail_d (X : DR h u G z w L n D pc B) : TO h G z c w L n D t 0 0 (fun f => hI h f 23) (fX4_tellRule_195 h 23 (some (G.rl w))) (fX12_tellRule_410 u) := by
  have S := X.d.i.sx
  have wG := X.wG
  have t9 := S.rlT w wG
  obtain ⟨n23, _, _, _, _, _, _, _, o3⟩ := rl_o S wG
  have ed := expect_d S X.d.X (k := 5) (by omega) (by omega)
  have ed' : fX4_expect h 23 59 = some (h, 0) := ed
  have nk : ¬ kO G z (G.rl w) := by
    have r30 := S.nr30
    rintro ⟨r, hr, q⟩
    have e0 := S.rlo w wG
    have hw := X.hw
    rcases q with q | q | ⟨i, hi, q⟩
    · have e := S.rlo r (by omega); rw [← q, e0] at e; omega
    · have e := S.hdo r (by omega); rw [← q, e0] at e; omega
    · have e := S.cdo r (by omega) i hi; have := S.nc6 r (by omega); rw [← q, e0] at e; omega
  refine ⟨sI h 1026 (G.rl w) (hI h 516 23), G, 0, 0, u, ?_, ?_, (RC.n rfl).x 0 0, fun x _ _ => ?_, .inr ⟨X.d.i.cq (CD.xI S (.inl o3) nk (by omega) (by omega) (by omega) (by omega)), X.d.X.fr (fun g _ => ?_)⟩⟩
  · unfold fX4_tellRule_195
    rw [oC_d S.t23, ed', oB2_v, oC_d S.t23, oN_v, oC_d t9, oL_v]
  · unfold fX12_tellRule_410
    rw [must_d X.d.X, oB_v, if_neg X.d.X.f.1]
  · simp only [z_hI_sI, z_hL_sI, z_hR_sI, z_hA_sI, z_hB_sI, z_hC_sI, z_hT_sI, z_hN_sI, z_hZ_sI, z_hI_sL, z_hL_sL, z_hR_sL, z_hA_sL, z_hB_sL, z_hC_sL, z_hT_sL, z_hN_sL, z_hZ_sL, z_hI_sR, z_hL_sR, z_hR_sR, z_hA_sR, z_hB_sR, z_hC_sR, z_hT_sR, z_hN_sR, z_hZ_sR, z_hI_sA, z_hL_sA, z_hR_sA, z_hA_sA, z_hB_sA, z_hC_sA, z_hT_sA, z_hN_sA, z_hZ_sA, z_hI_sB, z_hL_sB, z_hR_sB, z_hA_sB, z_hB_sB, z_hC_sB, z_hT_sB, z_hN_sB, z_hZ_sB, z_hI_sC, z_hL_sC, z_hR_sC, z_hA_sC, z_hB_sC, z_hC_sC, z_hT_sC, z_hN_sC, z_hZ_sC, z_hI_sY, z_hL_sY, z_hR_sY, z_hA_sY, z_hB_sY, z_hC_sY, z_hT_sY, z_hN_sY, z_hZ_sY, z_hI_nO, z_hL_nO, z_hR_nO, z_hA_nO, z_hB_nO, z_hC_nO, z_hT_nO, z_hN_nO, z_hZ_nO, z_hI_nA, z_hL_nA, z_hR_nA, z_hA_nA, z_hB_nA, z_hC_nA, z_hT_nA, z_hN_nA, z_hZ_nA]; rw [if_neg (fun q => n23 q.2.symm)]
  · simp only [z_hI_sI, z_hL_sI, z_hR_sI, z_hA_sI, z_hB_sI, z_hC_sI, z_hT_sI, z_hN_sI, z_hZ_sI, z_hI_sL, z_hL_sL, z_hR_sL, z_hA_sL, z_hB_sL, z_hC_sL, z_hT_sL, z_hN_sL, z_hZ_sL, z_hI_sR, z_hL_sR, z_hR_sR, z_hA_sR, z_hB_sR, z_hC_sR, z_hT_sR, z_hN_sR, z_hZ_sR, z_hI_sA, z_hL_sA, z_hR_sA, z_hA_sA, z_hB_sA, z_hC_sA, z_hT_sA, z_hN_sA, z_hZ_sA, z_hI_sB, z_hL_sB, z_hR_sB, z_hA_sB, z_hB_sB, z_hC_sB, z_hT_sB, z_hN_sB, z_hZ_sB, z_hI_sC, z_hL_sC, z_hR_sC, z_hA_sC, z_hB_sC, z_hC_sC, z_hT_sC, z_hN_sC, z_hZ_sC, z_hI_sY, z_hL_sY, z_hR_sY, z_hA_sY, z_hB_sY, z_hC_sY, z_hT_sY, z_hN_sY, z_hZ_sY, z_hI_nO, z_hL_nO, z_hR_nO, z_hA_nO, z_hB_nO, z_hC_nO, z_hT_nO, z_hN_nO, z_hZ_nO, z_hI_nA, z_hL_nA, z_hR_nA, z_hA_nA, z_hB_nA, z_hC_nA, z_hT_nA, z_hN_nA, z_hZ_nA]; rw [if_neg (fun q => n23 q.2.symm)]
end RE
