section TR
variable {h h' : PH} {u u' : MS} {G G' : Gh} {z c : Sz} {w v v' L n t t' pc rc pc' rc' y kc k a B : Nat} {D : Nat → Nat × Nat × Nat × List Nat}
theorem RuR.x {r : Nat} (b1 : G'.rl r = G.rl r) (b2 : G'.hd r = G.hd r) (b4 : G.nc r ≤ G'.nc r) (b5 : ∀ i, i < G.nc r → G'.cd r i = G.cd r i) (eR : ∀ f, hI h' f (G.rl r) = hI h f (G.rl r)) (eH : ∀ f, hI h' f (G.hd r) = hI h f (G.hd r)) (eC : ∀ i, i < G.nc r → ∀ f, hI h' f (G.cd r i) = hI h f (G.cd r i)) (m : ∀ k, 39 ≤ k → k ≤ 50 → k ≠ 43 → mA u' k r = mA u k r) (mc : ∀ k i, 51 ≤ k → k ≤ 59 → i < 6 → mA u' k (6 * r + i) = mA u k (6 * r + i)) (m28 : ∀ j, j < c.nw → mA u' 28 j = mA u 28 j) (pg : ∀ i, i < c.pc → hA h' G'.pg i = hA h G.pg i) (mp : ∀ k i, 60 ≤ k → k ≤ 62 → i < c.rc → mA u' k i = mA u k i) (K : RuR h u G c r) : RuR h' u' G' c r := by
  obtain ⟨l, k, n, v, h1, h2, h3, h4, h5, h6, h7, h8, h9, ha, hb, hc, hd, he, hf⟩ := K
  refine ⟨l, k, n, v, h1, h2, h3, by omega, h5, ?_⟩
  rw [b1, b2]
  simp only [eR, m 39 (by omega) (by omega) (by omega), m 40 (by omega) (by omega) (by omega), m 41 (by omega) (by omega) (by omega), m 42 (by omega) (by omega) (by omega)]
  refine ⟨h6, h7, h8, h9, ha, hb, hc, hd, he.x (c := c) (fun f => eH f) (fun k h1 h2 h3 h4 => m k (by omega) h2 h4) m28 pg mp (Sz.le_refl _) (Nat.le_refl _), fun i hi => ?_⟩
  rw [b5 i (by omega)]
  exact (hf i hi).x (c := c) (fun f => eC i (by omega) f) (fun k h1 h2 => mc k i h1 h2 (by omega)) m28 pg mp (Sz.le_refl _) (Nat.le_refl _)
theorem cK_29 (hy : y ≤ 2) : cK (29 + y) = nI (309 + y) := by
  have : y = 0 ∨ y = 1 ∨ y = 2 := by omega
  rcases this with q | q | q <;> subst q <;> rfl
/-- the rule begun by both -/
theorem RX.new {h2 h4 h5 : PH} {u2 u5 : MS} {G4 : Gh} {x : Int64} {x' : Int64} (I2 : PI h2 u2 G z L n D) (R2 : LR h2 u2 G z c n D t) (F2 : FL h2 u2) (N : NR x x') (sm : c.nr < 30) (hl : z.nl < c.nl) (y2 : y ≤ 2) (v0 : hI h2 516 23 = 0) (NWx : NW (sI (sB h2 15 c.nr x) 897 14 (nI (c.nr + 1))) h4 G G4 c.nr c.nl (nI y)) (I4 : PI h4 (mSB u2 38 c.nr x') G4 z L n D) (Q5 : Q h4 h5) (W5 : W' (mSB u2 38 c.nr x') u5) (M5 : FM (mSB u2 38 c.nr x') u5) (V5 : Liv h5 u5 D n t') (F5 : FL h5 u5) (ht : t ≤ t') : RX h5 (mSA (mSA (mSA (mSA (mSI u5 65 (nI c.nr)) 39 c.nr (nI (c.nl - 1))) 40 c.nr (nI y)) 41 c.nr 0) 42 c.nr 0) G4 z c c.nr 0 L n D t' c.pc c.rc y 0 0 := by
  have S2 := I2.sx
  have S4 := I4.sx
  have zz := S2.zz
  have wG := NWx.wG
  have r30 := S4.nr30
  have n10 := R2.ok.2.2.2.1
  have C := R2.ct
  have gd := (NWx.cd Sz.nil (Nat.zero_le _) (show 0 < c.nl by omega)).gd
  have orl := S4.rlo c.nr wG
  have n23 : (23 : Nat) ≠ G4.rl c.nr := ne_ow S4.o23 orl (by omega)
  have n5 : (5 : Nat) ≠ G4.rl c.nr := ne_ow S4.o5 orl (by omega)
  have n6 : (6 : Nat) ≠ G4.rl c.nr := ne_ow S4.o6 orl (by omega)
  have n8 : (8 : Nat) ≠ G4.rl c.nr := ne_ow S4.o8 orl (by omega)
  have n10' : (10 : Nat) ≠ G4.rl c.nr := ne_ow S4.o10 orl (by omega)
  have n12 : (12 : Nat) ≠ G4.rl c.nr := ne_ow S4.o12 orl (by omega)
  have n14 : (14 : Nat) ≠ G4.rl c.nr := ne_ow S4.o14 orl (by omega)
  have z3 : hZ (sI (sB h2 15 c.nr x) 897 14 (nI (c.nr + 1))) = hZ h2 := rfl
  have i5 : ∀ f b, b < hZ h2 → b ≠ 23 → b ≠ 14 → b ≠ G4.rl c.nr → hI h5 f b = hI h2 f b := fun f b h1 h2' h3 h4' => by
    rw [Q5.I f b h2', NWx.I f b h1 h4']
    simp only [z_hI_sI, z_hL_sI, z_hR_sI, z_hA_sI, z_hB_sI, z_hC_sI, z_hT_sI, z_hN_sI, z_hZ_sI, z_hI_sL, z_hL_sL, z_hR_sL, z_hA_sL, z_hB_sL, z_hC_sL, z_hT_sL, z_hN_sL, z_hZ_sL, z_hI_sR, z_hL_sR, z_hR_sR, z_hA_sR, z_hB_sR, z_hC_sR, z_hT_sR, z_hN_sR, z_hZ_sR, z_hI_sA, z_hL_sA, z_hR_sA, z_hA_sA, z_hB_sA, z_hC_sA, z_hT_sA, z_hN_sA, z_hZ_sA, z_hI_sB, z_hL_sB, z_hR_sB, z_hA_sB, z_hB_sB, z_hC_sB, z_hT_sB, z_hN_sB, z_hZ_sB, z_hI_sC, z_hL_sC, z_hR_sC, z_hA_sC, z_hB_sC, z_hC_sC, z_hT_sC, z_hN_sC, z_hZ_sC, z_hI_sY, z_hL_sY, z_hR_sY, z_hA_sY, z_hB_sY, z_hC_sY, z_hT_sY, z_hN_sY, z_hZ_sY, z_hI_nO, z_hL_nO, z_hR_nO, z_hA_nO, z_hB_nO, z_hC_nO, z_hT_nO, z_hN_nO, z_hZ_nO, z_hI_nA, z_hL_nA, z_hR_nA, z_hA_nA, z_hB_nA, z_hC_nA, z_hT_nA, z_hN_nA, z_hZ_nA]
    rw [if_neg (fun q => h3 q.2)]
  have g5 : ∀ f, f < 520 → hI h5 f 23 = hI h2 f 23 := fun f hf => by
    rw [Q5.g f hf, NWx.I f 23 (by rw [z3]; omega) n23]
    simp only [z_hI_sI, z_hL_sI, z_hR_sI, z_hA_sI, z_hB_sI, z_hC_sI, z_hT_sI, z_hN_sI, z_hZ_sI, z_hI_sL, z_hL_sL, z_hR_sL, z_hA_sL, z_hB_sL, z_hC_sL, z_hT_sL, z_hN_sL, z_hZ_sL, z_hI_sR, z_hL_sR, z_hR_sR, z_hA_sR, z_hB_sR, z_hC_sR, z_hT_sR, z_hN_sR, z_hZ_sR, z_hI_sA, z_hL_sA, z_hR_sA, z_hA_sA, z_hB_sA, z_hC_sA, z_hT_sA, z_hN_sA, z_hZ_sA, z_hI_sB, z_hL_sB, z_hR_sB, z_hA_sB, z_hB_sB, z_hC_sB, z_hT_sB, z_hN_sB, z_hZ_sB, z_hI_sC, z_hL_sC, z_hR_sC, z_hA_sC, z_hB_sC, z_hC_sC, z_hT_sC, z_hN_sC, z_hZ_sC, z_hI_sY, z_hL_sY, z_hR_sY, z_hA_sY, z_hB_sY, z_hC_sY, z_hT_sY, z_hN_sY, z_hZ_sY, z_hI_nO, z_hL_nO, z_hR_nO, z_hA_nO, z_hB_nO, z_hC_nO, z_hT_nO, z_hN_nO, z_hZ_nO, z_hI_nA, z_hL_nA, z_hR_nA, z_hA_nA, z_hB_nA, z_hC_nA, z_hT_nA, z_hN_nA, z_hZ_nA, if_true, if_false, and_false, false_and, and_true, true_and, and_self, decide_true, decide_false, reduceCtorEq, not_false_eq_true, not_true_eq_false, Nat.reduceEqDiff, Nat.reduceAdd, Nat.reduceMul, Nat.add_zero, Nat.zero_add]
  have a5 : ∀ b i, b < hZ h2 → ¬ (b = 18 ∧ i = 5 * (c.nl - 1) + 4) → hA h5 b i = hA h2 b i := fun b i h1 h3 => by
    rw [Q5.A, NWx.A b i h1 h3]
    rfl
  have a18 : hA h5 18 (5 * (c.nl - 1) + 4) = hA h2 18 (5 * (c.nl - 1) + 4) + 1 := by
    rw [Q5.A, NWx.a18]
    rfl
  have b5 : ∀ b i, b < hZ h2 → ¬ (b = 15 ∧ i = c.nr) → hB h5 b i = hB h2 b i := fun b i h1 h3 => by
    rw [Q5.B, NWx.B b i h1]
    simp only [z_hI_sI, z_hL_sI, z_hR_sI, z_hA_sI, z_hB_sI, z_hC_sI, z_hT_sI, z_hN_sI, z_hZ_sI, z_hI_sL, z_hL_sL, z_hR_sL, z_hA_sL, z_hB_sL, z_hC_sL, z_hT_sL, z_hN_sL, z_hZ_sL, z_hI_sR, z_hL_sR, z_hR_sR, z_hA_sR, z_hB_sR, z_hC_sR, z_hT_sR, z_hN_sR, z_hZ_sR, z_hI_sA, z_hL_sA, z_hR_sA, z_hA_sA, z_hB_sA, z_hC_sA, z_hT_sA, z_hN_sA, z_hZ_sA, z_hI_sB, z_hL_sB, z_hR_sB, z_hA_sB, z_hB_sB, z_hC_sB, z_hT_sB, z_hN_sB, z_hZ_sB, z_hI_sC, z_hL_sC, z_hR_sC, z_hA_sC, z_hB_sC, z_hC_sC, z_hT_sC, z_hN_sC, z_hZ_sC, z_hI_sY, z_hL_sY, z_hR_sY, z_hA_sY, z_hB_sY, z_hC_sY, z_hT_sY, z_hN_sY, z_hZ_sY, z_hI_nO, z_hL_nO, z_hR_nO, z_hA_nO, z_hB_nO, z_hC_nO, z_hT_nO, z_hN_nO, z_hZ_nO, z_hI_nA, z_hL_nA, z_hR_nA, z_hA_nA, z_hB_nA, z_hC_nA, z_hT_nA, z_hN_nA, z_hZ_nA]
    rw [if_neg h3]
  obtain ⟨u6, hu6⟩ : ∃ u6, u6 = mSA (mSA (mSA (mSA (mSI u5 65 (nI c.nr)) 39 c.nr (nI (c.nl - 1))) 40 c.nr (nI y)) 41 c.nr 0) 42 c.nr 0 := ⟨_, rfl⟩
  have mi5 : ∀ j, j ≠ 65 → mI u6 j = mI u5 j := fun j hj => by rw [hu6]; simp only [z_mI_mSI, z_mL_mSI, z_mA_mSI, z_mB_mSI, z_mI_mSL, z_mL_mSL, z_mA_mSL, z_mB_mSL, z_mI_mSA, z_mL_mSA, z_mA_mSA, z_mB_mSA, z_mI_mSB, z_mL_mSB, z_mA_mSB, z_mB_mSB]; rw [if_neg hj]
  have mi : ∀ j, j ≠ 65 → ¬ (j = 11 ∨ (13 ≤ j ∧ j ≤ 16)) → mI u6 j = mI u2 j := fun j h1 h2 => (mi5 j h1).trans (W5.I j h2)
  have ma : ∀ j i, ¬ ((39 ≤ j ∧ j ≤ 42) ∧ i = c.nr) → mA u6 j i = mA u2 j i := fun j i hj => by
    rw [hu6]
    simp only [z_mI_mSI, z_mL_mSI, z_mA_mSI, z_mB_mSI, z_mI_mSL, z_mL_mSL, z_mA_mSL, z_mB_mSL, z_mI_mSA, z_mL_mSA, z_mA_mSA, z_mB_mSA, z_mI_mSB, z_mL_mSB, z_mA_mSB, z_mB_mSB]
    rw [if_neg (fun q => hj (by omega)), if_neg (fun q => hj (by omega)), if_neg (fun q => hj (by omega)), if_neg (fun q => hj (by omega)), W5.A]
    rfl
  have mb : ∀ j i, ¬ (j = 38 ∧ i = c.nr) → mB u6 j i = mB u2 j i := fun j i hj => by
    rw [hu6]
    show mB u5 j i = _
    rw [W5.B]
    simp only [z_mI_mSI, z_mL_mSI, z_mA_mSI, z_mB_mSI, z_mI_mSL, z_mL_mSL, z_mA_mSL, z_mB_mSL, z_mI_mSA, z_mL_mSA, z_mA_mSA, z_mB_mSA, z_mI_mSB, z_mL_mSB, z_mA_mSB, z_mB_mSB]
    rw [if_neg hj]
  have mb38 : mB u6 38 c.nr = x' := by
    rw [hu6]
    show mB u5 38 c.nr = _
    rw [W5.B]
    simp only [z_mI_mSI, z_mL_mSI, z_mA_mSI, z_mB_mSI, z_mI_mSL, z_mL_mSL, z_mA_mSL, z_mB_mSL, z_mI_mSA, z_mL_mSA, z_mA_mSA, z_mB_mSA, z_mI_mSB, z_mL_mSB, z_mA_mSB, z_mB_mSB, if_true, if_false, and_false, false_and, and_true, true_and, and_self, decide_true, decide_false, reduceCtorEq, not_false_eq_true, not_true_eq_false, Nat.reduceEqDiff, Nat.reduceAdd, Nat.reduceMul, Nat.add_zero, Nat.zero_add]
  have m39 : mA u6 39 c.nr = nI (c.nl - 1) := by rw [hu6]; simp only [z_mI_mSI, z_mL_mSI, z_mA_mSI, z_mB_mSI, z_mI_mSL, z_mL_mSL, z_mA_mSL, z_mB_mSL, z_mI_mSA, z_mL_mSA, z_mA_mSA, z_mB_mSA, z_mI_mSB, z_mL_mSB, z_mA_mSB, z_mB_mSB, if_true, if_false, and_false, false_and, and_true, true_and, and_self, decide_true, decide_false, reduceCtorEq, not_false_eq_true, not_true_eq_false, Nat.reduceEqDiff, Nat.reduceAdd, Nat.reduceMul, Nat.add_zero, Nat.zero_add]
  have m40 : mA u6 40 c.nr = nI y := by rw [hu6]; simp only [z_mI_mSI, z_mL_mSI, z_mA_mSI, z_mB_mSI, z_mI_mSL, z_mL_mSL, z_mA_mSL, z_mB_mSL, z_mI_mSA, z_mL_mSA, z_mA_mSA, z_mB_mSA, z_mI_mSB, z_mL_mSB, z_mA_mSB, z_mB_mSB, if_true, if_false, and_false, false_and, and_true, true_and, and_self, decide_true, decide_false, reduceCtorEq, not_false_eq_true, not_true_eq_false, Nat.reduceEqDiff, Nat.reduceAdd, Nat.reduceMul, Nat.add_zero, Nat.zero_add]
  have m41 : mA u6 41 c.nr = 0 := by rw [hu6]; simp only [z_mI_mSI, z_mL_mSI, z_mA_mSI, z_mB_mSI, z_mI_mSL, z_mL_mSL, z_mA_mSL, z_mB_mSL, z_mI_mSA, z_mL_mSA, z_mA_mSA, z_mB_mSA, z_mI_mSB, z_mL_mSB, z_mA_mSB, z_mB_mSB, if_true, if_false, and_false, false_and, and_true, true_and, and_self, decide_true, decide_false, reduceCtorEq, not_false_eq_true, not_true_eq_false, Nat.reduceEqDiff, Nat.reduceAdd, Nat.reduceMul, Nat.add_zero, Nat.zero_add]
  have m42 : mA u6 42 c.nr = 0 := by rw [hu6]; simp only [z_mI_mSI, z_mL_mSI, z_mA_mSI, z_mB_mSI, z_mI_mSL, z_mL_mSL, z_mA_mSL, z_mB_mSL, z_mI_mSA, z_mL_mSA, z_mA_mSA, z_mB_mSA, z_mI_mSB, z_mL_mSB, z_mA_mSB, z_mB_mSB, if_true, if_false, and_false, false_and, and_true, true_and, and_self, decide_true, decide_false, reduceCtorEq, not_false_eq_true, not_true_eq_false, Nat.reduceEqDiff, Nat.reduceAdd, Nat.reduceMul, Nat.add_zero, Nat.zero_add]
  have m65 : mI u6 65 = nI c.nr := by rw [hu6]; simp only [z_mI_mSI, z_mL_mSI, z_mA_mSI, z_mB_mSI, z_mI_mSL, z_mL_mSL, z_mA_mSL, z_mB_mSL, z_mI_mSA, z_mL_mSA, z_mA_mSA, z_mB_mSA, z_mI_mSB, z_mL_mSB, z_mA_mSB, z_mB_mSB, if_true, if_false, and_false, false_and, and_true, true_and, and_self, decide_true, decide_false, reduceCtorEq, not_false_eq_true, not_true_eq_false, Nat.reduceEqDiff, Nat.reduceAdd, Nat.reduceMul, Nat.add_zero, Nat.zero_add]
  have fm : FM u2 u6 := FM.trans (u1 := mSB u2 38 c.nr x') (FM.of rfl rfl) (M5.trans (FM.of (mi5 15 (by omega)) (mi5 16 (by omega))))
  have hD : (D t).1 ≤ (D t').1 := I2.ts.le ht V5.lt
  have np : hN h5 G4.pg = hN h2 G.pg := by rw [NWx.pg, Q5.N]; exact NWx.N _ (S2.lt S2.tpg (by omega))
  have zle := R2.le
  have I5 : PI h5 u5 G4 z L n D := I4.q Q5 W5
  have I6 : PI h5 u6 G4 z L n D := by
    rw [hu6]
    have := zle.2.2.2.2.1
    exact I5.d (CD.refl I5.sx z) (((((MD.refl u5 z).sI (by omega)).sA (by omega) (by unfold kM; omega)).sA (by omega) (by unfold kM; omega)).sA (by omega) (by unfold kM; omega) |>.sA (by omega) (by unfold kM; omega)) I5.rm.p3
  obtain ⟨z1, z2, z3', z4, z5, z6, z7⟩ := R2.zc
  obtain ⟨m1, m2, m3, m4, m5, m6, m7⟩ := R2.zm
  have cI : ∀ f r, r < c.nr → hI h5 f (G.rl r) = hI h2 f (G.rl r) ∧ hI h5 f (G.hd r) = hI h2 f (G.hd r) ∧ ∀ i, i < G.nc r → hI h5 f (G.cd r i) = hI h2 f (G.cd r i) := fun f r hr => by
    have rG := C.rG
    have rG2 : r < G.nr := by omega
    have e1 := S2.rlo r rG2
    have e2 := S2.hdo r rG2
    obtain ⟨q1, q2, q3, q4, q5⟩ := gd.ru r rG2
    have l1 := S2.lt (S2.rlT r rG2) (by omega)
    have l2 := S2.lt (S2.hdT r rG2) (by omega)
    have ne : ∀ b x, b < hZ h2 → G.ow b = x → x ≠ 310000 + c.nr → b ≠ G4.rl c.nr := fun b x hb e hx => ne_ow ((gd.ow b hb).trans e) orl hx
    refine ⟨i5 f _ l1 (ne_ow e1 S2.o23 (by omega)) (ne_ow e1 S2.o14 (by omega)) (ne _ _ l1 e1 (by omega)), i5 f _ l2 (ne_ow e2 S2.o23 (by omega)) (ne_ow e2 S2.o14 (by omega)) (ne _ _ l2 e2 (by omega)), fun i hi => ?_⟩
    have e3 := S2.cdo r rG2 i hi
    have n6' := S2.nc6 r rG2
    have l3 := S2.lt (S2.cdT r rG2 i hi) (by omega)
    exact i5 f _ l3 (ne_ow e3 S2.o23 (by omega)) (ne_ow e3 S2.o14 (by omega)) (ne _ _ l3 e3 (by omega))
  have il : ∀ j i, ¬ (j = 35 ∧ i = c.nl - 1) → mA (inL u6 (c.nl - 1)) j i = mA u6 j i := fun j i hj => by unfold inL; rw [z_mA_mSA, if_neg hj]
  rw [← hu6]
  refine RX.mk I6 (V5.fr (fun _ _ => rfl) rfl (mi5 11 (by omega)) (mi5 13 (by omega))) (F5.fr rfl rfl (mi5 15 (by omega)) (mi5 16 (by omega))) ⟨by omega, sm, (g5 516 (by omega)).trans v0, m65, m42, fun i hi => by omega⟩ zle R2.ok rfl wG hl ⟨(i5 _ _ (by omega) (by omega) (by omega) n6).trans z1, (i5 _ _ (by omega) (by omega) (by omega) n8).trans z2, (i5 _ _ (by omega) (by omega) (by omega) n10').trans z3', (i5 _ _ (by omega) (by omega) (by omega) n12).trans z4, ?_, (i5 _ _ (by omega) (by omega) (by omega) n5).trans z6⟩ ((i5 _ _ (by omega) (by omega) (by omega) n5).trans z7) ⟨(mi 18 (by omega) (by omega)).trans m1, (mi 19 (by omega) (by omega)).trans m2, (mi 20 (by omega) (by omega)).trans m3, (mi 21 (by omega) (by omega)).trans m4, (mi 22 (by omega) (by omega)).trans m5, (mi 23 (by omega) (by omega)).trans m6⟩ ((mi 24 (by omega) (by omega)).trans m7) ((g5 517 (by omega)).trans R2.o1) ((mi 63 (by omega) (by omega)).trans R2.o2) (fun i hi => ?_) ?_ ?_ (Nat.le_refl _) (Nat.le_refl _) (by have := R2.p1; omega) (by have := R2.p2; omega) (by rw [np]; exact R2.p3) ⟨(Q5.I _ _ n23.symm).trans NWx.law, m39⟩ y2 ⟨(Q5.I _ _ n23.symm).trans NWx.kd, m40⟩ ((Q5.I _ _ n23.symm).trans NWx.cn) m41 (by omega) (Nat.zero_le _) (Nat.le_refl _) (fun _ i hi => by omega)
  · rw [Q5.I _ _ (by omega), NWx.I _ _ (by rw [z3]; omega) n14]
    simp only [z_hI_sI, z_hL_sI, z_hR_sI, z_hA_sI, z_hB_sI, z_hC_sI, z_hT_sI, z_hN_sI, z_hZ_sI, z_hI_sL, z_hL_sL, z_hR_sL, z_hA_sL, z_hB_sL, z_hC_sL, z_hT_sL, z_hN_sL, z_hZ_sL, z_hI_sR, z_hL_sR, z_hR_sR, z_hA_sR, z_hB_sR, z_hC_sR, z_hT_sR, z_hN_sR, z_hZ_sR, z_hI_sA, z_hL_sA, z_hR_sA, z_hA_sA, z_hB_sA, z_hC_sA, z_hT_sA, z_hN_sA, z_hZ_sA, z_hI_sB, z_hL_sB, z_hR_sB, z_hA_sB, z_hB_sB, z_hC_sB, z_hT_sB, z_hN_sB, z_hZ_sB, z_hI_sC, z_hL_sC, z_hR_sC, z_hA_sC, z_hB_sC, z_hC_sC, z_hT_sC, z_hN_sC, z_hZ_sC, z_hI_sY, z_hL_sY, z_hR_sY, z_hA_sY, z_hB_sY, z_hC_sY, z_hT_sY, z_hN_sY, z_hZ_sY, z_hI_nO, z_hL_nO, z_hR_nO, z_hA_nO, z_hB_nO, z_hC_nO, z_hT_nO, z_hN_nO, z_hZ_nO, z_hI_nA, z_hL_nA, z_hR_nA, z_hA_nA, z_hB_nA, z_hC_nA, z_hT_nA, z_hN_nA, z_hZ_nA, if_true, if_false, and_false, false_and, and_true, true_and, and_self, decide_true, decide_false, reduceCtorEq, not_false_eq_true, not_true_eq_false, Nat.reduceEqDiff, Nat.reduceAdd, Nat.reduceMul, Nat.add_zero, Nat.zero_add]
  · obtain ⟨k, q1, q2, q3, q4, q5, q6⟩ := R2.ot i hi
    exact ⟨k, q1, q2, q3, (a5 30 i (by omega) (by omega)).trans q4, (ma 64 _ (by omega)).trans q5, (ma 64 _ (by omega)).trans q6⟩
  · refine CT.mk (fun i hi => ?_) (fun i hi => ?_) (fun i hi => ?_) (fun i hi => ?_) (fun i hi => ?_) (Nat.le_of_lt wG) (fun r hr => ?_) (fun i hi => ?_) (fun e i hi => ?_) (fun e r hr => ?_)
    · show NR (hB h5 7 i) (mB u6 25 i)
      rw [b5 7 i (by omega) (by omega), mb 25 i (by omega)]; exact C.pn i hi
    · show NR (hB h5 9 i) (mB u6 27 i)
      rw [b5 9 i (by omega) (by omega), mb 27 i (by omega)]; exact C.wn i hi
    · show NR (hB h5 11 i) (mB u6 29 i)
      rw [b5 11 i (by omega) (by omega), mb 29 i (by omega)]; exact C.sn i hi
    · show NR (hB h5 13 i) (mB u6 30 i)
      rw [b5 13 i (by omega) (by omega), mb 30 i (by omega)]; exact C.ln i hi
    · show NR (hB h5 15 i) (mB u6 38 i)
      rw [b5 15 i (by omega) (by omega), mb 38 i (by omega)]; exact C.rn i hi
    · obtain ⟨k, k1, k2, k3⟩ := C.kd r hr
      have rG := C.rG
      refine ⟨k, k1, ?_, ?_⟩
      · rw [(gd.ru r (by omega)).1, (cI 1025 r hr).1]; exact k2
      · rw [il 40 r (by omega), ma 40 r (by omega)]; exact k3
    · rcases C.pl i hi with ⟨k, k1, k2, k3⟩ | ⟨q, q1, q2⟩
      · exact .inl ⟨k, k1, (a5 16 i (by omega) (by omega)).trans k2, by rw [il 28 i (by omega), ma 28 i (by omega)]; exact k3⟩
      · exact .inr ⟨q, fm q q1, by omega⟩
    · have e2 : mI u2 15 = 0 := FM.z F2 fm e
      obtain ⟨q1, q2, q3, q4, q5⟩ := C.lw e2 i hi
      have la : ∀ j, j < 4 → hA h5 18 (5 * i + j) = hA h2 18 (5 * i + j) := fun j hj => a5 18 _ (by omega) (by omega)
      have la0 := la 0 (by omega)
      rw [Nat.add_zero] at la0
      rw [la0, la 1 (by omega), la 2 (by omega), la 3 (by omega), il 31 i (by omega), il 32 i (by omega), il 33 i (by omega), il 34 i (by omega), ma 31 i (by omega), ma 32 i (by omega), ma 33 i (by omega), ma 34 i (by omega)]
      refine ⟨q1, q2, q3, q4, ?_⟩
      by_cases qi : i = c.nl - 1
      · rw [qi, a18]
        have : mA (inL u6 (c.nl - 1)) 35 (c.nl - 1) = mA u2 35 (c.nl - 1) + 1 := by
          unfold inL
          rw [z_mA_mSA, if_pos ⟨rfl, rfl⟩, ma 35 _ (by omega)]
        rw [this, ← qi, q5]
      · rw [a5 18 _ (by omega) (by omega), il 35 i (by omega), ma 35 i (by omega)]
        exact q5
    · have e2 : mI u2 15 = 0 := FM.z F2 fm e
      have rG := C.rG
      obtain ⟨q1, q2, q3, q4, q5⟩ := gd.ru r (by omega)
      exact (C.ru e2 r hr).x q1 q2 q4 q5 (fun f => (cI f r hr).1) (fun f => (cI f r hr).2.1) (fun i hi f => (cI f r hr).2.2 i hi) (fun k h1 h2 h3 => by rw [il k r (by omega), ma k r (by omega)]) (fun k i h1 h2 h3 => by rw [il k _ (by omega), ma k _ (by omega)]) (fun j _ => by rw [il 28 j (by omega), ma 28 j (by omega)]) (fun i hi => by rw [NWx.pg]; exact a5 _ i (S2.lt S2.tpg (by omega)) (fun q => ne_ow S2.opg S2.o18 (by omega) q.1)) (fun k i h1 h2 h3 => by rw [il k i (by omega), ma k i (by omega)])
  · rw [mb38, Q5.B, NWx.B 15 _ (by rw [z3]; omega)]
    simp only [z_hI_sI, z_hL_sI, z_hR_sI, z_hA_sI, z_hB_sI, z_hC_sI, z_hT_sI, z_hN_sI, z_hZ_sI, z_hI_sL, z_hL_sL, z_hR_sL, z_hA_sL, z_hB_sL, z_hC_sL, z_hT_sL, z_hN_sL, z_hZ_sL, z_hI_sR, z_hL_sR, z_hR_sR, z_hA_sR, z_hB_sR, z_hC_sR, z_hT_sR, z_hN_sR, z_hZ_sR, z_hI_sA, z_hL_sA, z_hR_sA, z_hA_sA, z_hB_sA, z_hC_sA, z_hT_sA, z_hN_sA, z_hZ_sA, z_hI_sB, z_hL_sB, z_hR_sB, z_hA_sB, z_hB_sB, z_hC_sB, z_hT_sB, z_hN_sB, z_hZ_sB, z_hI_sC, z_hL_sC, z_hR_sC, z_hA_sC, z_hB_sC, z_hC_sC, z_hT_sC, z_hN_sC, z_hZ_sC, z_hI_sY, z_hL_sY, z_hR_sY, z_hA_sY, z_hB_sY, z_hC_sY, z_hT_sY, z_hN_sY, z_hZ_sY, z_hI_nO, z_hL_nO, z_hR_nO, z_hA_nO, z_hB_nO, z_hC_nO, z_hT_nO, z_hN_nO, z_hZ_nO, z_hI_nA, z_hL_nA, z_hR_nA, z_hA_nA, z_hB_nA, z_hC_nA, z_hT_nA, z_hN_nA, z_hZ_nA, if_true, if_false, and_false, false_and, and_true, true_and, and_self, decide_true, decide_false, reduceCtorEq, not_false_eq_true, not_true_eq_false, Nat.reduceEqDiff, Nat.reduceAdd, Nat.reduceMul, Nat.add_zero, Nat.zero_add]
    exact N
end TR
