theorem SC.sx {h h' : PH} {G : Gh} (X : SC h h' G) (S : SX h G) : SX h' G := by
  unfold SX
  rw [X.R, X.C, X.T, X.N, X.Z]
  exact S
theorem SC.ag {h h' : PH} {G : Gh} (X : SC h h' G) (S : SX h G) : Ag (fun a => a < hZ h ∧ G.ow a / 100000 ≠ 7) h h' := by
  intro a ha
  have n : ∀ b x, G.ow b = x → x / 100000 = 7 → a ≠ b := fun b x e hx q => ha.2 (by rw [q, e]; exact hx)
  exact ⟨fun f => X.I f a (fun q => n 24 _ S.o24 (by omega) q.1), fun f => by rw [X.L], fun i => by rw [X.A a (n _ _ S.okd (by omega)) (n _ _ S.ost (by omega))], fun i => by rw [X.B a (n _ _ S.ovl (by omega))]⟩
/-- a state of the reading, behind its beginning -/
def RB (h : PH) (u : MS) (G : Gh) (z : Sz) (L : Nat) (n : Nat) (D : Nat → Nat × Nat × Nat × List Nat) : Prop := (Ir h u G z) ∧ (TS h u G L n D) ∧ (n ≤ hN h G.kd) ∧ (L ≤ 4000)
theorem RB.ir {h : PH} {u : MS} {G : Gh} {z : Sz} {L : Nat} {n : Nat} {D : Nat → Nat × Nat × Nat × List Nat} (X_ : RB h u G z L n D) : Ir h u G z := X_.1
theorem RB.ts {h : PH} {u : MS} {G : Gh} {z : Sz} {L : Nat} {n : Nat} {D : Nat → Nat × Nat × Nat × List Nat} (X_ : RB h u G z L n D) : TS h u G L n D := X_.2.1
theorem RB.nk {h : PH} {u : MS} {G : Gh} {z : Sz} {L : Nat} {n : Nat} {D : Nat → Nat × Nat × Nat × List Nat} (X_ : RB h u G z L n D) : n ≤ hN h G.kd := X_.2.2.1
theorem RB.lL {h : PH} {u : MS} {G : Gh} {z : Sz} {L : Nat} {n : Nat} {D : Nat → Nat × Nat × Nat × List Nat} (X_ : RB h u G z L n D) : L ≤ 4000 := X_.2.2.2
theorem RB.mk {h : PH} {u : MS} {G : Gh} {z : Sz} {L : Nat} {n : Nat} {D : Nat → Nat × Nat × Nat × List Nat} (ir_ : Ir h u G z) (ts_ : TS h u G L n D) (nk_ : n ≤ hN h G.kd) (lL_ : L ≤ 4000) : RB h u G z L n D := ⟨ir_, ts_, nk_, lL_⟩
theorem scan_v {h : PH} {u : MS} {G : Gh} {z : Sz} (I : Iv h u G z) : ∃ h' G' i j uc u' L n D, fX10_scan h 24 (some 1) = some (h', i, j) ∧ i ≤ 3 ∧ j ≤ 3603 ∧ fX12_read u = fX12_read_10 (FU - L) uc (nI L) ∧ mI uc 4 = nI L ∧ fX12_cut (mSI uc 2 0) = some u' ∧ RB h' u' G' z L n D ∧ pot h' G' = pot h G ∧ mI u' 2 = 0 ∧ MAg (fun k => iM k ∧ k ≠ 1 ∧ k ≠ 2) u u' := by
  have S := I.sx
  have zz := S.zz
  have o24 : ¬ (24 < hZ h ∧ G.ow 24 / 100000 ≠ 7) := fun q => q.2 (by rw [S.o24])
  -- the start
  have J1 : Ir (sI (sI (sR h 1285 24 (some 1)) 1286 24 0) 1284 24 0) u G z := I.ir.keep (S.src (some 1)) (fun _ => rfl) ((((Ag.refl h).sR).sI o24).sI o24) (MAg.refl u)
  have I1 : Iv (sI (sI (sR h 1285 24 (some 1)) 1286 24 0) 1284 24 0) u G z := Iv.mk J1.sx J1.zo J1.zc J1.zk J1.zm J1.kr J1.rm (I.tp.fr (h := h) (u := u) rfl (by simp only [z_hI_sI, z_hL_sI, z_hR_sI, z_hA_sI, z_hB_sI, z_hC_sI, z_hT_sI, z_hN_sI, z_hZ_sI, z_hI_sL, z_hL_sL, z_hR_sL, z_hA_sL, z_hB_sL, z_hC_sL, z_hT_sL, z_hN_sL, z_hZ_sL, z_hI_sR, z_hL_sR, z_hR_sR, z_hA_sR, z_hB_sR, z_hC_sR, z_hT_sR, z_hN_sR, z_hZ_sR, z_hI_sA, z_hL_sA, z_hR_sA, z_hA_sA, z_hB_sA, z_hC_sA, z_hT_sA, z_hN_sA, z_hZ_sA, z_hI_sB, z_hL_sB, z_hR_sB, z_hA_sB, z_hB_sB, z_hC_sB, z_hT_sB, z_hN_sB, z_hZ_sB, z_hI_sC, z_hL_sC, z_hR_sC, z_hA_sC, z_hB_sC, z_hC_sC, z_hT_sC, z_hN_sC, z_hZ_sC, z_hI_sY, z_hL_sY, z_hR_sY, z_hA_sY, z_hB_sY, z_hC_sY, z_hT_sY, z_hN_sY, z_hZ_sY, z_hI_nO, z_hL_nO, z_hR_nO, z_hA_nO, z_hB_nO, z_hC_nO, z_hT_nO, z_hN_nO, z_hZ_nO, z_hI_nA, z_hL_nA, z_hR_nA, z_hA_nA, z_hB_nA, z_hC_nA, z_hT_nA, z_hN_nA, z_hZ_nA, if_true, if_false, and_false, false_and, and_true, true_and, and_self, decide_true, decide_false, reduceCtorEq, not_false_eq_true, not_true_eq_false, Nat.reduceEqDiff, Nat.reduceAdd, Nat.reduceMul, Nat.add_zero, Nat.zero_add]) (fun _ => rfl) rfl (fun _ => rfl)) J1.ou J1.dy J1.nu J1.te (by simp only [z_hI_sI, z_hL_sI, z_hR_sI, z_hA_sI, z_hB_sI, z_hC_sI, z_hT_sI, z_hN_sI, z_hZ_sI, z_hI_sL, z_hL_sL, z_hR_sL, z_hA_sL, z_hB_sL, z_hC_sL, z_hT_sL, z_hN_sL, z_hZ_sL, z_hI_sR, z_hL_sR, z_hR_sR, z_hA_sR, z_hB_sR, z_hC_sR, z_hT_sR, z_hN_sR, z_hZ_sR, z_hI_sA, z_hL_sA, z_hR_sA, z_hA_sA, z_hB_sA, z_hC_sA, z_hT_sA, z_hN_sA, z_hZ_sA, z_hI_sB, z_hL_sB, z_hR_sB, z_hA_sB, z_hB_sB, z_hC_sB, z_hT_sB, z_hN_sB, z_hZ_sB, z_hI_sC, z_hL_sC, z_hR_sC, z_hA_sC, z_hB_sC, z_hC_sC, z_hT_sC, z_hN_sC, z_hZ_sC, z_hI_sY, z_hL_sY, z_hR_sY, z_hA_sY, z_hB_sY, z_hC_sY, z_hT_sY, z_hN_sY, z_hZ_sY, z_hI_nO, z_hL_nO, z_hR_nO, z_hA_nO, z_hB_nO, z_hC_nO, z_hT_nO, z_hN_nO, z_hZ_nO, z_hI_nA, z_hL_nA, z_hR_nA, z_hA_nA, z_hB_nA, z_hC_nA, z_hT_nA, z_hN_nA, z_hZ_nA, if_true, if_false, and_false, false_and, and_true, true_and, and_self, decide_true, decide_false, reduceCtorEq, not_false_eq_true, not_true_eq_false, Nat.reduceEqDiff, Nat.reduceAdd, Nat.reduceMul, Nat.add_zero, Nat.zero_add]; exact I.pl) J1.ju
  obtain ⟨L, l1, l2, l3, l4, l5⟩ := I.tp.ex
  have rm := I.rm.k3
  -- the room
  obtain ⟨n0, e0, hn1, hn2, hn3⟩ : ∃ n0, (if (1200 : Int32) < nI L then 1200 else nI L) + 1 = nI n0 ∧ 1 ≤ n0 ∧ n0 ≤ 1201 ∧ (L + 1 ≤ n0 ∨ n0 = 1201) := by
    by_cases c : 1200 < L
    · exact ⟨1201, by rw [if_pos (show (1200 : Int32) < nI L from nI_lt (a := 1200) c (by omega))]; rfl, by omega, by omega, .inr rfl⟩
    · exact ⟨L + 1, by rw [if_neg (show ¬ (1200 : Int32) < nI L from nI_nlt (a := 1200) (by omega) (by omega)), nI_1], by omega, by omega, .inl (Nat.le_refl _)⟩
  obtain ⟨h2, G2, i2, j2, e2, hi2, hj2, I2, hm, at2, sz2, src2, pt2⟩ : ∃ h2 G2 i2 j2, fX10_makeRoom (sI (sI (sR h 1285 24 (some 1)) 1286 24 0) 1284 24 0) 24 (nI n0) = some (h2, i2, j2) ∧ i2 ≤ 3 ∧ j2 ≤ 3603 ∧ Iv h2 u G2 z ∧ n0 ≤ hN h2 G2.kd ∧ hI h2 1286 24 = 0 ∧ hI h2 1284 24 = 0 ∧ hR h2 1285 24 = some 1 ∧ pot h2 G2 = pot h G := by
    have S1 := I1.sx
    rcases makeRoom_v S1 hn1 hn2 rm with ⟨c, e⟩ | ⟨c, e⟩
    · exact ⟨_, G, 0, 0, e, by omega, by omega, I1, c, by simp only [z_hI_sI, z_hL_sI, z_hR_sI, z_hA_sI, z_hB_sI, z_hC_sI, z_hT_sI, z_hN_sI, z_hZ_sI, z_hI_sL, z_hL_sL, z_hR_sL, z_hA_sL, z_hB_sL, z_hC_sL, z_hT_sL, z_hN_sL, z_hZ_sL, z_hI_sR, z_hL_sR, z_hR_sR, z_hA_sR, z_hB_sR, z_hC_sR, z_hT_sR, z_hN_sR, z_hZ_sR, z_hI_sA, z_hL_sA, z_hR_sA, z_hA_sA, z_hB_sA, z_hC_sA, z_hT_sA, z_hN_sA, z_hZ_sA, z_hI_sB, z_hL_sB, z_hR_sB, z_hA_sB, z_hB_sB, z_hC_sB, z_hT_sB, z_hN_sB, z_hZ_sB, z_hI_sC, z_hL_sC, z_hR_sC, z_hA_sC, z_hB_sC, z_hC_sC, z_hT_sC, z_hN_sC, z_hZ_sC, z_hI_sY, z_hL_sY, z_hR_sY, z_hA_sY, z_hB_sY, z_hC_sY, z_hT_sY, z_hN_sY, z_hZ_sY, z_hI_nO, z_hL_nO, z_hR_nO, z_hA_nO, z_hB_nO, z_hC_nO, z_hT_nO, z_hN_nO, z_hZ_nO, z_hI_nA, z_hL_nA, z_hR_nA, z_hA_nA, z_hB_nA, z_hC_nA, z_hT_nA, z_hN_nA, z_hZ_nA, if_true, if_false, and_false, false_and, and_true, true_and, and_self, decide_true, decide_false, reduceCtorEq, not_false_eq_true, not_true_eq_false, Nat.reduceEqDiff, Nat.reduceAdd, Nat.reduceMul, Nat.add_zero, Nat.zero_add], by simp only [z_hI_sI, z_hL_sI, z_hR_sI, z_hA_sI, z_hB_sI, z_hC_sI, z_hT_sI, z_hN_sI, z_hZ_sI, z_hI_sL, z_hL_sL, z_hR_sL, z_hA_sL, z_hB_sL, z_hC_sL, z_hT_sL, z_hN_sL, z_hZ_sL, z_hI_sR, z_hL_sR, z_hR_sR, z_hA_sR, z_hB_sR, z_hC_sR, z_hT_sR, z_hN_sR, z_hZ_sR, z_hI_sA, z_hL_sA, z_hR_sA, z_hA_sA, z_hB_sA, z_hC_sA, z_hT_sA, z_hN_sA, z_hZ_sA, z_hI_sB, z_hL_sB, z_hR_sB, z_hA_sB, z_hB_sB, z_hC_sB, z_hT_sB, z_hN_sB, z_hZ_sB, z_hI_sC, z_hL_sC, z_hR_sC, z_hA_sC, z_hB_sC, z_hC_sC, z_hT_sC, z_hN_sC, z_hZ_sC, z_hI_sY, z_hL_sY, z_hR_sY, z_hA_sY, z_hB_sY, z_hC_sY, z_hT_sY, z_hN_sY, z_hZ_sY, z_hI_nO, z_hL_nO, z_hR_nO, z_hA_nO, z_hB_nO, z_hC_nO, z_hT_nO, z_hN_nO, z_hZ_nO, z_hI_nA, z_hL_nA, z_hR_nA, z_hA_nA, z_hB_nA, z_hC_nA, z_hT_nA, z_hN_nA, z_hZ_nA, if_true, if_false, and_false, false_and, and_true, true_and, and_self, decide_true, decide_false, reduceCtorEq, not_false_eq_true, not_true_eq_false, Nat.reduceEqDiff, Nat.reduceAdd, Nat.reduceMul, Nat.add_zero, Nat.zero_add], by simp only [z_hI_sI, z_hL_sI, z_hR_sI, z_hA_sI, z_hB_sI, z_hC_sI, z_hT_sI, z_hN_sI, z_hZ_sI, z_hI_sL, z_hL_sL, z_hR_sL, z_hA_sL, z_hB_sL, z_hC_sL, z_hT_sL, z_hN_sL, z_hZ_sL, z_hI_sR, z_hL_sR, z_hR_sR, z_hA_sR, z_hB_sR, z_hC_sR, z_hT_sR, z_hN_sR, z_hZ_sR, z_hI_sA, z_hL_sA, z_hR_sA, z_hA_sA, z_hB_sA, z_hC_sA, z_hT_sA, z_hN_sA, z_hZ_sA, z_hI_sB, z_hL_sB, z_hR_sB, z_hA_sB, z_hB_sB, z_hC_sB, z_hT_sB, z_hN_sB, z_hZ_sB, z_hI_sC, z_hL_sC, z_hR_sC, z_hA_sC, z_hB_sC, z_hC_sC, z_hT_sC, z_hN_sC, z_hZ_sC, z_hI_sY, z_hL_sY, z_hR_sY, z_hA_sY, z_hB_sY, z_hC_sY, z_hT_sY, z_hN_sY, z_hZ_sY, z_hI_nO, z_hL_nO, z_hR_nO, z_hA_nO, z_hB_nO, z_hC_nO, z_hT_nO, z_hN_nO, z_hZ_nO, z_hI_nA, z_hL_nA, z_hR_nA, z_hA_nA, z_hB_nA, z_hC_nA, z_hT_nA, z_hN_nA, z_hZ_nA, if_true, if_false, and_false, false_and, and_true, true_and, and_self, decide_true, decide_false, reduceCtorEq, not_false_eq_true, not_true_eq_false, Nat.reduceEqDiff, Nat.reduceAdd, Nat.reduceMul, Nat.add_zero, Nat.zero_add], rfl⟩
    · refine ⟨_, _, 3, n0 + (n0 + n0), e, by omega, by omega, I1.room hn2, ?_, ?_, ?_, ?_, ?_⟩
      · show n0 ≤ hN (rmH _ n0) (hZ _)
        rw [rmH_N, if_neg (by omega), if_neg (by omega), if_pos rfl]
        exact Nat.le_refl _
      · show hI (sI (sI (sR h 1285 24 (some 1)) 1286 24 0) 1284 24 0) 1286 24 = 0
        simp only [z_hI_sI, z_hL_sI, z_hR_sI, z_hA_sI, z_hB_sI, z_hC_sI, z_hT_sI, z_hN_sI, z_hZ_sI, z_hI_sL, z_hL_sL, z_hR_sL, z_hA_sL, z_hB_sL, z_hC_sL, z_hT_sL, z_hN_sL, z_hZ_sL, z_hI_sR, z_hL_sR, z_hR_sR, z_hA_sR, z_hB_sR, z_hC_sR, z_hT_sR, z_hN_sR, z_hZ_sR, z_hI_sA, z_hL_sA, z_hR_sA, z_hA_sA, z_hB_sA, z_hC_sA, z_hT_sA, z_hN_sA, z_hZ_sA, z_hI_sB, z_hL_sB, z_hR_sB, z_hA_sB, z_hB_sB, z_hC_sB, z_hT_sB, z_hN_sB, z_hZ_sB, z_hI_sC, z_hL_sC, z_hR_sC, z_hA_sC, z_hB_sC, z_hC_sC, z_hT_sC, z_hN_sC, z_hZ_sC, z_hI_sY, z_hL_sY, z_hR_sY, z_hA_sY, z_hB_sY, z_hC_sY, z_hT_sY, z_hN_sY, z_hZ_sY, z_hI_nO, z_hL_nO, z_hR_nO, z_hA_nO, z_hB_nO, z_hC_nO, z_hT_nO, z_hN_nO, z_hZ_nO, z_hI_nA, z_hL_nA, z_hR_nA, z_hA_nA, z_hB_nA, z_hC_nA, z_hT_nA, z_hN_nA, z_hZ_nA, if_true, if_false, and_false, false_and, and_true, true_and, and_self, decide_true, decide_false, reduceCtorEq, not_false_eq_true, not_true_eq_false, Nat.reduceEqDiff, Nat.reduceAdd, Nat.reduceMul, Nat.add_zero, Nat.zero_add]
      · show hI (sI (sI (sR h 1285 24 (some 1)) 1286 24 0) 1284 24 0) 1284 24 = 0
        simp only [z_hI_sI, z_hL_sI, z_hR_sI, z_hA_sI, z_hB_sI, z_hC_sI, z_hT_sI, z_hN_sI, z_hZ_sI, z_hI_sL, z_hL_sL, z_hR_sL, z_hA_sL, z_hB_sL, z_hC_sL, z_hT_sL, z_hN_sL, z_hZ_sL, z_hI_sR, z_hL_sR, z_hR_sR, z_hA_sR, z_hB_sR, z_hC_sR, z_hT_sR, z_hN_sR, z_hZ_sR, z_hI_sA, z_hL_sA, z_hR_sA, z_hA_sA, z_hB_sA, z_hC_sA, z_hT_sA, z_hN_sA, z_hZ_sA, z_hI_sB, z_hL_sB, z_hR_sB, z_hA_sB, z_hB_sB, z_hC_sB, z_hT_sB, z_hN_sB, z_hZ_sB, z_hI_sC, z_hL_sC, z_hR_sC, z_hA_sC, z_hB_sC, z_hC_sC, z_hT_sC, z_hN_sC, z_hZ_sC, z_hI_sY, z_hL_sY, z_hR_sY, z_hA_sY, z_hB_sY, z_hC_sY, z_hT_sY, z_hN_sY, z_hZ_sY, z_hI_nO, z_hL_nO, z_hR_nO, z_hA_nO, z_hB_nO, z_hC_nO, z_hT_nO, z_hN_nO, z_hZ_nO, z_hI_nA, z_hL_nA, z_hR_nA, z_hA_nA, z_hB_nA, z_hC_nA, z_hT_nA, z_hN_nA, z_hZ_nA, if_true, if_false, and_false, false_and, and_true, true_and, and_self, decide_true, decide_false, reduceCtorEq, not_false_eq_true, not_true_eq_false, Nat.reduceEqDiff, Nat.reduceAdd, Nat.reduceMul, Nat.add_zero, Nat.zero_add]
      · rw [rmH_R, if_neg (by omega), if_neg (by omega), if_neg (by omega)]
        simp only [z_hI_sI, z_hL_sI, z_hR_sI, z_hA_sI, z_hB_sI, z_hC_sI, z_hT_sI, z_hN_sI, z_hZ_sI, z_hI_sL, z_hL_sL, z_hR_sL, z_hA_sL, z_hB_sL, z_hC_sL, z_hT_sL, z_hN_sL, z_hZ_sL, z_hI_sR, z_hL_sR, z_hR_sR, z_hA_sR, z_hB_sR, z_hC_sR, z_hT_sR, z_hN_sR, z_hZ_sR, z_hI_sA, z_hL_sA, z_hR_sA, z_hA_sA, z_hB_sA, z_hC_sA, z_hT_sA, z_hN_sA, z_hZ_sA, z_hI_sB, z_hL_sB, z_hR_sB, z_hA_sB, z_hB_sB, z_hC_sB, z_hT_sB, z_hN_sB, z_hZ_sB, z_hI_sC, z_hL_sC, z_hR_sC, z_hA_sC, z_hB_sC, z_hC_sC, z_hT_sC, z_hN_sC, z_hZ_sC, z_hI_sY, z_hL_sY, z_hR_sY, z_hA_sY, z_hB_sY, z_hC_sY, z_hT_sY, z_hN_sY, z_hZ_sY, z_hI_nO, z_hL_nO, z_hR_nO, z_hA_nO, z_hB_nO, z_hC_nO, z_hT_nO, z_hN_nO, z_hZ_nO, z_hI_nA, z_hL_nA, z_hR_nA, z_hA_nA, z_hB_nA, z_hC_nA, z_hT_nA, z_hN_nA, z_hZ_nA, if_true, if_false, and_false, false_and, and_true, true_and, and_self, decide_true, decide_false, reduceCtorEq, not_false_eq_true, not_true_eq_false, Nat.reduceEqDiff, Nat.reduceAdd, Nat.reduceMul, Nat.add_zero, Nat.zero_add]
      · have nn : ∀ a, a < hZ h → hN (rmH (sI (sI (sR h 1285 24 (some 1)) 1286 24 0) 1284 24 0) n0) a = hN h a := fun a ha => by
          have e : hZ (sI (sI (sR h 1285 24 (some 1)) 1286 24 0) 1284 24 0) = hZ h := rfl
          rw [rmH_N, e, if_neg (by omega), if_neg (by omega), if_neg (by omega)]
          rfl
        show hN _ G.tk + hN _ G.wk + hN _ G.pg + (if G.jj then 3 * hN _ (G.jd 15) else 0) = hN h G.tk + hN h G.wk + hN h G.pg + (if G.jj then 3 * hN h (G.jd 15) else 0)
        rw [nn _ (S.lt S.ttk (by omega)), nn _ (S.lt S.twk (by omega)), nn _ (S.lt S.tpg (by omega))]
        cases J : G.jj
        · rfl
        · simp only [if_true]; rw [nn _ (jd_lt J S 15 (by omega))]
  have S2 := I2.sx
  have zz2 := S2.zz
  obtain ⟨L2, m1, m2, m3, m4, m5⟩ := I2.tp.ex
  have eL : L2 = L := (nI_eq (by omega) (by omega)).mp (m4.symm.trans l4)
  subst eL
  -- bytes
  have bex : ∀ q, ∃ c, c < 256 ∧ hA h2 G2.tk q &&& 255 = nI c := fun q => by_c (I2.tp.bt q)
  obtain ⟨b, hb⟩ : ∃ b : Nat → Nat, ∀ q, b q < 256 ∧ hA h2 G2.tk q &&& 255 = nI (b q) := ⟨fun q => Classical.choose (bex q), fun q => Classical.choose_spec (bex q)⟩
  have E : SE h2 G2 L2 b (hN h2 G2.kd) := ⟨S2.t24, src2, S2.t1, m3, S2.r0_1, S2.ttk, m2, I2.tp.hn, fun q _ => (hb q).2, fun q => (hb q).1, S2.r1280_24, S2.t25, S2.n25, I2.rm.kc, S2.r1281_24, S2.r1282_24, S2.r1283_24, S2.tkd, S2.tst, S2.tvl, rfl, I2.rm.k1, I2.rm.k2, I2.rm.k3, ne_ow S2.otk S2.okd (by omega), ne_ow S2.otk S2.ost (by omega), ne_ow S2.okd S2.ost (by omega), ne_ow S2.o25 S2.ovl (by omega)⟩
  -- the reference's copy
  obtain ⟨uc, ec, Mc, _, hc⟩ := copy_v m1 L2 0 (FU - (L2 + 1)) (u := mSI u 4 (mI u 2)) (by omega) (by simp only [z_mI_mSI, z_mL_mSI, z_mA_mSI, z_mB_mSI, z_mI_mSL, z_mL_mSL, z_mA_mSL, z_mB_mSL, z_mI_mSA, z_mL_mSA, z_mA_mSA, z_mB_mSA, z_mI_mSB, z_mL_mSB, z_mA_mSB, z_mB_mSB, if_true, if_false, and_false, false_and, and_true, true_and, and_self, decide_true, decide_false, reduceCtorEq, not_false_eq_true, not_true_eq_false, Nat.reduceEqDiff, Nat.reduceAdd, Nat.reduceMul, Nat.add_zero, Nat.zero_add]; exact l4)
  rw [show FU - (L2 + 1) + (L2 + 1) = FU by have : FU = 100000 := rfl; omega, show FU - (L2 + 1) + 1 = FU - L2 by have : FU = 100000 := rfl; omega] at ec
  have c4 : mI uc 4 = nI L2 := ((Mc 4 (by omega)).1).trans (by simp only [z_mI_mSI, z_mL_mSI, z_mA_mSI, z_mB_mSI, z_mI_mSL, z_mL_mSL, z_mA_mSL, z_mB_mSL, z_mI_mSA, z_mL_mSA, z_mA_mSA, z_mB_mSA, z_mI_mSB, z_mL_mSB, z_mA_mSB, z_mB_mSB, if_true, if_false, and_false, false_and, and_true, true_and, and_self, decide_true, decide_false, reduceCtorEq, not_false_eq_true, not_true_eq_false, Nat.reduceEqDiff, Nat.reduceAdd, Nat.reduceMul, Nat.add_zero, Nat.zero_add]; exact l4)
  have M2 : ME (mSI (mSI uc 2 0) 10 0) L2 b := by
    refine ⟨by simp only [z_mI_mSI, z_mL_mSI, z_mA_mSI, z_mB_mSI, z_mI_mSL, z_mL_mSL, z_mA_mSL, z_mB_mSL, z_mI_mSA, z_mL_mSA, z_mA_mSA, z_mB_mSA, z_mI_mSB, z_mL_mSB, z_mA_mSB, z_mB_mSB, if_true, if_false, and_false, false_and, and_true, true_and, and_self, decide_true, decide_false, reduceCtorEq, not_false_eq_true, not_true_eq_false, Nat.reduceEqDiff, Nat.reduceAdd, Nat.reduceMul, Nat.add_zero, Nat.zero_add]; exact c4, fun q hq => ?_, fun q => (hb q).1, fun i hi => ?_⟩
    · show mA uc 3 q &&& 255 = nI (b q)
      have e : mA (mSI u 4 (mI u 2)) 1 q = hA h2 G2.tk q := (m5 q hq).symm
      rw [hc q (by omega) hq, e]
      have := I2.tp.bt q
      unfold isBy at this
      rw [this]
      exact (hb q).2
    · exact ((Mc 9 (by omega)).2.2.2 i).trans (I.rm.km i hi)
  have k3 := I2.rm.k3
  obtain ⟨h3, u3, n, D, r1, r2, X3, A3, T3, n3⟩ := scan_l E m1 (by omega) 1201 0 0 FU FU (h := h2) (u := mSI (mSI uc 2 0) 10 0) (D := fun _ => (0, 0, 0, [])) (by omega) (by have : FU = 100000 := rfl; omega) (by have : FU = 100000 := rfl; omega) (by omega) (by omega) (SC.refl h2 G2) at2 sz2 M2 (by simp only [z_mI_mSI, z_mL_mSI, z_mA_mSI, z_mB_mSI, z_mI_mSL, z_mL_mSL, z_mA_mSL, z_mB_mSL, z_mI_mSA, z_mL_mSA, z_mA_mSA, z_mB_mSA, z_mI_mSB, z_mL_mSB, z_mA_mSB, z_mB_mSB, if_true, if_false, and_false, false_and, and_true, true_and, and_self, decide_true, decide_false, reduceCtorEq, not_false_eq_true, not_true_eq_false, Nat.reduceEqDiff, Nat.reduceAdd, Nat.reduceMul, Nat.add_zero, Nat.zero_add]; rfl) (MAg.refl _) (fun j hj => by omega) (fun a c _ hc => by omega) (fun j hj => by omega) (fun j hj => by omega) (fun q => by omega)
  have MM : MAg (fun k => iM k ∧ k ≠ 1 ∧ k ≠ 2) u u3 := by
    have a1 : MAg (fun k => iM k ∧ k ≠ 1 ∧ k ≠ 2) u (mSI u 4 (mI u 2)) := (MAg.refl u).sI (fun q => by have := q.1; unfold iM at this; omega)
    have a2 : MAg (fun k => iM k ∧ k ≠ 1 ∧ k ≠ 2) u uc := a1.trans (Mc.mono fun k hk => by have := hk.1; unfold iM at this; omega)
    have a3 : MAg (fun k => iM k ∧ k ≠ 1 ∧ k ≠ 2) u (mSI (mSI uc 2 0) 10 0) := (a2.sI (fun q => q.2.2 rfl)).sI (fun q => by have := q.1; unfold iM at this; omega)
    exact a3.trans (A3.mono fun k hk => by have := hk.1; unfold iM at this; omega)
  refine ⟨h3, G2, i2 + 0, j2 + 0, uc, u3, L2, n, D, ?_, by omega, by omega, ?_, c4, ?_, ⟨(I2.ir).keep (X3.sx S2) (fun a => by rw [X3.N]) (X3.ag S2) MM, T3, ?_, m1⟩, ?_, ?_, MM⟩
  · unfold fX10_scan fX10_scan_0
    have e1 : hI (sI (sI (sR h 1285 24 (some 1)) 1286 24 0) 1284 24 0) 1 1 = nI L2 := by simp only [z_hI_sI, z_hL_sI, z_hR_sI, z_hA_sI, z_hB_sI, z_hC_sI, z_hT_sI, z_hN_sI, z_hZ_sI, z_hI_sL, z_hL_sL, z_hR_sL, z_hA_sL, z_hB_sL, z_hC_sL, z_hT_sL, z_hN_sL, z_hZ_sL, z_hI_sR, z_hL_sR, z_hR_sR, z_hA_sR, z_hB_sR, z_hC_sR, z_hT_sR, z_hN_sR, z_hZ_sR, z_hI_sA, z_hL_sA, z_hR_sA, z_hA_sA, z_hB_sA, z_hC_sA, z_hT_sA, z_hN_sA, z_hZ_sA, z_hI_sB, z_hL_sB, z_hR_sB, z_hA_sB, z_hB_sB, z_hC_sB, z_hT_sB, z_hN_sB, z_hZ_sB, z_hI_sC, z_hL_sC, z_hR_sC, z_hA_sC, z_hB_sC, z_hC_sC, z_hT_sC, z_hN_sC, z_hZ_sC, z_hI_sY, z_hL_sY, z_hR_sY, z_hA_sY, z_hB_sY, z_hC_sY, z_hT_sY, z_hN_sY, z_hZ_sY, z_hI_nO, z_hL_nO, z_hR_nO, z_hA_nO, z_hB_nO, z_hC_nO, z_hT_nO, z_hN_nO, z_hZ_nO, z_hI_nA, z_hL_nA, z_hR_nA, z_hA_nA, z_hB_nA, z_hC_nA, z_hT_nA, z_hN_nA, z_hZ_nA, if_true, if_false, and_false, false_and, and_true, true_and, and_self, decide_true, decide_false, reduceCtorEq, not_false_eq_true, not_true_eq_false, Nat.reduceEqDiff, Nat.reduceAdd, Nat.reduceMul, Nat.add_zero, Nat.zero_add]; exact l3
    rw [oC_d S.t24, oL_v, oL_v, oL_v, oN_v, oC_d (show hT (sI (sI (sR h 1285 24 (some 1)) 1286 24 0) 1284 24 0) 1 = 1 from S.t1), e1, e0, e2, oB3_v, show (0 : Int32) = nI 0 from rfl, r1, oK3_v]
  · show fX12_read_0 u = _
    unfold fX12_read_0
    rw [oL_v]
    exact ec
  · unfold fX12_cut fX12_cut_0
    rw [oL_v]
    exact r2
  · rw [X3.N]; exact n3
  · rw [← pt2]
    unfold pot
    rw [X3.N]
  · exact ((A3 2 (by omega)).1).trans (by simp only [z_mI_mSI, z_mL_mSI, z_mA_mSI, z_mB_mSI, z_mI_mSL, z_mL_mSL, z_mA_mSL, z_mB_mSL, z_mI_mSA, z_mL_mSA, z_mA_mSA, z_mB_mSA, z_mI_mSB, z_mL_mSB, z_mA_mSB, z_mB_mSB, if_true, if_false, and_false, false_and, and_true, true_and, and_self, decide_true, decide_false, reduceCtorEq, not_false_eq_true, not_true_eq_false, Nat.reduceEqDiff, Nat.reduceAdd, Nat.reduceMul, Nat.add_zero, Nat.zero_add])
