def Gh.wG (G : Gh) (pg : Nat) (ow : Nat → Nat) : Gh := Gh.mk G.tk G.wk G.kd G.st G.vl pg G.rl G.ca G.hd G.cd G.nr G.nc G.te G.nt G.jj G.jd ow
/-- the program's row, twice as long -/
def pgH (h : PH) (p : Nat) : PH := sR (sY (nA h 101 (2 * hN h p)) (hZ h) p (hN h p)) 141 5 (some (hZ h))
theorem pgH_T (h : PH) (p a : Nat) : hT (pgH h p) a = if a = hZ h then 101 else hT h a := rfl
theorem pgH_N (h : PH) (p a : Nat) : hN (pgH h p) a = if a = hZ h then 2 * hN h p else hN h a := rfl
theorem pgH_R (h : PH) (p f a : Nat) : hR (pgH h p) f a = if f = 141 ∧ a = 5 then some (hZ h) else hR h f a := rfl
theorem pgH_C (h : PH) (p a i : Nat) : hC (pgH h p) a i = if a = hZ h then none else hC h a i := rfl
theorem pgH_B (h : PH) (p a i : Nat) : hB (pgH h p) a i = if a = hZ h then 0 else hB h a i := rfl
section E0
variable {h : PH} {G : Gh} {z : Sz}
theorem pgH_A (S : SX h G) (i : Nat) (hi : i < hN h G.pg) : hA (pgH h G.pg) (hZ h) i = hA h G.pg i := by
  have lp := S.lt S.tpg (by omega)
  unfold pgH
  simp only [z_hI_sI, z_hL_sI, z_hR_sI, z_hA_sI, z_hB_sI, z_hC_sI, z_hT_sI, z_hN_sI, z_hZ_sI, z_hI_sL, z_hL_sL, z_hR_sL, z_hA_sL, z_hB_sL, z_hC_sL, z_hT_sL, z_hN_sL, z_hZ_sL, z_hI_sR, z_hL_sR, z_hR_sR, z_hA_sR, z_hB_sR, z_hC_sR, z_hT_sR, z_hN_sR, z_hZ_sR, z_hI_sA, z_hL_sA, z_hR_sA, z_hA_sA, z_hB_sA, z_hC_sA, z_hT_sA, z_hN_sA, z_hZ_sA, z_hI_sB, z_hL_sB, z_hR_sB, z_hA_sB, z_hB_sB, z_hC_sB, z_hT_sB, z_hN_sB, z_hZ_sB, z_hI_sC, z_hL_sC, z_hR_sC, z_hA_sC, z_hB_sC, z_hC_sC, z_hT_sC, z_hN_sC, z_hZ_sC, z_hI_sY, z_hL_sY, z_hR_sY, z_hA_sY, z_hB_sY, z_hC_sY, z_hT_sY, z_hN_sY, z_hZ_sY, z_hI_nO, z_hL_nO, z_hR_nO, z_hA_nO, z_hB_nO, z_hC_nO, z_hT_nO, z_hN_nO, z_hZ_nO, z_hI_nA, z_hL_nA, z_hR_nA, z_hA_nA, z_hB_nA, z_hC_nA, z_hT_nA, z_hN_nA, z_hZ_nA, if_true, if_false, and_false, false_and, and_true, true_and, and_self, decide_true, decide_false, reduceCtorEq, not_false_eq_true, not_true_eq_false, Nat.reduceEqDiff, Nat.reduceAdd, Nat.reduceMul, Nat.add_zero, Nat.zero_add]
  rw [if_pos hi, if_neg (by omega)]
theorem pgH_A' (S : SX h G) (a i : Nat) (ha : a < hZ h) : hA (pgH h G.pg) a i = hA h a i := by
  unfold pgH
  simp only [z_hI_sI, z_hL_sI, z_hR_sI, z_hA_sI, z_hB_sI, z_hC_sI, z_hT_sI, z_hN_sI, z_hZ_sI, z_hI_sL, z_hL_sL, z_hR_sL, z_hA_sL, z_hB_sL, z_hC_sL, z_hT_sL, z_hN_sL, z_hZ_sL, z_hI_sR, z_hL_sR, z_hR_sR, z_hA_sR, z_hB_sR, z_hC_sR, z_hT_sR, z_hN_sR, z_hZ_sR, z_hI_sA, z_hL_sA, z_hR_sA, z_hA_sA, z_hB_sA, z_hC_sA, z_hT_sA, z_hN_sA, z_hZ_sA, z_hI_sB, z_hL_sB, z_hR_sB, z_hA_sB, z_hB_sB, z_hC_sB, z_hT_sB, z_hN_sB, z_hZ_sB, z_hI_sC, z_hL_sC, z_hR_sC, z_hA_sC, z_hB_sC, z_hC_sC, z_hT_sC, z_hN_sC, z_hZ_sC, z_hI_sY, z_hL_sY, z_hR_sY, z_hA_sY, z_hB_sY, z_hC_sY, z_hT_sY, z_hN_sY, z_hZ_sY, z_hI_nO, z_hL_nO, z_hR_nO, z_hA_nO, z_hB_nO, z_hC_nO, z_hT_nO, z_hN_nO, z_hZ_nO, z_hI_nA, z_hL_nA, z_hR_nA, z_hA_nA, z_hB_nA, z_hC_nA, z_hT_nA, z_hN_nA, z_hZ_nA]
  rw [if_neg (fun q => by omega), if_neg (by omega)]
theorem CD.pgrow (S : SX h G) (nr : z.nr ≤ G.nr) (hz : z.pc ≤ hN h G.pg) : CD h (pgH h G.pg) G (G.wG (hZ h) (upO G.ow (hZ h) 300104)) z := by
  have zz := S.zz
  have hT' : ∀ a, a < hZ h → hT (pgH h G.pg) a = hT h a := fun a ha => by rw [pgH_T, if_neg (by omega)]
  have hN' : ∀ a, a < hZ h → hN (pgH h G.pg) a = hN h a := fun a ha => by rw [pgH_N, if_neg (by omega)]
  have ho : ∀ a, a < hZ h → upO G.ow (hZ h) 300104 a = G.ow a := fun a ha => upO_n (by omega)
  have hR0 : ∀ f a, f ≠ 141 → hR (pgH h G.pg) f a = hR h f a := fun f a q => by rw [pgH_R, if_neg (fun x => q x.1)]
  have hR' : ∀ f a, a < hZ h → fS f → hR (pgH h G.pg) f a = hR h f a := fun f a _ hf => hR0 f a (by unfold fS at hf; omega)
  have hC' : ∀ a i, a < hZ h → hC (pgH h G.pg) a i = hC h a i := fun a i ha => by rw [pgH_C, if_neg (by omega)]
  have hB' : ∀ a i, a < hZ h → hB (pgH h G.pg) a i = hB h a i := fun a i ha => by rw [pgH_B, if_neg (by omega)]
  have fr' : ∀ i, hZ h + 1 ≤ i → hT (pgH h G.pg) i = 0 := fun i hi => by rw [pgH_T, if_neg (by omega)]; exact S.fr i (by omega)
  refine CD.mk ?_ ?_ (show hZ h ≤ hZ h + 1 by omega) hN' (fun a ha => ⟨fun _ => rfl, fun _ => rfl, fun i => pgH_A' S a i ha.1, fun i => hB' a i ha.1⟩) (fun i => ⟨pgH_A' S _ i (S.lt S.tkd (by omega)), pgH_A' S _ i (S.lt S.tst (by omega)), hB' _ i (S.lt S.tvl (by omega))⟩) rfl (fun a i q => ?_) (fun _ _ _ => rfl) (fun i hi => pgH_A S i (by omega)) ?_ ⟨rfl, rfl, rfl, rfl, rfl, rfl, rfl, rfl⟩
  · exact SX'.mk (SS'.step S.ss hT' hN' ho hR' (show hZ h ≤ hZ h + 1 by omega) fr') (RU'.step S.ru S.fr zz hT' hN' ho hR' (fun a i ha _ => hC' a i ha)) (TE'.step (SX'.te (G := G) S) S.fr hT' hN' ho hR' (fun i _ => hC' 31 i (by omega))) (JU'.step S.ju S.fr hT' hN' ho hR' (hR0 _ _ (by omega)) (fun f hf a _ => hR0 f a (by omega)) (fun a i ha _ => hC' a i ha)) (P6.step (SX'.tk (G := G) S) (by omega) S.fr hT' ho (hR0 _ _ (by omega))) (P6.step (SX'.wk (G := G) S) (by omega) S.fr hT' ho (hR0 _ _ (by omega))) ⟨by rw [pgH_R, if_pos ⟨rfl, rfl⟩]; rfl, by show hT (pgH h G.pg) (hZ h) = 101; rw [pgH_T, if_pos rfl], upO_s⟩ (P6.step (SX'.kd (G := G) S) (by omega) S.fr hT' ho (hR0 _ _ (by omega))) (P6.step (SX'.st (G := G) S) (by omega) S.fr hT' ho (hR0 _ _ (by omega))) (P6.step (SX'.vl (G := G) S) (by omega) S.fr hT' ho (hR0 _ _ (by omega)))
  · exact ⟨rfl, rfl, rfl, rfl, rfl, rfl, rfl, rfl, rfl, Nat.le_refl _, fun _ _ => ⟨rfl, rfl, rfl, Nat.le_refl _, fun _ _ => rfl⟩, ho⟩
  · have la : a < hZ h := by unfold kC at q; omega
    exact ⟨pgH_A' S a i la, hB' a i la⟩
  · show hN h G.pg ≤ hN (pgH h G.pg) (hZ h)
    rw [pgH_N, if_pos rfl]
    omega
end E0
