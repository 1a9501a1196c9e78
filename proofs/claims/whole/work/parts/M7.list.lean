/-- the class's list of instances -/
def LSt (h : PH) (G : Gh) (L : List Nat) (hd : Nat → Nat) : Prop := (hI h 655 (G.jd 0) = nI L.length) ∧ (∀ i, i < L.length → hA h (G.jd 15) i = nI (L.getD i 0) ∧ hA h (G.jd 16) i = nI (hd (L.getD i 0)) ∧ hA h (G.jd 17) i = 0) ∧ (L.length ≤ hN h (G.jd 15)) ∧ (hN h (G.jd 16) = hN h (G.jd 15)) ∧ (hN h (G.jd 17) = hN h (G.jd 15)) ∧ (32 ≤ hN h (G.jd 15)) ∧ (hN h (G.jd 15) ≤ 8192) ∧ (∀ i, isBy (hA h (G.jd 17) i))
theorem LSt.n {h : PH} {G : Gh} {L : List Nat} {hd : Nat → Nat} (X_ : LSt h G L hd) : hI h 655 (G.jd 0) = nI L.length := X_.1
theorem LSt.a {h : PH} {G : Gh} {L : List Nat} {hd : Nat → Nat} (X_ : LSt h G L hd) : ∀ i, i < L.length → hA h (G.jd 15) i = nI (L.getD i 0) ∧ hA h (G.jd 16) i = nI (hd (L.getD i 0)) ∧ hA h (G.jd 17) i = 0 := X_.2.1
theorem LSt.le {h : PH} {G : Gh} {L : List Nat} {hd : Nat → Nat} (X_ : LSt h G L hd) : L.length ≤ hN h (G.jd 15) := X_.2.2.1
theorem LSt.k1 {h : PH} {G : Gh} {L : List Nat} {hd : Nat → Nat} (X_ : LSt h G L hd) : hN h (G.jd 16) = hN h (G.jd 15) := X_.2.2.2.1
theorem LSt.k2 {h : PH} {G : Gh} {L : List Nat} {hd : Nat → Nat} (X_ : LSt h G L hd) : hN h (G.jd 17) = hN h (G.jd 15) := X_.2.2.2.2.1
theorem LSt.k3 {h : PH} {G : Gh} {L : List Nat} {hd : Nat → Nat} (X_ : LSt h G L hd) : 32 ≤ hN h (G.jd 15) := X_.2.2.2.2.2.1
theorem LSt.k4 {h : PH} {G : Gh} {L : List Nat} {hd : Nat → Nat} (X_ : LSt h G L hd) : hN h (G.jd 15) ≤ 8192 := X_.2.2.2.2.2.2.1
theorem LSt.bt {h : PH} {G : Gh} {L : List Nat} {hd : Nat → Nat} (X_ : LSt h G L hd) : ∀ i, isBy (hA h (G.jd 17) i) := X_.2.2.2.2.2.2.2
theorem LSt.mk {h : PH} {G : Gh} {L : List Nat} {hd : Nat → Nat} (n_ : hI h 655 (G.jd 0) = nI L.length) (a_ : ∀ i, i < L.length → hA h (G.jd 15) i = nI (L.getD i 0) ∧ hA h (G.jd 16) i = nI (hd (L.getD i 0)) ∧ hA h (G.jd 17) i = 0) (le_ : L.length ≤ hN h (G.jd 15)) (k1_ : hN h (G.jd 16) = hN h (G.jd 15)) (k2_ : hN h (G.jd 17) = hN h (G.jd 15)) (k3_ : 32 ≤ hN h (G.jd 15)) (k4_ : hN h (G.jd 15) ≤ 8192) (bt_ : ∀ i, isBy (hA h (G.jd 17) i)) : LSt h G L hd := ⟨n_, a_, le_, k1_, k2_, k3_, k4_, bt_⟩
/-- a change in a judgment, lists may be new -/
def GJ (P : Nat → Prop) (h : PH) (h' : PH) (G : Gh) (G' : Gh) : Prop := (∃ jd ow, G' = G.wJ jd ow) ∧ (∀ i, G'.jd i = G.jd i ∨ ((15 ≤ i ∧ i ≤ 17) ∧ hZ h ≤ G'.jd i)) ∧ (∀ b, b < hZ h → G'.ow b = G.ow b) ∧ (hZ h ≤ hZ h') ∧ (∀ b, b < hZ h → hN h' b = hN h b) ∧ (Ag (fun b => b < hZ h ∧ ∀ i, vj i → P i → b ≠ G.jd i) h h')
theorem GJ.ge {P : Nat → Prop} {h : PH} {h' : PH} {G : Gh} {G' : Gh} (X_ : GJ P h h' G G') : ∃ jd ow, G' = G.wJ jd ow := X_.1
theorem GJ.jd {P : Nat → Prop} {h : PH} {h' : PH} {G : Gh} {G' : Gh} (X_ : GJ P h h' G G') : ∀ i, G'.jd i = G.jd i ∨ ((15 ≤ i ∧ i ≤ 17) ∧ hZ h ≤ G'.jd i) := X_.2.1
theorem GJ.ow {P : Nat → Prop} {h : PH} {h' : PH} {G : Gh} {G' : Gh} (X_ : GJ P h h' G G') : ∀ b, b < hZ h → G'.ow b = G.ow b := X_.2.2.1
theorem GJ.Z {P : Nat → Prop} {h : PH} {h' : PH} {G : Gh} {G' : Gh} (X_ : GJ P h h' G G') : hZ h ≤ hZ h' := X_.2.2.2.1
theorem GJ.N {P : Nat → Prop} {h : PH} {h' : PH} {G : Gh} {G' : Gh} (X_ : GJ P h h' G G') : ∀ b, b < hZ h → hN h' b = hN h b := X_.2.2.2.2.1
theorem GJ.ag {P : Nat → Prop} {h : PH} {h' : PH} {G : Gh} {G' : Gh} (X_ : GJ P h h' G G') : Ag (fun b => b < hZ h ∧ ∀ i, vj i → P i → b ≠ G.jd i) h h' := X_.2.2.2.2.2
theorem GJ.mk {P : Nat → Prop} {h : PH} {h' : PH} {G : Gh} {G' : Gh} (ge_ : ∃ jd ow, G' = G.wJ jd ow) (jd_ : ∀ i, G'.jd i = G.jd i ∨ ((15 ≤ i ∧ i ≤ 17) ∧ hZ h ≤ G'.jd i)) (ow_ : ∀ b, b < hZ h → G'.ow b = G.ow b) (Z_ : hZ h ≤ hZ h') (N_ : ∀ b, b < hZ h → hN h' b = hN h b) (ag_ : Ag (fun b => b < hZ h ∧ ∀ i, vj i → P i → b ≠ G.jd i) h h') : GJ P h h' G G' := ⟨ge_, jd_, ow_, Z_, N_, ag_⟩
theorem GJ.of {P : Nat → Prop} {h h' : PH} {G : Gh} (c : CH G P h h') : GJ P h h' G G := by
  apply GJ.mk
  · exact ⟨G.jd, G.ow, rfl⟩
  · exact fun i => .inl rfl
  · exact fun _ _ => rfl
  · rw [c.1.2.2.2.2]; exact Nat.le_refl _
  · intro b _; rw [c.1.2.2.2.1]
  · exact c.2.mono fun b hb => hb.2
theorem GJ.trans {P : Nat → Prop} {h h1 h2 : PH} {G G1 G2 : Gh} (a : GJ P h h1 G G1) (b : GJ P h1 h2 G1 G2) : GJ P h h2 G G2 := by
  have az := a.Z
  have bz := b.Z
  apply GJ.mk
  · obtain ⟨jd, ow, e⟩ := a.ge
    obtain ⟨jd', ow', e'⟩ := b.ge
    exact ⟨jd', ow', by rw [e', e]; rfl⟩
  · intro i
    rcases b.jd i with e | e
    · rw [e]; exact a.jd i
    · exact .inr ⟨e.1, by omega⟩
  · intro x hx; rw [b.ow x (by omega), a.ow x hx]
  · omega
  · intro x hx; rw [b.N x (by omega), a.N x hx]
  · intro x hx
    have q1 := a.ag x hx
    have q2 := b.ag x ⟨by omega, fun i v p e => by
      rcases a.jd i with k | k
      · exact hx.2 i v p (by rw [e, k])
      · have := hx.1; omega⟩
    exact ⟨fun f => (q2.1 f).trans (q1.1 f), fun f => (q2.2.1 f).trans (q1.2.1 f), fun f => (q2.2.2.1 f).trans (q1.2.2.1 f), fun f => (q2.2.2.2 f).trans (q1.2.2.2 f)⟩
theorem GJ.mono {P Q : Nat → Prop} {h h' : PH} {G G' : Gh} (a : GJ P h h' G G') (k : ∀ i, P i → Q i) : GJ Q h h' G G' := GJ.mk a.ge a.jd a.ow a.Z a.N (a.ag.mono fun b hb => ⟨hb.1, fun i v p => hb.2 i v (k i p)⟩)
theorem GJ.jj {P : Nat → Prop} {h h' : PH} {G G' : Gh} (a : GJ P h h' G G') : G'.jj = G.jj := by
  obtain ⟨jd, ow, e⟩ := a.ge
  rw [e]; rfl
theorem GJ.own {P : Nat → Prop} {h h' : PH} {G G' : Gh} (a : GJ P h h' G G') (S : SX h G) (J : G.jj = true) {i t : Nat} (w : vj i) (n : ¬ P i) (ti : hT h (G.jd i) = t) (t0 : t ≠ 0) : (∀ f, hI h' f (G.jd i) = hI h f (G.jd i)) ∧ (∀ f, hL h' f (G.jd i) = hL h f (G.jd i)) ∧ (∀ q, hA h' (G.jd i) q = hA h (G.jd i) q) ∧ ∀ q, hB h' (G.jd i) q = hB h (G.jd i) q :=
  a.ag (G.jd i) ⟨S.lt ti t0, fun j v p => jd_ne S J w v fun e => n (by rw [e]; exact p)⟩
theorem GJ.out {P : Nat → Prop} {h h' : PH} {G G' : Gh} (a : GJ P h h' G G') (S : SX h G) (J : G.jj = true) {b : Nat} (lb : b < hZ h) (n : G.ow b / 100000 ≠ 5) : (∀ f, hI h' f b = hI h f b) ∧ (∀ f, hL h' f b = hL h f b) ∧ (∀ q, hA h' b q = hA h b q) ∧ ∀ q, hB h' b q = hB h b q :=
  a.ag b ⟨lb, fun i v _ e => by
    have := S.jo J i v
    rw [← e] at this
    unfold vj at v
    omega⟩
theorem GJ.gr {P : Nat → Prop} {h h' : PH} {G G' : Gh} (a : GJ P h h' G G') (S : SX h G) (J : G.jj = true) {n : Nat} (k : n ≠ 5) : Ag (gr (hZ h) G n) h h' := fun b q => a.out S J q.1 (by have := q.2; omega)
theorem CEv.gj {h h' : PH} {G G' : Gh} {P : Nat → Prop} {z : Sz} {u0 : MS} {nu : Nat → Int32} {E1 E2 E3 : Nat → List Tok} (W : CEv h G z u0 nu E1 E2 E3) (k : GJ P h h' G G') (S' : SX h' G') (w2 : ∀ p, p < 5 → hA h' (G'.jd 2) p = nI p) : CEv h' G' z u0 nu E1 E2 E3 := by
  have S := W.s
  have J := W.j
  have zz := S.zz
  have o5 := k.out S J (b := 5) (by omega) (by rw [S.o5]; omega)
  have o6 := k.out S J (b := 6) (by omega) (by rw [S.o6]; omega)
  have o8 := k.out S J (b := 8) (by omega) (by rw [S.o8]; omega)
  have o10 := k.out S J (b := 10) (by omega) (by rw [S.o10]; omega)
  have o12 := k.out S J (b := 12) (by omega) (by rw [S.o12]; omega)
  have o14 := k.out S J (b := 14) (by omega) (by rw [S.o14]; omega)
  have o17 := k.out S J (b := 17) (by omega) (by rw [S.o17]; omega)
  have kr := W.k.fr S (k.gr S J (n := 3) (by decide)) (MAg.refl u0)
  have mo := W.mo.fr S W.k (k.gr S J (n := 3) (by decide))
  have np := k.N G.pg (S.lt S.tpg (by omega))
  have jj := k.jj
  obtain ⟨jd, ow, e⟩ := k.ge
  subst e
  apply CEv.mk
  · exact S'
  · exact jj.trans J
  · unfold SzC
    rw [o6.1, o8.1, o10.1, o12.1, o14.1, o5.1, o5.1]
    exact W.c
  · exact kr
  · exact mo
  · exact w2
  · intro i hi; rw [o17.2.2.1]; exact W.nm i hi
  · show z.pc ≤ hN h' G.pg; rw [np]; exact W.pl
  · show hN h' G.pg ≤ 131072; rw [np]; exact W.pm
theorem grow_gj {h : PH} {G : Gh} {i t : Nat} (i3 : 15 ≤ i ∧ i ≤ 17) : GJ (fun _ => False) h (grH h G i t) G (grG h G i) := by
  apply GJ.mk
  · exact ⟨_, _, rfl⟩
  · intro k
    show jup G.jd i (hZ h) k = G.jd k ∨ ((15 ≤ k ∧ k ≤ 17) ∧ hZ h ≤ jup G.jd i (hZ h) k)
    by_cases c : k = i
    · rw [c, jup_s]; exact .inr ⟨i3, Nat.le_refl _⟩
    · rw [jup_n c]; exact .inl rfl
  · exact fun b hb => upO_n (by omega)
  · show hZ h ≤ hZ h + 1; omega
  · intro b hb; rw [grH_N, if_neg (by omega)]
  · exact fun b hb => ⟨fun _ => rfl, fun _ => rfl, fun q => grH_A hb.1, fun q => grH_B hb.1⟩
theorem getD_app {L : List Nat} {x i : Nat} : (L ++ [x]).getD i 0 = if i < L.length then L.getD i 0 else if i = L.length then x else 0 := by
  rw [List.getD_eq_getElem?_getD, List.getD_eq_getElem?_getD, List.getElem?_append]
  by_cases c : i < L.length
  · rw [if_pos c, if_pos c]
  · rw [if_neg c, if_neg c]
    by_cases d : i = L.length
    · rw [if_pos d, d, Nat.sub_self]; rfl
    · rw [if_neg d]
      obtain ⟨k, hk⟩ : ∃ k, i - L.length = k + 1 := ⟨i - L.length - 1, by omega⟩
      rw [hk]; rfl
theorem putL_v {h : PH} {G : Gh} {L : List Nat} {hd : Nat → Nat} {x : Nat} (S : SX h G) (J : G.jj = true) (Ls : LSt h G L hd) (lt : L.length < hN h (G.jd 15)) : ∃ h', fX5_list_63 h (G.jd 0) (nI x) (nI (hd x)) = some (h', 0, 0) ∧ CH G (fun i => i = 0 ∨ i = 15 ∨ i = 16 ∨ i = 17) h h' ∧ LSt h' G (L ++ [x]) hd ∧ ∀ f, f ≠ 655 → hI h' f (G.jd 0) = hI h f (G.jd 0) := by
  have v0 : vj 0 := by unfold vj; omega
  have v15 : vj 15 := by unfold vj; omega
  have v16 : vj 16 := by unfold vj; omega
  have v17 : vj 17 := by unfold vj; omega
  have k1 := Ls.k1
  have k2 := Ls.k2
  have k4 := Ls.k4
  have x5 : ix (nI L.length) (hN h (G.jd 15)) = true := ix_n lt (by omega)
  have cl : Int32.toNatClampNeg (nI L.length) = L.length := nI_clamp (by omega)
  have n56 := jd_ne S J v15 v16 (by decide)
  have n57 := jd_ne S J v15 v17 (by decide)
  have n65 := jd_ne S J v16 v15 (by decide)
  have n67 := jd_ne S J v16 v17 (by decide)
  have n75 := jd_ne S J v17 v15 (by decide)
  have n76 := jd_ne S J v17 v16 (by decide)
  refine ⟨sI (sA (sA (sA h (G.jd 15) L.length (nI x)) (G.jd 16) L.length (nI (hd x))) (G.jd 17) L.length 0) 655 (G.jd 0) (nI (L.length + 1)), ?_, ?_, LSt.mk ?_ ?_ ?_ k1 k2 Ls.k3 k4 ?_, ?_⟩
  · rw [fX5_list_63, oC_d (S.jt0 J), S.jr652 J, oN_v, oC_d (S.jt15 J), Ls.n, oC_t x5, cl, oL_v]
    have S1 : SX (sA h (G.jd 15) L.length (nI x)) G := S
    have i1 : hI (sA h (G.jd 15) L.length (nI x)) 655 (G.jd 0) = nI L.length := Ls.n
    have e1 : hN (sA h (G.jd 15) L.length (nI x)) (G.jd 16) = hN h (G.jd 15) := k1
    rw [S1.jr653 J, oN_v, oC_d (S1.jt16 J), i1, e1, oC_t x5, cl, oL_v]
    have S2 : SX (sA (sA h (G.jd 15) L.length (nI x)) (G.jd 16) L.length (nI (hd x))) G := S
    have i2 : hI (sA (sA h (G.jd 15) L.length (nI x)) (G.jd 16) L.length (nI (hd x))) 655 (G.jd 0) = nI L.length := Ls.n
    have e2 : hN (sA (sA h (G.jd 15) L.length (nI x)) (G.jd 16) L.length (nI (hd x))) (G.jd 17) = hN h (G.jd 15) := k2
    rw [S2.jr654 J, oN_v, oC_d (S2.jt17 J), i2, e2, oC_t x5, cl, oL_v, bs_0]
    have i3 : hI (sA (sA (sA h (G.jd 15) L.length (nI x)) (G.jd 16) L.length (nI (hd x))) (G.jd 17) L.length 0) 655 (G.jd 0) = nI L.length := Ls.n
    rw [i3, oL_v, show nI L.length + 1 = nI (L.length + 1) from nI_add _ 1]
  · exact ((((CH.refl G _ h).sA v15 (by omega)).sA v16 (by omega)).sA v17 (by omega)).sI v0 (by omega)
  · simp only [z_hI_sI, z_hL_sI, z_hR_sI, z_hA_sI, z_hB_sI, z_hC_sI, z_hT_sI, z_hN_sI, z_hZ_sI, z_hI_sL, z_hL_sL, z_hR_sL, z_hA_sL, z_hB_sL, z_hC_sL, z_hT_sL, z_hN_sL, z_hZ_sL, z_hI_sR, z_hL_sR, z_hR_sR, z_hA_sR, z_hB_sR, z_hC_sR, z_hT_sR, z_hN_sR, z_hZ_sR, z_hI_sA, z_hL_sA, z_hR_sA, z_hA_sA, z_hB_sA, z_hC_sA, z_hT_sA, z_hN_sA, z_hZ_sA, z_hI_sB, z_hL_sB, z_hR_sB, z_hA_sB, z_hB_sB, z_hC_sB, z_hT_sB, z_hN_sB, z_hZ_sB, z_hI_sC, z_hL_sC, z_hR_sC, z_hA_sC, z_hB_sC, z_hC_sC, z_hT_sC, z_hN_sC, z_hZ_sC, z_hI_sY, z_hL_sY, z_hR_sY, z_hA_sY, z_hB_sY, z_hC_sY, z_hT_sY, z_hN_sY, z_hZ_sY, z_hI_nO, z_hL_nO, z_hR_nO, z_hA_nO, z_hB_nO, z_hC_nO, z_hT_nO, z_hN_nO, z_hZ_nO, z_hI_nA, z_hL_nA, z_hR_nA, z_hA_nA, z_hB_nA, z_hC_nA, z_hT_nA, z_hN_nA, z_hZ_nA, if_true, if_false, and_false, false_and, and_true, true_and, and_self, decide_true, decide_false, reduceCtorEq, not_false_eq_true, not_true_eq_false, Nat.reduceEqDiff, Nat.reduceAdd, Nat.reduceMul, Nat.add_zero, Nat.zero_add, List.length_append, List.length_singleton]
  · intro i hi
    rw [List.length_append, List.length_singleton] at hi
    rw [getD_app]
    simp only [z_hI_sI, z_hL_sI, z_hR_sI, z_hA_sI, z_hB_sI, z_hC_sI, z_hT_sI, z_hN_sI, z_hZ_sI, z_hI_sL, z_hL_sL, z_hR_sL, z_hA_sL, z_hB_sL, z_hC_sL, z_hT_sL, z_hN_sL, z_hZ_sL, z_hI_sR, z_hL_sR, z_hR_sR, z_hA_sR, z_hB_sR, z_hC_sR, z_hT_sR, z_hN_sR, z_hZ_sR, z_hI_sA, z_hL_sA, z_hR_sA, z_hA_sA, z_hB_sA, z_hC_sA, z_hT_sA, z_hN_sA, z_hZ_sA, z_hI_sB, z_hL_sB, z_hR_sB, z_hA_sB, z_hB_sB, z_hC_sB, z_hT_sB, z_hN_sB, z_hZ_sB, z_hI_sC, z_hL_sC, z_hR_sC, z_hA_sC, z_hB_sC, z_hC_sC, z_hT_sC, z_hN_sC, z_hZ_sC, z_hI_sY, z_hL_sY, z_hR_sY, z_hA_sY, z_hB_sY, z_hC_sY, z_hT_sY, z_hN_sY, z_hZ_sY, z_hI_nO, z_hL_nO, z_hR_nO, z_hA_nO, z_hB_nO, z_hC_nO, z_hT_nO, z_hN_nO, z_hZ_nO, z_hI_nA, z_hL_nA, z_hR_nA, z_hA_nA, z_hB_nA, z_hC_nA, z_hT_nA, z_hN_nA, z_hZ_nA, if_true, if_false, and_false, false_and, and_true, true_and, and_self, decide_true, decide_false, reduceCtorEq, not_false_eq_true, not_true_eq_false, Nat.reduceEqDiff, Nat.reduceAdd, Nat.reduceMul, Nat.add_zero, Nat.zero_add, n56, n57, n65, n67, n75, n76]
    by_cases c : i < L.length
    · have ne : ¬ i = L.length := by omega
      simp only [if_pos c, if_neg ne]
      exact Ls.a i c
    · have e : i = L.length := by omega
      simp only [if_neg c, if_pos e, and_self]
  · rw [List.length_append, List.length_singleton]
    show L.length + 1 ≤ hN h (G.jd 15)
    omega
  · intro i
    simp only [z_hI_sI, z_hL_sI, z_hR_sI, z_hA_sI, z_hB_sI, z_hC_sI, z_hT_sI, z_hN_sI, z_hZ_sI, z_hI_sL, z_hL_sL, z_hR_sL, z_hA_sL, z_hB_sL, z_hC_sL, z_hT_sL, z_hN_sL, z_hZ_sL, z_hI_sR, z_hL_sR, z_hR_sR, z_hA_sR, z_hB_sR, z_hC_sR, z_hT_sR, z_hN_sR, z_hZ_sR, z_hI_sA, z_hL_sA, z_hR_sA, z_hA_sA, z_hB_sA, z_hC_sA, z_hT_sA, z_hN_sA, z_hZ_sA, z_hI_sB, z_hL_sB, z_hR_sB, z_hA_sB, z_hB_sB, z_hC_sB, z_hT_sB, z_hN_sB, z_hZ_sB, z_hI_sC, z_hL_sC, z_hR_sC, z_hA_sC, z_hB_sC, z_hC_sC, z_hT_sC, z_hN_sC, z_hZ_sC, z_hI_sY, z_hL_sY, z_hR_sY, z_hA_sY, z_hB_sY, z_hC_sY, z_hT_sY, z_hN_sY, z_hZ_sY, z_hI_nO, z_hL_nO, z_hR_nO, z_hA_nO, z_hB_nO, z_hC_nO, z_hT_nO, z_hN_nO, z_hZ_nO, z_hI_nA, z_hL_nA, z_hR_nA, z_hA_nA, z_hB_nA, z_hC_nA, z_hT_nA, z_hN_nA, z_hZ_nA, if_true, if_false, and_false, false_and, and_true, true_and, and_self, decide_true, decide_false, reduceCtorEq, not_false_eq_true, not_true_eq_false, Nat.reduceEqDiff, Nat.reduceAdd, Nat.reduceMul, Nat.add_zero, Nat.zero_add, n75, n76]
    by_cases e : i = L.length
    · rw [if_pos e]; exact bs_0
    · rw [if_neg e]; exact Ls.bt i
  · intro f hf
    simp only [z_hI_sI, z_hL_sI, z_hR_sI, z_hA_sI, z_hB_sI, z_hC_sI, z_hT_sI, z_hN_sI, z_hZ_sI, z_hI_sL, z_hL_sL, z_hR_sL, z_hA_sL, z_hB_sL, z_hC_sL, z_hT_sL, z_hN_sL, z_hZ_sL, z_hI_sR, z_hL_sR, z_hR_sR, z_hA_sR, z_hB_sR, z_hC_sR, z_hT_sR, z_hN_sR, z_hZ_sR, z_hI_sA, z_hL_sA, z_hR_sA, z_hA_sA, z_hB_sA, z_hC_sA, z_hT_sA, z_hN_sA, z_hZ_sA, z_hI_sB, z_hL_sB, z_hR_sB, z_hA_sB, z_hB_sB, z_hC_sB, z_hT_sB, z_hN_sB, z_hZ_sB, z_hI_sC, z_hL_sC, z_hR_sC, z_hA_sC, z_hB_sC, z_hC_sC, z_hT_sC, z_hN_sC, z_hZ_sC, z_hI_sY, z_hL_sY, z_hR_sY, z_hA_sY, z_hB_sY, z_hC_sY, z_hT_sY, z_hN_sY, z_hZ_sY, z_hI_nO, z_hL_nO, z_hR_nO, z_hA_nO, z_hB_nO, z_hC_nO, z_hT_nO, z_hN_nO, z_hZ_nO, z_hI_nA, z_hL_nA, z_hR_nA, z_hA_nA, z_hB_nA, z_hC_nA, z_hT_nA, z_hN_nA, z_hZ_nA]
    rw [if_neg (fun e => hf e.1)]
