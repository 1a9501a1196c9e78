/-! new conditions -/
def Gh.wRu (G : Gh) (rl ca hd : Nat → Nat) (cd : Nat → Nat → Nat) (nr : Nat) (nc : Nat → Nat) (ow : Nat → Nat) : Gh := Gh.mk G.tk G.wk G.kd G.st G.vl G.pg rl ca hd cd nr nc G.te G.nt G.jj G.jd ow
/-- the room taken, but for e objects and f fields -/
def RCx (h : PH) (h' : PH) (G : Gh) (G' : Gh) (ci : Nat) (cj : Nat) (e : Nat) (f : Nat) : Prop := (ci + pot h G ≤ pot h' G' + e) ∧ (cj + 3 * pot h G ≤ 3 * pot h' G' + f)
theorem RCx.c1 {h : PH} {h' : PH} {G : Gh} {G' : Gh} {ci : Nat} {cj : Nat} {e : Nat} {f : Nat} (X_ : RCx h h' G G' ci cj e f) : ci + pot h G ≤ pot h' G' + e := X_.1
theorem RCx.c2 {h : PH} {h' : PH} {G : Gh} {G' : Gh} {ci : Nat} {cj : Nat} {e : Nat} {f : Nat} (X_ : RCx h h' G G' ci cj e f) : cj + 3 * pot h G ≤ 3 * pot h' G' + f := X_.2
theorem RCx.mk {h : PH} {h' : PH} {G : Gh} {G' : Gh} {ci : Nat} {cj : Nat} {e : Nat} {f : Nat} (c1_ : ci + pot h G ≤ pot h' G' + e) (c2_ : cj + 3 * pot h G ≤ 3 * pot h' G' + f) : RCx h h' G G' ci cj e f := ⟨c1_, c2_⟩
theorem RC.x {h h' : PH} {G G' : Gh} {ci cj : Nat} (X : RC h h' G G' ci cj) (e f : Nat) : RCx h h' G G' ci cj e f := ⟨by have := X.c1; omega, by have := X.c2; omega⟩
theorem RCx.trans {h h1 h2 : PH} {G G1 G2 : Gh} {ci cj di dj e f e' f' : Nat} (X : RCx h h1 G G1 ci cj e f) (Y : RCx h1 h2 G1 G2 di dj e' f') : RCx h h2 G G2 (ci + di) (cj + dj) (e + e') (f + f') := by
  have := X.c1
  have := X.c2
  have := Y.c1
  have := Y.c2
  exact ⟨by omega, by omega⟩
theorem RCx.mono {h h' : PH} {G G' : Gh} {ci cj e f e' f' : Nat} (X : RCx h h' G G' ci cj e f) (h1 : e ≤ e') (h2 : f ≤ f') : RCx h h' G G' ci cj e' f' := ⟨by have := X.c1; omega, by have := X.c2; omega⟩
def ncH (h : PH) (G : Gh) (w : Nat) : PH := sC (nO h 3) (G.ca w) (G.nc w) (some (hZ h))
def ncG (h : PH) (G : Gh) (w : Nat) : Gh := G.wRu G.rl G.ca G.hd (fun r k => if r = w ∧ k = G.nc w then hZ h else G.cd r k) G.nr (fun r => if r = w then G.nc w + 1 else G.nc r) (upO G.ow (hZ h) (340000 + 10 * w + G.nc w))
section NC
variable {h : PH} {G : Gh} {w : Nat}
theorem ncH_C (a i : Nat) : hC (ncH h G w) a i = if a = G.ca w ∧ i = G.nc w then some (hZ h) else hC h a i := rfl
theorem ncH_T (a : Nat) : hT (ncH h G w) a = if a = hZ h then 3 else hT h a := rfl
theorem ncH_R (f a : Nat) (ha : a < hZ h) : hR (ncH h G w) f a = hR h f a := by
  show hR (nO h 3) f a = _
  rw [z_hR_nO, if_neg (by omega)]
theorem ncH_ru (S : SX h G) (hw : w < G.nr) (h6 : G.nc w < 6) : RU' (hR (ncH h G w)) (hC (ncH h G w)) (hT (ncH h G w)) (hN (ncH h G w)) (hZ (ncH h G w)) (ncG h G w).ow (ncG h G w).rl (ncG h G w).ca (ncG h G w).hd (ncG h G w).cd (ncG h G w).nr (ncG h G w).nc := by
  have zz := S.zz
  have hT' : ∀ a, a < hZ h → hT (ncH h G w) a = hT h a := fun a ha => by rw [ncH_T, if_neg (by omega)]
  have ho : ∀ a, a < hZ h → (ncG h G w).ow a = G.ow a := fun a ha => upO_n (by omega)
  have n19 : (19 : Nat) ≠ G.ca w := fun q => by have := S.caT w hw; rw [← q, S.t19] at this; omega
  have c19 : ∀ r, hC (ncH h G w) 19 r = hC h 19 r := fun r => by rw [ncH_C, if_neg (fun q => n19 q.1)]
  have lr : ∀ r, r < G.nr → G.rl r < hZ h := fun r hr => S.lt (S.rlT r hr) (by omega)
  have lc : ∀ r, r < G.nr → G.ca r < hZ h := fun r hr => S.lt (S.caT r hr) (by omega)
  have lh : ∀ r, r < G.nr → G.hd r < hZ h := fun r hr => S.lt (S.hdT r hr) (by omega)
  have ld : ∀ r, r < G.nr → ∀ k, k < G.nc r → G.cd r k < hZ h := fun r hr k hk => S.lt (S.cdT r hr k hk) (by omega)
  have cne : ∀ r, r < G.nr → r ≠ w → G.ca r ≠ G.ca w := fun r hr q => ne_ow (S.cao r hr) (S.cao w hw) (by omega)
  have enc : ∀ r, (ncG h G w).nc r = if r = w then G.nc w + 1 else G.nc r := fun r => rfl
  have ecd : ∀ r k, (ncG h G w).cd r k = if r = w ∧ k = G.nc w then hZ h else G.cd r k := fun r k => rfl
  apply RU'.mk
  · exact S.nr30
  · exact fun r hr => (c19 r).trans (S.rlC r hr)
  · exact fun r hr => (c19 r).trans (S.rlN r hr)
  · exact fun r hr => (hT' _ (lr r hr)).trans (S.rlT r hr)
  · exact fun r hr => (ho _ (lr r hr)).trans (S.rlo r hr)
  · exact fun r hr => (ncH_R _ _ (lr r hr)).trans (S.caR r hr)
  · exact fun r hr => (hT' _ (lc r hr)).trans (S.caT r hr)
  · exact fun r hr => S.caN r hr
  · exact fun r hr => (ho _ (lc r hr)).trans (S.cao r hr)
  · exact fun r hr => (ncH_R _ _ (lr r hr)).trans (S.hdR r hr)
  · exact fun r hr => (hT' _ (lh r hr)).trans (S.hdT r hr)
  · exact fun r hr => (ho _ (lh r hr)).trans (S.hdo r hr)
  · intro r hr
    rw [enc]
    by_cases q : r = w
    · rw [if_pos q]; omega
    · rw [if_neg q]; exact S.nc6 r hr
  · intro r hr k hk
    rw [enc] at hk
    rw [ecd]
    show hC (ncH h G w) (G.ca r) k = _
    rw [ncH_C]
    by_cases q : r = w
    · subst q
      rw [if_pos rfl] at hk
      by_cases q2 : k = G.nc r
      · rw [if_pos ⟨rfl, q2⟩, if_pos ⟨rfl, q2⟩]
      · rw [if_neg (fun x => q2 x.2), if_neg (fun x => q2 x.2)]; exact S.cdC r hr k (by omega)
    · rw [if_neg q] at hk
      rw [if_neg (fun x => cne r hr q x.1), if_neg (fun x => q x.1)]; exact S.cdC r hr k hk
  · intro r hr k hk
    rw [enc] at hk
    show hC (ncH h G w) (G.ca r) k = _
    rw [ncH_C]
    by_cases q : r = w
    · subst q
      rw [if_pos rfl] at hk
      rw [if_neg (fun x => by omega)]; exact S.cdN r hr k (by omega)
    · rw [if_neg q] at hk
      rw [if_neg (fun x => cne r hr q x.1)]; exact S.cdN r hr k hk
  · intro r hr k hk
    rw [enc] at hk
    rw [ecd]
    by_cases q : r = w
    · subst q
      rw [if_pos rfl] at hk
      by_cases q2 : k = G.nc r
      · rw [if_pos ⟨rfl, q2⟩, ncH_T, if_pos rfl]
      · rw [if_neg (fun x => q2 x.2), hT' _ (ld r hr k (by omega))]; exact S.cdT r hr k (by omega)
    · rw [if_neg q] at hk
      rw [if_neg (fun x => q x.1), hT' _ (ld r hr k hk)]; exact S.cdT r hr k hk
  · intro r hr k hk
    rw [enc] at hk
    rw [ecd]
    by_cases q : r = w
    · subst q
      rw [if_pos rfl] at hk
      by_cases q2 : k = G.nc r
      · rw [if_pos ⟨rfl, q2⟩, q2]; exact upO_s
      · rw [if_neg (fun x => q2 x.2), ho _ (ld r hr k (by omega))]; exact S.cdo r hr k (by omega)
    · rw [if_neg q] at hk
      rw [if_neg (fun x => q x.1), ho _ (ld r hr k hk)]; exact S.cdo r hr k hk
theorem CD.nc (S : SX h G) (hw : w < G.nr) (h6 : G.nc w < 6) {zz : Sz} (hz : zz.nr ≤ w) : CD h (ncH h G w) G (ncG h G w) zz := by
  have z1 := S.zz
  have hT' : ∀ a, a < hZ h → hT (ncH h G w) a = hT h a := fun a ha => by rw [ncH_T, if_neg (by omega)]
  have ho : ∀ a, a < hZ h → (ncG h G w).ow a = G.ow a := fun a ha => upO_n (by omega)
  have lcw := S.lt (S.caT w hw) (by omega)
  have n31 : (31 : Nat) ≠ G.ca w := fun q => by have := S.caT w hw; rw [← q, S.t31] at this; omega
  have hC' : ∀ a i, a ≠ G.ca w → hC (ncH h G w) a i = hC h a i := fun a i q => by rw [ncH_C, if_neg (fun x => q x.1)]
  have fr' : ∀ i, hZ h + 1 ≤ i → hT (ncH h G w) i = 0 := fun i hi => by rw [ncH_T, if_neg (by omega)]; exact S.fr i (by omega)
  have hI' : ∀ f a, a < hZ h → hI (ncH h G w) f a = hI h f a := fun f a ha => by
    show hI (nO h 3) f a = _
    rw [z_hI_nO, if_neg (by omega)]
  have hL' : ∀ f a, a < hZ h → hL (ncH h G w) f a = hL h f a := fun f a ha => by
    show hL (nO h 3) f a = _
    rw [z_hL_nO, if_neg (by omega)]
  have kl : ∀ a, kO G zz a → a < hZ h := fun a ha => (kO_o S (by omega) ha).2
  refine CD.mk ?_ ?_ (show hZ h ≤ hZ h + 1 by omega) (fun _ _ => rfl) (fun a ha => ⟨fun f => hI' f a ha.1, fun f => hL' f a ha.1, fun _ => rfl, fun _ => rfl⟩) (fun _ => ⟨rfl, rfl, rfl⟩) (hI' _ _ (by omega)) (fun _ _ _ => ⟨rfl, rfl⟩) (fun a ha f => hI' f a (kl a ha)) (fun _ _ => rfl) (Nat.le_refl _) ⟨hI' _ _ (by omega), hI' _ _ (by omega), hI' _ _ (by omega), hI' _ _ (by omega), hI' _ _ (by omega), hI' _ _ (by omega), hI' _ _ (by omega), hI' _ _ (by omega)⟩
  · exact SX'.mk (SS'.step S.ss hT' (fun _ _ => rfl) ho (fun f a ha _ => ncH_R f a ha) (show hZ h ≤ hZ h + 1 by omega) fr') (ncH_ru S hw h6) (TE'.step (SX'.te (G := G) S) S.fr hT' (fun _ _ => rfl) ho (fun f a ha _ => ncH_R f a ha) (fun i _ => hC' 31 i n31)) (JU'.step S.ju S.fr hT' (fun _ _ => rfl) ho (fun f a ha _ => ncH_R f a ha) (ncH_R _ _ (by omega)) (fun f _ a ha => ncH_R f a ha) (fun a i ha e => hC' a i (fun q => by have := S.caT w hw; rw [← q, e] at this; omega))) (P6.step (SX'.tk (G := G) S) (by omega) S.fr hT' ho (ncH_R _ _ (by omega))) (P6.step (SX'.wk (G := G) S) (by omega) S.fr hT' ho (ncH_R _ _ (by omega))) (P6.step (SX'.pg (G := G) S) (by omega) S.fr hT' ho (ncH_R _ _ (by omega))) (P6.step (SX'.kd (G := G) S) (by omega) S.fr hT' ho (ncH_R _ _ (by omega))) (P6.step (SX'.st (G := G) S) (by omega) S.fr hT' ho (ncH_R _ _ (by omega))) (P6.step (SX'.vl (G := G) S) (by omega) S.fr hT' ho (ncH_R _ _ (by omega)))
  · refine ⟨rfl, rfl, rfl, rfl, rfl, rfl, rfl, rfl, rfl, Nat.le_refl _, fun r hr => ⟨rfl, rfl, rfl, ?_, fun i hi => ?_⟩, ho⟩
    · show G.nc r ≤ if r = w then G.nc w + 1 else G.nc r
      by_cases q : r = w
      · rw [if_pos q, q]; omega
      · rw [if_neg q]; exact Nat.le_refl _
    · show (if r = w ∧ i = G.nc w then hZ h else G.cd r i) = _
      rw [if_neg (fun q => by rw [q.1] at hi; omega)]
end NC
section RG
variable {h h' : PH} {u u' : MS} {G G' : Gh} {z c : Sz} {w v L n t pc rc y kc kc' k a : Nat} {D : Nat → Nat × Nat × Nat × List Nat}
/-- a change of the class's ghost: the rule's conditions -/
theorem RX.cg (X : RX h u G z c w v L n D t pc rc y kc k) (C : ∀ zz : Sz, zz.nr ≤ w → CD h h' G G' zz) (I : ∀ f b, b < hZ h → ¬ (f = 1027 ∧ b = G.rl w) → hI h' f b = hI h f b) (Lh : ∀ f, hL h' f 23 = hL h f 23) (A : ∀ b i, b < hZ h → hA h' b i = hA h b i) (B : ∀ b i, b < hZ h → hB h' b i = hB h b i) (N : ∀ b, b < hZ h → hN h' b = hN h b) (gr : G'.rl = G.rl ∧ G'.pg = G.pg ∧ G'.nr = G.nr) (gc : ∀ i, i < k → G'.cd w i = G.cd w i) (n1' : hI h' 1027 (G.rl w) = nI kc') (h1 : kc ≤ kc') (h2 : kc' ≤ 6) (h3 : kc' ≤ G'.nc w) : RX h' u G' z c w v L n D t pc rc y kc' k := by
  have S := X.i.sx
  have zz := S.zz
  obtain ⟨g1, g2, g3⟩ := gr
  obtain ⟨z1, z2, z3, z4, z5, z6⟩ := X.zc
  have wc := X.wc
  have l1 := X.l1
  have erl := S.rlo w X.wG
  have r30 := S.nr30
  have wG := X.wG
  have i' : ∀ f b x, G.ow b = x → b < hZ h → x < 310000 ∨ 320000 ≤ x → hI h' f b = hI h f b := fun f b x e hb hx => I f b hb (fun q => ne_ow e erl (by omega) q.2)
  have i23 : ∀ f, hI h' f 23 = hI h f 23 := fun f => i' f 23 _ S.o23 (by omega) (by omega)
  have rl : ∀ f, f ≠ 1027 → hI h' f (G'.rl w) = hI h f (G.rl w) := fun f hf => by
    rw [g1]
    exact I f _ (S.lt (S.rlT w wG) (by omega)) (fun q => hf q.1)
  have V' : Liv h' u D n t := ⟨X.V.lt, (i23 _).trans X.V.at_, (i23 _).trans X.V.kd, (i23 _).trans X.V.pl, (Lh _).trans X.V.vl, (i23 _).trans X.V.st, X.V.f0, X.V.t0⟩
  have F' : FL h' u := X.F.fr (i23 _) (i23 _) rfl rfl
  have K' : VS h' u w v := ⟨X.K.v3, X.K.w3, (i23 _).trans X.K.vc, X.K.m65, X.K.m42, fun i hi => by rw [A 29 i (by omega)]; exact X.K.vl i hi⟩
  have lpg := S.lt S.tpg (by omega)
  have np : hN h' G'.pg = hN h G.pg := by rw [g2]; exact N _ lpg
  refine RX.mk (X.i.d (C z X.zs.1) (MD.refl u z) (by rw [np]; exact X.i.rm.p3)) V' F' K' X.le X.ok wc (by rw [g3]; exact wG) l1 ⟨(i' _ _ _ S.o6 (by omega) (by omega)).trans z1, (i' _ _ _ S.o8 (by omega) (by omega)).trans z2, (i' _ _ _ S.o10 (by omega) (by omega)).trans z3, (i' _ _ _ S.o12 (by omega) (by omega)).trans z4, (i' _ _ _ S.o14 (by omega) (by omega)).trans z5, (i' _ _ _ S.o5 (by omega) (by omega)).trans z6⟩ ((i' _ _ _ S.o5 (by omega) (by omega)).trans X.sz) X.zm X.m24 ((i23 _).trans X.o1) X.o2 (fun i hi => ?_) ?_ (by rw [B 15 w (by omega)]; exact X.nm) X.p0 X.r0 X.b1 X.b2 (by rw [np]; exact X.hp) ⟨(rl _ (by omega)).trans X.lw.1, X.lw.2⟩ X.y2 ⟨(rl _ (by omega)).trans X.kd.1, X.kd.2⟩ (by rw [g1]; exact n1') X.n2 h2 h3 (by have := X.kk; omega) (fun e i hi => ?_)
  · obtain ⟨k, b1, b2, b3, b4, b5, b6⟩ := X.ot i hi
    exact ⟨k, b1, b2, b3, (A 30 i (by omega)).trans b4, b5, b6⟩
  · exact X.ct.d (t' := t) X.F (C c (by omega)) (MD.refl _ c) (FM.refl _) (Nat.le_refl _)
  · have kn := X.kn
    have kk := X.kk
    have e' := S.cdo w wG i (by omega)
    have n6 := S.nc6 w wG
    have lcd := S.lt (S.cdT w wG i (by omega)) (by omega)
    refine (X.cs e i hi).x (c := c.wC pc rc) (c' := c.wC pc rc) (fun f => ?_) (fun _ _ _ => rfl) (fun _ _ => rfl) (fun i _ => by rw [g2]; exact A _ i lpg) (fun _ _ _ _ _ => rfl) (Sz.le_refl _) (Nat.le_refl _)
    rw [gc i hi]
    exact I f _ lcd (fun q => ne_ow e' erl (by omega) q.2)
/-- a condition begun: an object that is there, or a new one -/
theorem newCond_v (X : RX h u G z c w v L n D t pc rc y kc k) (ek : kc = k) (h6 : kc < 6) : ∃ h' G' i j, fX8_newCondition h (G.rl w) = some (h', some (G'.cd w kc), i, j) ∧ RCx h h' G G' i j 1 8 ∧ RX h' u G' z c w v L n D t pc rc y (kc + 1) k ∧ (∀ f, hI h' f 23 = hI h f 23) ∧ (∀ f, hL h' f 23 = hL h f 23) ∧ G'.rl = G.rl ∧ hT h' (G'.cd w kc) = 3 ∧ G'.ow (G'.cd w kc) = 340000 + 10 * w + kc := by
  have S := X.i.sx
  have zz := S.zz
  have wG := X.wG
  have w3 := X.K.w3
  have kn := X.kn
  have n6 := S.nc6 w wG
  have t9 := S.rlT w wG
  have lrl := S.lt t9 (by omega)
  have lca := S.lt (S.caT w wG) (by omega)
  have sb : nI (kc + 1) - 1 = nI kc := by rw [show (1 : Int32) = nI 1 from rfl, nI_sub (by omega)]; rfl
  have lt6 : hI h 1027 (G.rl w) < 6 := by rw [X.n1]; exact nI_lt (b := 6) h6 (by omega)
  have st : ∀ {hh : PH}, hT hh (G.rl w) = 9 → hI hh 1027 (G.rl w) = nI kc → hR hh 1028 (G.rl w) = some (G.ca w) → hT hh (G.ca w) = 105 → hN hh (G.ca w) = 6 → fX8_newCondition_39 hh (G.rl w) = some (sI hh 1027 (G.rl w) (nI (kc + 1)), hC hh (G.ca w) kc, 0, 0) := fun {hh} a1 a2 a3 a4 a5 => by
    have e1 : hR (sI hh 1027 (G.rl w) (nI (kc + 1))) 1028 (G.rl w) = some (G.ca w) := a3
    have e2 : hT (sI hh 1027 (G.rl w) (nI (kc + 1))) (G.ca w) = 105 := a4
    have e3 : hI (sI hh 1027 (G.rl w) (nI (kc + 1))) 1027 (G.rl w) = nI (kc + 1) := by simp only [z_hI_sI, z_hL_sI, z_hR_sI, z_hA_sI, z_hB_sI, z_hC_sI, z_hT_sI, z_hN_sI, z_hZ_sI, z_hI_sL, z_hL_sL, z_hR_sL, z_hA_sL, z_hB_sL, z_hC_sL, z_hT_sL, z_hN_sL, z_hZ_sL, z_hI_sR, z_hL_sR, z_hR_sR, z_hA_sR, z_hB_sR, z_hC_sR, z_hT_sR, z_hN_sR, z_hZ_sR, z_hI_sA, z_hL_sA, z_hR_sA, z_hA_sA, z_hB_sA, z_hC_sA, z_hT_sA, z_hN_sA, z_hZ_sA, z_hI_sB, z_hL_sB, z_hR_sB, z_hA_sB, z_hB_sB, z_hC_sB, z_hT_sB, z_hN_sB, z_hZ_sB, z_hI_sC, z_hL_sC, z_hR_sC, z_hA_sC, z_hB_sC, z_hC_sC, z_hT_sC, z_hN_sC, z_hZ_sC, z_hI_sY, z_hL_sY, z_hR_sY, z_hA_sY, z_hB_sY, z_hC_sY, z_hT_sY, z_hN_sY, z_hZ_sY, z_hI_nO, z_hL_nO, z_hR_nO, z_hA_nO, z_hB_nO, z_hC_nO, z_hT_nO, z_hN_nO, z_hZ_nO, z_hI_nA, z_hL_nA, z_hR_nA, z_hA_nA, z_hB_nA, z_hC_nA, z_hT_nA, z_hN_nA, z_hZ_nA, if_true, if_false, and_false, false_and, and_true, true_and, and_self, decide_true, decide_false, reduceCtorEq, not_false_eq_true, not_true_eq_false, Nat.reduceEqDiff, Nat.reduceAdd, Nat.reduceMul, Nat.add_zero, Nat.zero_add]
    have e4 : hN (sI hh 1027 (G.rl w) (nI (kc + 1))) (G.ca w) = 6 := a5
    unfold fX8_newCondition_39
    rw [oC_d a1, a2, nI_1, oL_v, e1, oN_v, oC_d e2, e3, sb, e4, oC_t (ix_n h6 (by omega)), nI_clamp (show kc < 2147483648 by omega)]
    rfl
  have o3 : G.ow (G.rl w) / 100000 = 3 := by rw [S.rlo w wG]; omega
  have nko : ∀ zz : Sz, zz.nr ≤ w → ¬ kO G zz (G.rl w) := fun zz hz => by
    rintro ⟨r, hr, q⟩
    have e0 := S.rlo w wG
    rcases q with q | q | ⟨i, hi, q⟩
    · have e := S.rlo r (by omega); rw [← q, e0] at e; omega
    · have e := S.hdo r (by omega); rw [← q, e0] at e; omega
    · have e := S.cdo r (by omega) i hi; have := S.nc6 r (by omega); rw [← q, e0] at e; omega
  by_cases cn : kc < G.nc w
  · have cc := S.cdC w wG kc cn
    refine ⟨sI h 1027 (G.rl w) (nI (kc + 1)), G, 0, 0, ?_, (RC.n rfl).x 1 8, ?_, ?_, fun _ => rfl, rfl, S.cdT w wG kc cn, S.cdo w wG kc cn⟩
    · unfold fX8_newCondition fX8_newCondition_0
      rw [oC_d t9, if_pos lt6, S.caR w wG, oN_v, oC_d (S.caT w wG), X.n1, S.caN w wG, oC_t (ix_n h6 (by omega)), nI_clamp (show kc < 2147483648 by omega), cc, if_neg (by simp), st t9 X.n1 (S.caR w wG) (S.caT w wG) (S.caN w wG), cc]
    · refine X.cg (fun zz hz => CD.xI S (.inl o3) (nko zz hz) (by omega) (by omega) (by omega) (by omega)) (fun f b _ hb => ?_) (fun _ => rfl) (fun _ _ _ => rfl) (fun _ _ _ => rfl) (fun _ _ => rfl) ⟨rfl, rfl, rfl⟩ (fun _ _ => rfl) (by simp only [z_hI_sI, z_hL_sI, z_hR_sI, z_hA_sI, z_hB_sI, z_hC_sI, z_hT_sI, z_hN_sI, z_hZ_sI, z_hI_sL, z_hL_sL, z_hR_sL, z_hA_sL, z_hB_sL, z_hC_sL, z_hT_sL, z_hN_sL, z_hZ_sL, z_hI_sR, z_hL_sR, z_hR_sR, z_hA_sR, z_hB_sR, z_hC_sR, z_hT_sR, z_hN_sR, z_hZ_sR, z_hI_sA, z_hL_sA, z_hR_sA, z_hA_sA, z_hB_sA, z_hC_sA, z_hT_sA, z_hN_sA, z_hZ_sA, z_hI_sB, z_hL_sB, z_hR_sB, z_hA_sB, z_hB_sB, z_hC_sB, z_hT_sB, z_hN_sB, z_hZ_sB, z_hI_sC, z_hL_sC, z_hR_sC, z_hA_sC, z_hB_sC, z_hC_sC, z_hT_sC, z_hN_sC, z_hZ_sC, z_hI_sY, z_hL_sY, z_hR_sY, z_hA_sY, z_hB_sY, z_hC_sY, z_hT_sY, z_hN_sY, z_hZ_sY, z_hI_nO, z_hL_nO, z_hR_nO, z_hA_nO, z_hB_nO, z_hC_nO, z_hT_nO, z_hN_nO, z_hZ_nO, z_hI_nA, z_hL_nA, z_hR_nA, z_hA_nA, z_hB_nA, z_hC_nA, z_hT_nA, z_hN_nA, z_hZ_nA, if_true, if_false, and_false, false_and, and_true, true_and, and_self, decide_true, decide_false, reduceCtorEq, not_false_eq_true, not_true_eq_false, Nat.reduceEqDiff, Nat.reduceAdd, Nat.reduceMul, Nat.add_zero, Nat.zero_add]) (by omega) (by omega) (by omega)
      simp only [z_hI_sI, z_hL_sI, z_hR_sI, z_hA_sI, z_hB_sI, z_hC_sI, z_hT_sI, z_hN_sI, z_hZ_sI, z_hI_sL, z_hL_sL, z_hR_sL, z_hA_sL, z_hB_sL, z_hC_sL, z_hT_sL, z_hN_sL, z_hZ_sL, z_hI_sR, z_hL_sR, z_hR_sR, z_hA_sR, z_hB_sR, z_hC_sR, z_hT_sR, z_hN_sR, z_hZ_sR, z_hI_sA, z_hL_sA, z_hR_sA, z_hA_sA, z_hB_sA, z_hC_sA, z_hT_sA, z_hN_sA, z_hZ_sA, z_hI_sB, z_hL_sB, z_hR_sB, z_hA_sB, z_hB_sB, z_hC_sB, z_hT_sB, z_hN_sB, z_hZ_sB, z_hI_sC, z_hL_sC, z_hR_sC, z_hA_sC, z_hB_sC, z_hC_sC, z_hT_sC, z_hN_sC, z_hZ_sC, z_hI_sY, z_hL_sY, z_hR_sY, z_hA_sY, z_hB_sY, z_hC_sY, z_hT_sY, z_hN_sY, z_hZ_sY, z_hI_nO, z_hL_nO, z_hR_nO, z_hA_nO, z_hB_nO, z_hC_nO, z_hT_nO, z_hN_nO, z_hZ_nO, z_hI_nA, z_hL_nA, z_hR_nA, z_hA_nA, z_hB_nA, z_hC_nA, z_hT_nA, z_hN_nA, z_hZ_nA]
      rw [if_neg hb]
    · intro f
      simp only [z_hI_sI, z_hL_sI, z_hR_sI, z_hA_sI, z_hB_sI, z_hC_sI, z_hT_sI, z_hN_sI, z_hZ_sI, z_hI_sL, z_hL_sL, z_hR_sL, z_hA_sL, z_hB_sL, z_hC_sL, z_hT_sL, z_hN_sL, z_hZ_sL, z_hI_sR, z_hL_sR, z_hR_sR, z_hA_sR, z_hB_sR, z_hC_sR, z_hT_sR, z_hN_sR, z_hZ_sR, z_hI_sA, z_hL_sA, z_hR_sA, z_hA_sA, z_hB_sA, z_hC_sA, z_hT_sA, z_hN_sA, z_hZ_sA, z_hI_sB, z_hL_sB, z_hR_sB, z_hA_sB, z_hB_sB, z_hC_sB, z_hT_sB, z_hN_sB, z_hZ_sB, z_hI_sC, z_hL_sC, z_hR_sC, z_hA_sC, z_hB_sC, z_hC_sC, z_hT_sC, z_hN_sC, z_hZ_sC, z_hI_sY, z_hL_sY, z_hR_sY, z_hA_sY, z_hB_sY, z_hC_sY, z_hT_sY, z_hN_sY, z_hZ_sY, z_hI_nO, z_hL_nO, z_hR_nO, z_hA_nO, z_hB_nO, z_hC_nO, z_hT_nO, z_hN_nO, z_hZ_nO, z_hI_nA, z_hL_nA, z_hR_nA, z_hA_nA, z_hB_nA, z_hC_nA, z_hT_nA, z_hN_nA, z_hZ_nA]
      rw [if_neg (fun q => ne_ow S.o23 (S.rlo w wG) (by omega) q.2)]
  · have ek2 : kc = G.nc w := by omega
    have cc := S.cdN w wG kc (by omega)
    have Cn : ∀ zz : Sz, zz.nr ≤ w → CD h (ncH h G w) G (ncG h G w) zz := fun zz hz => CD.nc S wG (by omega) hz
    have S1 : SX (ncH h G w) (ncG h G w) := (Cn Sz.nil (Nat.zero_le _)).sx
    have hI' : ∀ f a, a < hZ h → hI (ncH h G w) f a = hI h f a := fun f a ha => by
      show hI (nO h 3) f a = _
      rw [z_hI_nO, if_neg (by omega)]
    have hL' : ∀ f a, a < hZ h → hL (ncH h G w) f a = hL h f a := fun f a ha => by
      show hL (nO h 3) f a = _
      rw [z_hL_nO, if_neg (by omega)]
    have tw : hT (ncH h G w) (G.rl w) = 9 := by rw [ncH_T, if_neg (by omega)]; exact t9
    have tc : hT (ncH h G w) (G.ca w) = 105 := by rw [ncH_T, if_neg (by omega)]; exact S.caT w wG
    have cd' : (ncG h G w).cd w kc = hZ h := if_pos ⟨rfl, ek2⟩
    have nc' : (ncG h G w).nc w = G.nc w + 1 := if_pos rfl
    have t3 : hT (nO h 3) (hZ h) = 3 := by rw [z_hT_nO, if_pos rfl]
    have tc0 : hT (nO h 3) (G.ca w) = 105 := by rw [z_hT_nO, if_neg (by omega)]; exact S.caT w wG
    have nko1 : ∀ zz : Sz, zz.nr ≤ w → ¬ kO (ncG h G w) zz (G.rl w) := fun zz hz => by
      rintro ⟨r, hr, q⟩
      have e0 := S1.rlo w wG
      have e0' : (ncG h G w).ow (G.rl w) = 310000 + w := e0
      have rG : r < (ncG h G w).nr := Nat.lt_of_lt_of_le hr (Nat.le_trans hz (Nat.le_of_lt wG))
      rcases q with q | q | ⟨i, hi, q⟩
      · have e := S1.rlo r rG; rw [← q, e0'] at e; omega
      · have e := S1.hdo r rG; rw [← q, e0'] at e; omega
      · have e := S1.cdo r rG i hi; have := S1.nc6 r rG; rw [← q, e0'] at e; omega
    have o31 : (ncG h G w).ow (G.rl w) / 100000 = 3 := by
      have e0 : (ncG h G w).ow (G.rl w) = 310000 + w := S1.rlo w wG
      rw [e0]; omega
    refine ⟨sI (ncH h G w) 1027 (G.rl w) (nI (kc + 1)), ncG h G w, 1 + 0, 8 + 0, ?_, ?_, ?_, ?_, ?_, rfl, ?_, ?_⟩
    · unfold fX8_newCondition fX8_newCondition_0
      rw [oC_d t9, if_pos lt6, S.caR w wG, oN_v, oC_d (S.caT w wG), X.n1, S.caN w wG, oC_t (ix_n h6 (by omega)), nI_clamp (show kc < 2147483648 by omega), cc, if_pos rfl, oL_v, show fX2_init (nO h 3) (hZ h) = some (nO h 3) from rfl, oB_v, oC_d tc0, oC_d t3, show hN (nO h 3) (G.ca w) = 6 from S.caN w wG, oC_t (ix_n h6 (by omega)), oL_v, ek2]
      show oK4 1 8 (fX8_newCondition_39 (ncH h G w) (G.rl w)) = _
      rw [st tw ((hI' _ _ lrl).trans X.n1) ((ncH_R _ _ lrl).trans (S.caR w wG)) tc (S.caN w wG), oK4_v, ← ek2, cd', ncH_C, if_pos ⟨rfl, ek2⟩]
    · have p : pot (sI (ncH h G w) 1027 (G.rl w) (nI (kc + 1))) (ncG h G w) = pot h G := rfl
      exact ⟨by rw [p]; omega, by rw [p]; omega⟩
    · refine X.cg (fun zz hz => CD.trans (by omega) (Cn zz hz) (CD.xI (h := ncH h G w) S1 (.inl o31) (nko1 zz hz) (by omega) (by omega) (by omega) (by omega))) (fun f b hb q => ?_) (fun f => hL' f 23 (by omega)) (fun _ _ _ => rfl) (fun _ _ _ => rfl) (fun _ _ => rfl) ⟨rfl, rfl, rfl⟩ (fun i hi => ?_) (by simp only [z_hI_sI, z_hL_sI, z_hR_sI, z_hA_sI, z_hB_sI, z_hC_sI, z_hT_sI, z_hN_sI, z_hZ_sI, z_hI_sL, z_hL_sL, z_hR_sL, z_hA_sL, z_hB_sL, z_hC_sL, z_hT_sL, z_hN_sL, z_hZ_sL, z_hI_sR, z_hL_sR, z_hR_sR, z_hA_sR, z_hB_sR, z_hC_sR, z_hT_sR, z_hN_sR, z_hZ_sR, z_hI_sA, z_hL_sA, z_hR_sA, z_hA_sA, z_hB_sA, z_hC_sA, z_hT_sA, z_hN_sA, z_hZ_sA, z_hI_sB, z_hL_sB, z_hR_sB, z_hA_sB, z_hB_sB, z_hC_sB, z_hT_sB, z_hN_sB, z_hZ_sB, z_hI_sC, z_hL_sC, z_hR_sC, z_hA_sC, z_hB_sC, z_hC_sC, z_hT_sC, z_hN_sC, z_hZ_sC, z_hI_sY, z_hL_sY, z_hR_sY, z_hA_sY, z_hB_sY, z_hC_sY, z_hT_sY, z_hN_sY, z_hZ_sY, z_hI_nO, z_hL_nO, z_hR_nO, z_hA_nO, z_hB_nO, z_hC_nO, z_hT_nO, z_hN_nO, z_hZ_nO, z_hI_nA, z_hL_nA, z_hR_nA, z_hA_nA, z_hB_nA, z_hC_nA, z_hT_nA, z_hN_nA, z_hZ_nA, if_true, if_false, and_false, false_and, and_true, true_and, and_self, decide_true, decide_false, reduceCtorEq, not_false_eq_true, not_true_eq_false, Nat.reduceEqDiff, Nat.reduceAdd, Nat.reduceMul, Nat.add_zero, Nat.zero_add]) (by omega) (by omega) (by rw [nc']; omega)
      · simp only [z_hI_sI, z_hL_sI, z_hR_sI, z_hA_sI, z_hB_sI, z_hC_sI, z_hT_sI, z_hN_sI, z_hZ_sI, z_hI_sL, z_hL_sL, z_hR_sL, z_hA_sL, z_hB_sL, z_hC_sL, z_hT_sL, z_hN_sL, z_hZ_sL, z_hI_sR, z_hL_sR, z_hR_sR, z_hA_sR, z_hB_sR, z_hC_sR, z_hT_sR, z_hN_sR, z_hZ_sR, z_hI_sA, z_hL_sA, z_hR_sA, z_hA_sA, z_hB_sA, z_hC_sA, z_hT_sA, z_hN_sA, z_hZ_sA, z_hI_sB, z_hL_sB, z_hR_sB, z_hA_sB, z_hB_sB, z_hC_sB, z_hT_sB, z_hN_sB, z_hZ_sB, z_hI_sC, z_hL_sC, z_hR_sC, z_hA_sC, z_hB_sC, z_hC_sC, z_hT_sC, z_hN_sC, z_hZ_sC, z_hI_sY, z_hL_sY, z_hR_sY, z_hA_sY, z_hB_sY, z_hC_sY, z_hT_sY, z_hN_sY, z_hZ_sY, z_hI_nO, z_hL_nO, z_hR_nO, z_hA_nO, z_hB_nO, z_hC_nO, z_hT_nO, z_hN_nO, z_hZ_nO, z_hI_nA, z_hL_nA, z_hR_nA, z_hA_nA, z_hB_nA, z_hC_nA, z_hT_nA, z_hN_nA, z_hZ_nA]
        rw [if_neg q]
        exact hI' f b hb
      · exact if_neg (fun q => by omega)
    · intro f
      simp only [z_hI_sI, z_hL_sI, z_hR_sI, z_hA_sI, z_hB_sI, z_hC_sI, z_hT_sI, z_hN_sI, z_hZ_sI, z_hI_sL, z_hL_sL, z_hR_sL, z_hA_sL, z_hB_sL, z_hC_sL, z_hT_sL, z_hN_sL, z_hZ_sL, z_hI_sR, z_hL_sR, z_hR_sR, z_hA_sR, z_hB_sR, z_hC_sR, z_hT_sR, z_hN_sR, z_hZ_sR, z_hI_sA, z_hL_sA, z_hR_sA, z_hA_sA, z_hB_sA, z_hC_sA, z_hT_sA, z_hN_sA, z_hZ_sA, z_hI_sB, z_hL_sB, z_hR_sB, z_hA_sB, z_hB_sB, z_hC_sB, z_hT_sB, z_hN_sB, z_hZ_sB, z_hI_sC, z_hL_sC, z_hR_sC, z_hA_sC, z_hB_sC, z_hC_sC, z_hT_sC, z_hN_sC, z_hZ_sC, z_hI_sY, z_hL_sY, z_hR_sY, z_hA_sY, z_hB_sY, z_hC_sY, z_hT_sY, z_hN_sY, z_hZ_sY, z_hI_nO, z_hL_nO, z_hR_nO, z_hA_nO, z_hB_nO, z_hC_nO, z_hT_nO, z_hN_nO, z_hZ_nO, z_hI_nA, z_hL_nA, z_hR_nA, z_hA_nA, z_hB_nA, z_hC_nA, z_hT_nA, z_hN_nA, z_hZ_nA]
      rw [if_neg (fun q => ne_ow S.o23 (S.rlo w wG) (by omega) q.2)]
      exact hI' f 23 (by omega)
    · exact fun f => hL' f 23 (by omega)
    · rw [cd']
      show hT (ncH h G w) (hZ h) = 3
      rw [ncH_T, if_pos rfl]
    · rw [cd', ek2]
      exact upO_s
end RG
