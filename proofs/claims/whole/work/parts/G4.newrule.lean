/-! a new rule -/
def nrH (h : PH) (w : Nat) : PH := sC (sR (nO (sR (nA (nO h 9) 105 6) 1028 (hZ h) (some (hZ h + 1))) 3) 1029 (hZ h) (some (hZ h + 2))) 19 w (some (hZ h))
def nrG (h : PH) (G : Gh) (w : Nat) : Gh := G.wRu (fun r => if r = w then hZ h else G.rl r) (fun r => if r = w then hZ h + 1 else G.ca r) (fun r => if r = w then hZ h + 2 else G.hd r) G.cd (w + 1) (fun r => if r = w then 0 else G.nc r) (upO (upO (upO G.ow (hZ h) (310000 + w)) (hZ h + 1) (320000 + w)) (hZ h + 2) (330000 + w))
section NR
variable {h : PH} {G : Gh} {w : Nat}
theorem nrH_T (a : Nat) : hT (nrH h w) a = if a = hZ h + 2 then 3 else if a = hZ h + 1 then 105 else if a = hZ h then 9 else hT h a := rfl
theorem nrH_N (a : Nat) : hN (nrH h w) a = if a = hZ h + 1 then 6 else hN h a := rfl
theorem nrH_R (f a : Nat) : hR (nrH h w) f a = if f = 1029 ∧ a = hZ h then some (hZ h + 2) else if a = hZ h + 2 then none else if f = 1028 ∧ a = hZ h then some (hZ h + 1) else if a = hZ h then none else hR h f a := rfl
theorem nrH_C (a i : Nat) : hC (nrH h w) a i = if a = 19 ∧ i = w then some (hZ h) else if a = hZ h + 1 then none else hC h a i := rfl
theorem nrH_I (f a : Nat) (ha : a < hZ h) : hI (nrH h w) f a = hI h f a := by
  show (if a = hZ h + 2 then 0 else if a = hZ h then 0 else hI h f a) = _
  rw [if_neg (by omega), if_neg (by omega)]
theorem nrH_L (f a : Nat) (ha : a < hZ h) : hL (nrH h w) f a = hL h f a := by
  show (if a = hZ h + 2 then 0 else if a = hZ h then 0 else hL h f a) = _
  rw [if_neg (by omega), if_neg (by omega)]
theorem nrH_A (a i : Nat) (ha : a < hZ h) : hA (nrH h w) a i = hA h a i := by
  show (if a = hZ h + 1 then 0 else hA h a i) = _
  rw [if_neg (by omega)]
theorem nrH_B (a i : Nat) (ha : a < hZ h) : hB (nrH h w) a i = hB h a i := by
  show (if a = hZ h + 1 then 0 else hB h a i) = _
  rw [if_neg (by omega)]
theorem nrG_o (a : Nat) (ha : a < hZ h) : (nrG h G w).ow a = G.ow a := by
  show upO _ _ _ a = _
  rw [upO_n (by omega), upO_n (by omega), upO_n (by omega)]
theorem nrG_0 : (nrG h G w).ow (hZ h) = 310000 + w := by
  show upO _ _ _ (hZ h) = _
  rw [upO_n (by omega), upO_n (by omega), upO_s]
theorem nrG_1 : (nrG h G w).ow (hZ h + 1) = 320000 + w := by
  show upO _ _ _ (hZ h + 1) = _
  rw [upO_n (by omega), upO_s]
theorem nrG_2 : (nrG h G w).ow (hZ h + 2) = 330000 + w := by
  show upO _ _ _ (hZ h + 2) = _
  rw [upO_s]
theorem nrH_ru (S : SX h G) (hw : w = G.nr) (w3 : w < 30) : RU' (hR (nrH h w)) (hC (nrH h w)) (hT (nrH h w)) (hN (nrH h w)) (hZ (nrH h w)) (nrG h G w).ow (nrG h G w).rl (nrG h G w).ca (nrG h G w).hd (nrG h G w).cd (nrG h G w).nr (nrG h G w).nc := by
  have zz := S.zz
  have erl : ∀ r, (nrG h G w).rl r = if r = w then hZ h else G.rl r := fun r => rfl
  have eca : ∀ r, (nrG h G w).ca r = if r = w then hZ h + 1 else G.ca r := fun r => rfl
  have ehd : ∀ r, (nrG h G w).hd r = if r = w then hZ h + 2 else G.hd r := fun r => rfl
  have enc : ∀ r, (nrG h G w).nc r = if r = w then 0 else G.nc r := fun r => rfl
  have lr : ∀ r, r < G.nr → G.rl r < hZ h := fun r hr => S.lt (S.rlT r hr) (by omega)
  have lc : ∀ r, r < G.nr → G.ca r < hZ h := fun r hr => S.lt (S.caT r hr) (by omega)
  have lh : ∀ r, r < G.nr → G.hd r < hZ h := fun r hr => S.lt (S.hdT r hr) (by omega)
  have ld : ∀ r, r < G.nr → ∀ k, k < G.nc r → G.cd r k < hZ h := fun r hr k hk => S.lt (S.cdT r hr k hk) (by omega)
  have hT' : ∀ a, a < hZ h → hT (nrH h w) a = hT h a := fun a ha => by rw [nrH_T, if_neg (by omega), if_neg (by omega), if_neg (by omega)]
  have hR' : ∀ f a, a < hZ h → hR (nrH h w) f a = hR h f a := fun f a ha => by rw [nrH_R, if_neg (fun q => by omega), if_neg (by omega), if_neg (fun q => by omega), if_neg (by omega)]
  have dec : ∀ r, r < w + 1 → r = w ∨ r < G.nr ∧ r ≠ w := fun r hr => by omega
  have c19 : ∀ r, hC (nrH h w) 19 r = if r = w then some (hZ h) else hC h 19 r := fun r => by
    rw [nrH_C]
    by_cases q : r = w
    · rw [if_pos ⟨rfl, q⟩, if_pos q]
    · rw [if_neg (fun x => q x.2), if_neg (by omega), if_neg q]
  have n19 : ∀ r, r < G.nr → G.ca r ≠ 19 := fun r hr q => by have := S.caT r hr; rw [q, S.t19] at this; omega
  apply RU'.mk
  · show w + 1 ≤ 30; omega
  · intro r hr
    rw [c19, erl]
    rcases dec r hr with q | ⟨q, q2⟩
    · rw [if_pos q, if_pos q]
    · rw [if_neg q2, if_neg q2]; exact S.rlC r q
  · intro r hr
    have hr' : w + 1 ≤ r := hr
    rw [c19, if_neg (by omega)]
    exact S.rlN r (by omega)
  · intro r hr
    rw [erl]
    rcases dec r hr with q | ⟨q, q2⟩
    · rw [if_pos q, nrH_T, if_neg (by omega), if_neg (by omega), if_pos rfl]
    · rw [if_neg q2, hT' _ (lr r q)]; exact S.rlT r q
  · intro r hr
    rw [erl]
    rcases dec r hr with q | ⟨q, q2⟩
    · rw [if_pos q, nrG_0, q]
    · rw [if_neg q2, nrG_o _ (lr r q)]; exact S.rlo r q
  · intro r hr
    rw [erl, eca]
    rcases dec r hr with q | ⟨q, q2⟩
    · rw [if_pos q, if_pos q, nrH_R, if_neg (fun x => by omega), if_neg (by omega), if_pos ⟨rfl, rfl⟩]
    · rw [if_neg q2, if_neg q2, hR' _ _ (lr r q)]; exact S.caR r q
  · intro r hr
    rw [eca]
    rcases dec r hr with q | ⟨q, q2⟩
    · rw [if_pos q, nrH_T, if_neg (by omega), if_pos rfl]
    · rw [if_neg q2, hT' _ (lc r q)]; exact S.caT r q
  · intro r hr
    rw [eca]
    rcases dec r hr with q | ⟨q, q2⟩
    · rw [if_pos q, nrH_N, if_pos rfl]
    · have := lc r q
      rw [if_neg q2, nrH_N, if_neg (by omega)]; exact S.caN r q
  · intro r hr
    rw [eca]
    rcases dec r hr with q | ⟨q, q2⟩
    · rw [if_pos q, nrG_1, q]
    · rw [if_neg q2, nrG_o _ (lc r q)]; exact S.cao r q
  · intro r hr
    rw [erl, ehd]
    rcases dec r hr with q | ⟨q, q2⟩
    · rw [if_pos q, if_pos q, nrH_R, if_pos ⟨rfl, rfl⟩]
    · rw [if_neg q2, if_neg q2, hR' _ _ (lr r q)]; exact S.hdR r q
  · intro r hr
    rw [ehd]
    rcases dec r hr with q | ⟨q, q2⟩
    · rw [if_pos q, nrH_T, if_pos rfl]
    · rw [if_neg q2, hT' _ (lh r q)]; exact S.hdT r q
  · intro r hr
    rw [ehd]
    rcases dec r hr with q | ⟨q, q2⟩
    · rw [if_pos q, nrG_2, q]
    · rw [if_neg q2, nrG_o _ (lh r q)]; exact S.hdo r q
  · intro r hr
    rw [enc]
    rcases dec r hr with q | ⟨q, q2⟩
    · rw [if_pos q]; omega
    · rw [if_neg q2]; exact S.nc6 r q
  · intro r hr k hk
    rw [enc] at hk
    rw [eca]
    rcases dec r hr with q | ⟨q, q2⟩
    · rw [if_pos q] at hk; omega
    · rw [if_neg q2] at hk
      have := lc r q
      rw [if_neg q2, nrH_C, if_neg (fun x => n19 r q x.1), if_neg (by omega)]; exact S.cdC r q k hk
  · intro r hr k hk
    rw [enc] at hk
    rw [eca]
    rcases dec r hr with q | ⟨q, q2⟩
    · rw [if_pos q, nrH_C, if_neg (fun x => by omega), if_pos rfl]
    · rw [if_neg q2] at hk
      have := lc r q
      rw [if_neg q2, nrH_C, if_neg (fun x => n19 r q x.1), if_neg (by omega)]; exact S.cdN r q k hk
  · intro r hr k hk
    rw [enc] at hk
    rcases dec r hr with q | ⟨q, q2⟩
    · rw [if_pos q] at hk; omega
    · rw [if_neg q2] at hk
      show hT (nrH h w) (G.cd r k) = 3
      rw [hT' _ (ld r q k hk)]; exact S.cdT r q k hk
  · intro r hr k hk
    rw [enc] at hk
    rcases dec r hr with q | ⟨q, q2⟩
    · rw [if_pos q] at hk; omega
    · rw [if_neg q2] at hk
      show (nrG h G w).ow (G.cd r k) = _
      rw [nrG_o _ (ld r q k hk)]; exact S.cdo r q k hk
theorem CD.nr (S : SX h G) (hw : w = G.nr) (w3 : w < 30) {zz : Sz} (hz : zz.nr ≤ w) : CD h (nrH h w) G (nrG h G w) zz := by
  have z1 := S.zz
  have hT' : ∀ a, a < hZ h → hT (nrH h w) a = hT h a := fun a ha => by rw [nrH_T, if_neg (by omega), if_neg (by omega), if_neg (by omega)]
  have hN' : ∀ a, a < hZ h → hN (nrH h w) a = hN h a := fun a ha => by rw [nrH_N, if_neg (by omega)]
  have hR' : ∀ f a, a < hZ h → hR (nrH h w) f a = hR h f a := fun f a ha => by rw [nrH_R, if_neg (fun q => by omega), if_neg (by omega), if_neg (fun q => by omega), if_neg (by omega)]
  have hC' : ∀ a i, a < hZ h → a ≠ 19 → hC (nrH h w) a i = hC h a i := fun a i ha q => by rw [nrH_C, if_neg (fun x => q x.1), if_neg (by omega)]
  have ho : ∀ a, a < hZ h → (nrG h G w).ow a = G.ow a := fun a ha => nrG_o a ha
  have fr' : ∀ i, hZ h + 3 ≤ i → hT (nrH h w) i = 0 := fun i hi => by rw [nrH_T, if_neg (by omega), if_neg (by omega), if_neg (by omega)]; exact S.fr i (by omega)
  have kl : ∀ a, kO G zz a → a < hZ h := fun a ha => (kO_o S (by omega) ha).2
  have lpg := S.lt S.tpg (by omega)
  refine CD.mk ?_ ?_ (show hZ h ≤ hZ h + 3 by omega) hN' (fun a ha => ⟨fun f => nrH_I f a ha.1, fun f => nrH_L f a ha.1, fun i => nrH_A a i ha.1, fun i => nrH_B a i ha.1⟩) (fun i => ⟨nrH_A _ i (S.lt S.tkd (by omega)), nrH_A _ i (S.lt S.tst (by omega)), nrH_B _ i (S.lt S.tvl (by omega))⟩) (nrH_I _ _ (by omega)) (fun a i q => ?_) (fun a ha f => nrH_I f a (kl a ha)) (fun i _ => nrH_A _ i lpg) ?_ ⟨nrH_I _ _ (by omega), nrH_I _ _ (by omega), nrH_I _ _ (by omega), nrH_I _ _ (by omega), nrH_I _ _ (by omega), nrH_I _ _ (by omega), nrH_I _ _ (by omega), nrH_I _ _ (by omega)⟩
  · exact SX'.mk (SS'.step S.ss hT' hN' ho (fun f a ha _ => hR' f a ha) (show hZ h ≤ hZ h + 3 by omega) fr') (nrH_ru S hw w3) (TE'.step (SX'.te (G := G) S) S.fr hT' hN' ho (fun f a ha _ => hR' f a ha) (fun i _ => hC' 31 i (by omega) (by omega))) (JU'.step S.ju S.fr hT' hN' ho (fun f a ha _ => hR' f a ha) (hR' _ _ (by omega)) (fun f _ a ha => hR' f a ha) (fun a i ha e => hC' a i ha (fun q => by rw [q, S.t19] at e; omega))) (P6.step (SX'.tk (G := G) S) (by omega) S.fr hT' ho (hR' _ _ (by omega))) (P6.step (SX'.wk (G := G) S) (by omega) S.fr hT' ho (hR' _ _ (by omega))) (P6.step (SX'.pg (G := G) S) (by omega) S.fr hT' ho (hR' _ _ (by omega))) (P6.step (SX'.kd (G := G) S) (by omega) S.fr hT' ho (hR' _ _ (by omega))) (P6.step (SX'.st (G := G) S) (by omega) S.fr hT' ho (hR' _ _ (by omega))) (P6.step (SX'.vl (G := G) S) (by omega) S.fr hT' ho (hR' _ _ (by omega)))
  · refine ⟨rfl, rfl, rfl, rfl, rfl, rfl, rfl, rfl, rfl, (show G.nr ≤ w + 1 by omega), fun r hr => ⟨if_neg (by omega), if_neg (by omega), if_neg (by omega), ?_, fun i hi => rfl⟩, ho⟩
    show G.nc r ≤ if r = w then 0 else G.nc r
    rw [if_neg (by omega)]
    exact Nat.le_refl _
  · have la : a < hZ h := by unfold kC at q; omega
    exact ⟨nrH_A a i la, nrH_B a i la⟩
  · show hN h G.pg ≤ hN (nrH h w) G.pg
    rw [hN' _ lpg]
    exact Nat.le_refl _
end NR
/-- a rule begun by the class -/
def NW (h : PH) (h' : PH) (G : Gh) (G' : Gh) (w : Nat) (nl : Nat) (x : Int32) : Prop := (∀ zz : Sz, zz.nr ≤ w → zz.nl < nl → CD h h' G G' zz) ∧ (w < G'.nr) ∧ (hI h' 1024 (G'.rl w) = nI (nl - 1)) ∧ (hI h' 1025 (G'.rl w) = x) ∧ (hI h' 1027 (G'.rl w) = 0) ∧ (∀ f b, b < hZ h → b ≠ G'.rl w → hI h' f b = hI h f b) ∧ (∀ f b, b < hZ h → hL h' f b = hL h f b) ∧ (∀ b i, b < hZ h → ¬ (b = 18 ∧ i = 5 * (nl - 1) + 4) → hA h' b i = hA h b i) ∧ (hA h' 18 (5 * (nl - 1) + 4) = hA h 18 (5 * (nl - 1) + 4) + 1) ∧ (∀ b i, b < hZ h → hB h' b i = hB h b i) ∧ (∀ b, b < hZ h → hN h' b = hN h b) ∧ (G'.pg = G.pg)
theorem NW.cd {h : PH} {h' : PH} {G : Gh} {G' : Gh} {w : Nat} {nl : Nat} {x : Int32} (X_ : NW h h' G G' w nl x) : ∀ zz : Sz, zz.nr ≤ w → zz.nl < nl → CD h h' G G' zz := X_.1
theorem NW.wG {h : PH} {h' : PH} {G : Gh} {G' : Gh} {w : Nat} {nl : Nat} {x : Int32} (X_ : NW h h' G G' w nl x) : w < G'.nr := X_.2.1
theorem NW.law {h : PH} {h' : PH} {G : Gh} {G' : Gh} {w : Nat} {nl : Nat} {x : Int32} (X_ : NW h h' G G' w nl x) : hI h' 1024 (G'.rl w) = nI (nl - 1) := X_.2.2.1
theorem NW.kd {h : PH} {h' : PH} {G : Gh} {G' : Gh} {w : Nat} {nl : Nat} {x : Int32} (X_ : NW h h' G G' w nl x) : hI h' 1025 (G'.rl w) = x := X_.2.2.2.1
theorem NW.cn {h : PH} {h' : PH} {G : Gh} {G' : Gh} {w : Nat} {nl : Nat} {x : Int32} (X_ : NW h h' G G' w nl x) : hI h' 1027 (G'.rl w) = 0 := X_.2.2.2.2.1
theorem NW.I {h : PH} {h' : PH} {G : Gh} {G' : Gh} {w : Nat} {nl : Nat} {x : Int32} (X_ : NW h h' G G' w nl x) : ∀ f b, b < hZ h → b ≠ G'.rl w → hI h' f b = hI h f b := X_.2.2.2.2.2.1
theorem NW.L {h : PH} {h' : PH} {G : Gh} {G' : Gh} {w : Nat} {nl : Nat} {x : Int32} (X_ : NW h h' G G' w nl x) : ∀ f b, b < hZ h → hL h' f b = hL h f b := X_.2.2.2.2.2.2.1
theorem NW.A {h : PH} {h' : PH} {G : Gh} {G' : Gh} {w : Nat} {nl : Nat} {x : Int32} (X_ : NW h h' G G' w nl x) : ∀ b i, b < hZ h → ¬ (b = 18 ∧ i = 5 * (nl - 1) + 4) → hA h' b i = hA h b i := X_.2.2.2.2.2.2.2.1
theorem NW.a18 {h : PH} {h' : PH} {G : Gh} {G' : Gh} {w : Nat} {nl : Nat} {x : Int32} (X_ : NW h h' G G' w nl x) : hA h' 18 (5 * (nl - 1) + 4) = hA h 18 (5 * (nl - 1) + 4) + 1 := X_.2.2.2.2.2.2.2.2.1
theorem NW.B {h : PH} {h' : PH} {G : Gh} {G' : Gh} {w : Nat} {nl : Nat} {x : Int32} (X_ : NW h h' G G' w nl x) : ∀ b i, b < hZ h → hB h' b i = hB h b i := X_.2.2.2.2.2.2.2.2.2.1
theorem NW.N {h : PH} {h' : PH} {G : Gh} {G' : Gh} {w : Nat} {nl : Nat} {x : Int32} (X_ : NW h h' G G' w nl x) : ∀ b, b < hZ h → hN h' b = hN h b := X_.2.2.2.2.2.2.2.2.2.2.1
theorem NW.pg {h : PH} {h' : PH} {G : Gh} {G' : Gh} {w : Nat} {nl : Nat} {x : Int32} (X_ : NW h h' G G' w nl x) : G'.pg = G.pg := X_.2.2.2.2.2.2.2.2.2.2.2
theorem NW.mk {h : PH} {h' : PH} {G : Gh} {G' : Gh} {w : Nat} {nl : Nat} {x : Int32} (cd_ : ∀ zz : Sz, zz.nr ≤ w → zz.nl < nl → CD h h' G G' zz) (wG_ : w < G'.nr) (law_ : hI h' 1024 (G'.rl w) = nI (nl - 1)) (kd_ : hI h' 1025 (G'.rl w) = x) (cn_ : hI h' 1027 (G'.rl w) = 0) (I_ : ∀ f b, b < hZ h → b ≠ G'.rl w → hI h' f b = hI h f b) (L_ : ∀ f b, b < hZ h → hL h' f b = hL h f b) (A_ : ∀ b i, b < hZ h → ¬ (b = 18 ∧ i = 5 * (nl - 1) + 4) → hA h' b i = hA h b i) (a18_ : hA h' 18 (5 * (nl - 1) + 4) = hA h 18 (5 * (nl - 1) + 4) + 1) (B_ : ∀ b i, b < hZ h → hB h' b i = hB h b i) (N_ : ∀ b, b < hZ h → hN h' b = hN h b) (pg_ : G'.pg = G.pg) : NW h h' G G' w nl x := ⟨cd_, wG_, law_, kd_, cn_, I_, L_, A_, a18_, B_, N_, pg_⟩
section NW
variable {h : PH} {G : Gh} {w : Nat}
/-- the rule that is there already is used again -/
theorem new49 (S : SX h G) (wG : w < G.nr) {nl : Nat} (l1 : 1 ≤ nl) (l10 : nl ≤ 10) (s12 : hI h 897 12 = nI nl) (x : Int32) : ∃ h', fX1_newRule_49 h 5 (nI w) x = some (h', some (G.rl w), 0, 0) ∧ NW h h' G G w nl x := by
  have r30 := S.nr30
  have zz := S.zz
  have t9 := S.rlT w wG
  have lrl := S.lt t9 (by omega)
  have orl := S.rlo w wG
  have n12 : (12 : Nat) ≠ G.rl w := ne_ow S.o12 orl (by omega)
  have n18 : (18 : Nat) ≠ G.rl w := ne_ow S.o18 orl (by omega)
  have cl : (nI w).toNatClampNeg = w := nI_clamp (show w < 2147483648 by omega)
  have sb : nI nl - 1 = nI (nl - 1) := by rw [show (1 : Int32) = nI 1 from rfl, nI_sub (by omega)]
  have ei : nI (nl - 1) * 5 + 4 = nI (5 * (nl - 1) + 4) := by
    rw [show (5 : Int32) = nI 5 from rfl, nI_mul, show (4 : Int32) = nI 4 from rfl, nI_add]
    congr 1; omega
  have i12 : ∀ (f1 f2 f3 : Nat) (x1 x2 x3 : Int32), hI (sI (sI (sI h f1 (G.rl w) x1) f2 (G.rl w) x2) f3 (G.rl w) x3) 897 12 = nI nl := fun f1 f2 f3 x1 x2 x3 => by
    simp only [z_hI_sI, z_hL_sI, z_hR_sI, z_hA_sI, z_hB_sI, z_hC_sI, z_hT_sI, z_hN_sI, z_hZ_sI, z_hI_sL, z_hL_sL, z_hR_sL, z_hA_sL, z_hB_sL, z_hC_sL, z_hT_sL, z_hN_sL, z_hZ_sL, z_hI_sR, z_hL_sR, z_hR_sR, z_hA_sR, z_hB_sR, z_hC_sR, z_hT_sR, z_hN_sR, z_hZ_sR, z_hI_sA, z_hL_sA, z_hR_sA, z_hA_sA, z_hB_sA, z_hC_sA, z_hT_sA, z_hN_sA, z_hZ_sA, z_hI_sB, z_hL_sB, z_hR_sB, z_hA_sB, z_hB_sB, z_hC_sB, z_hT_sB, z_hN_sB, z_hZ_sB, z_hI_sC, z_hL_sC, z_hR_sC, z_hA_sC, z_hB_sC, z_hC_sC, z_hT_sC, z_hN_sC, z_hZ_sC, z_hI_sY, z_hL_sY, z_hR_sY, z_hA_sY, z_hB_sY, z_hC_sY, z_hT_sY, z_hN_sY, z_hZ_sY, z_hI_nO, z_hL_nO, z_hR_nO, z_hA_nO, z_hB_nO, z_hC_nO, z_hT_nO, z_hN_nO, z_hZ_nO, z_hI_nA, z_hL_nA, z_hR_nA, z_hA_nA, z_hB_nA, z_hC_nA, z_hT_nA, z_hN_nA, z_hZ_nA]
    rw [if_neg (fun q => n12 q.2), if_neg (fun q => n12 q.2), if_neg (fun q => n12 q.2)]
    exact s12
  have cli : (nI (5 * (nl - 1) + 4)).toNatClampNeg = 5 * (nl - 1) + 4 := nI_clamp (show 5 * (nl - 1) + 4 < 2147483648 by omega)
  let h3 : PH := sI (sI (sI h 1024 (G.rl w) (nI (nl - 1))) 1025 (G.rl w) x) 1027 (G.rl w) 0
  have e3 : hI h3 897 12 = nI nl := i12 _ _ _ _ _ _
  have o3 : G.ow (G.rl w) / 100000 = 3 := by rw [orl]; omega
  have nk : ∀ zz : Sz, zz.nr ≤ w → ¬ kO G zz (G.rl w) := fun zz hz => by
    rintro ⟨r, hr, q⟩
    rcases q with q | q | ⟨i, hi, q⟩
    · have e := S.rlo r (by omega); rw [← q, orl] at e; omega
    · have e := S.hdo r (by omega); rw [← q, orl] at e; omega
    · have e := S.cdo r (by omega) i hi; have := S.nc6 r (by omega); rw [← q, orl] at e; omega
  have CI : ∀ (hh : PH), SX hh G → ∀ (f : Nat), f = 1024 ∨ f = 1025 ∨ f = 1027 → ∀ (y : Int32) (zz : Sz), zz.nr ≤ w → CD hh (sI hh f (G.rl w) y) G G zz := fun hh Sh f hf y zz hz => CD.xI Sh (.inl o3) (nk zz hz) (by omega) (by omega) (by omega) (by omega)
  have C3 : ∀ zz : Sz, zz.nr ≤ w → CD h h3 G G zz := fun zz hz => CD.trans (by omega) (CD.trans (by omega) (CI h S 1024 (by omega) _ zz hz) (CI (sI h 1024 (G.rl w) (nI (nl - 1))) S 1025 (by omega) x zz hz)) (CI (sI (sI h 1024 (G.rl w) (nI (nl - 1))) 1025 (G.rl w) x) S 1027 (by omega) 0 zz hz)
  refine ⟨sA h3 18 (5 * (nl - 1) + 4) (hA h 18 (5 * (nl - 1) + 4) + 1), ?_, ?_⟩
  · have T3 : ∀ a, hT h3 a = hT h a := fun _ => rfl
    unfold fX1_newRule_49
    rw [oC_d S.t5, S.r136_5, oN_v, oC_d S.t19, S.n19, oC_t (ix_n (show w < 30 by omega) (by omega)), S.r131_5, oN_v, oC_d S.t12, cl, S.rlC w wG, oN_v, oC_d t9, s12, sb, oL_v]
    show oN (hR h 136 5) _ = _
    rw [S.r136_5, oN_v]
    show oC (decide (hT h 19 = 104)) (oC (ix (nI w) (hN h 19)) (oN (hC h 19 w) _)) = _
    rw [oC_d S.t19, S.n19, oC_t (ix_n (show w < 30 by omega) (by omega)), S.rlC w wG, oN_v]
    show oC (decide (hT h (G.rl w) = 9)) _ = _
    rw [oC_d t9, oL_v]
    show oN (hR h 136 5) _ = _
    rw [S.r136_5, oN_v]
    show oC (decide (hT h 19 = 104)) (oC (ix (nI w) (hN h 19)) (oN (hC h 19 w) _)) = _
    rw [oC_d S.t19, S.n19, oC_t (ix_n (show w < 30 by omega) (by omega)), S.rlC w wG, oN_v]
    show oC (decide (hT h (G.rl w) = 9)) _ = _
    rw [oC_d t9, oL_v]
    show oN (hR h 131 5) _ = _
    rw [S.r131_5, oN_v]
    show oC (decide (hT h 12 = 8)) (oN (hR h 135 5) _) = _
    rw [oC_d S.t12, S.r135_5, oN_v]
    show oC (decide (hT h 18 = 101)) (oC (ix ((hI h3 897 12 - 1) * 5 + 4) (hN h 18)) (oC (ix ((hI h3 897 12 - 1) * 5 + 4) (hN h 18)) (oL (sA h3 18 (Int32.toNatClampNeg ((hI h3 897 12 - 1) * 5 + 4)) (hA h3 18 (Int32.toNatClampNeg ((hI h3 897 12 - 1) * 5 + 4)) + 1)) _))) = _
    rw [oC_d S.t18, e3, sb, ei, S.n18, oC_t (ix_n (show 5 * (nl - 1) + 4 < 50 by omega) (by omega)), oC_t (ix_n (show 5 * (nl - 1) + 4 < 50 by omega) (by omega)), cli, oL_v]
    show oN (hR h 136 5) _ = _
    rw [S.r136_5, oN_v]
    show oC (decide (hT h 19 = 104)) (oC (ix (nI w) (hN h 19)) (some (_, hC h 19 w, 0, 0))) = _
    rw [oC_d S.t19, S.n19, oC_t (ix_n (show w < 30 by omega) (by omega)), S.rlC w wG]
    rfl
  · refine ⟨fun zz hz hl => CD.trans (by omega) (C3 zz hz) (CD.lw1 (h := h3) S (by omega) _), wG, ?_, ?_, ?_, fun f b _ q => ?_, fun _ _ _ => rfl, fun b i _ q => ?_, ?_, fun _ _ _ => rfl, fun _ _ => rfl, rfl⟩
    · simp only [h3, z_hI_sI, z_hL_sI, z_hR_sI, z_hA_sI, z_hB_sI, z_hC_sI, z_hT_sI, z_hN_sI, z_hZ_sI, z_hI_sL, z_hL_sL, z_hR_sL, z_hA_sL, z_hB_sL, z_hC_sL, z_hT_sL, z_hN_sL, z_hZ_sL, z_hI_sR, z_hL_sR, z_hR_sR, z_hA_sR, z_hB_sR, z_hC_sR, z_hT_sR, z_hN_sR, z_hZ_sR, z_hI_sA, z_hL_sA, z_hR_sA, z_hA_sA, z_hB_sA, z_hC_sA, z_hT_sA, z_hN_sA, z_hZ_sA, z_hI_sB, z_hL_sB, z_hR_sB, z_hA_sB, z_hB_sB, z_hC_sB, z_hT_sB, z_hN_sB, z_hZ_sB, z_hI_sC, z_hL_sC, z_hR_sC, z_hA_sC, z_hB_sC, z_hC_sC, z_hT_sC, z_hN_sC, z_hZ_sC, z_hI_sY, z_hL_sY, z_hR_sY, z_hA_sY, z_hB_sY, z_hC_sY, z_hT_sY, z_hN_sY, z_hZ_sY, z_hI_nO, z_hL_nO, z_hR_nO, z_hA_nO, z_hB_nO, z_hC_nO, z_hT_nO, z_hN_nO, z_hZ_nO, z_hI_nA, z_hL_nA, z_hR_nA, z_hA_nA, z_hB_nA, z_hC_nA, z_hT_nA, z_hN_nA, z_hZ_nA, if_true, if_false, and_false, false_and, and_true, true_and, and_self, decide_true, decide_false, reduceCtorEq, not_false_eq_true, not_true_eq_false, Nat.reduceEqDiff, Nat.reduceAdd, Nat.reduceMul, Nat.add_zero, Nat.zero_add]
    · simp only [h3, z_hI_sI, z_hL_sI, z_hR_sI, z_hA_sI, z_hB_sI, z_hC_sI, z_hT_sI, z_hN_sI, z_hZ_sI, z_hI_sL, z_hL_sL, z_hR_sL, z_hA_sL, z_hB_sL, z_hC_sL, z_hT_sL, z_hN_sL, z_hZ_sL, z_hI_sR, z_hL_sR, z_hR_sR, z_hA_sR, z_hB_sR, z_hC_sR, z_hT_sR, z_hN_sR, z_hZ_sR, z_hI_sA, z_hL_sA, z_hR_sA, z_hA_sA, z_hB_sA, z_hC_sA, z_hT_sA, z_hN_sA, z_hZ_sA, z_hI_sB, z_hL_sB, z_hR_sB, z_hA_sB, z_hB_sB, z_hC_sB, z_hT_sB, z_hN_sB, z_hZ_sB, z_hI_sC, z_hL_sC, z_hR_sC, z_hA_sC, z_hB_sC, z_hC_sC, z_hT_sC, z_hN_sC, z_hZ_sC, z_hI_sY, z_hL_sY, z_hR_sY, z_hA_sY, z_hB_sY, z_hC_sY, z_hT_sY, z_hN_sY, z_hZ_sY, z_hI_nO, z_hL_nO, z_hR_nO, z_hA_nO, z_hB_nO, z_hC_nO, z_hT_nO, z_hN_nO, z_hZ_nO, z_hI_nA, z_hL_nA, z_hR_nA, z_hA_nA, z_hB_nA, z_hC_nA, z_hT_nA, z_hN_nA, z_hZ_nA, if_true, if_false, and_false, false_and, and_true, true_and, and_self, decide_true, decide_false, reduceCtorEq, not_false_eq_true, not_true_eq_false, Nat.reduceEqDiff, Nat.reduceAdd, Nat.reduceMul, Nat.add_zero, Nat.zero_add]
    · simp only [h3, z_hI_sI, z_hL_sI, z_hR_sI, z_hA_sI, z_hB_sI, z_hC_sI, z_hT_sI, z_hN_sI, z_hZ_sI, z_hI_sL, z_hL_sL, z_hR_sL, z_hA_sL, z_hB_sL, z_hC_sL, z_hT_sL, z_hN_sL, z_hZ_sL, z_hI_sR, z_hL_sR, z_hR_sR, z_hA_sR, z_hB_sR, z_hC_sR, z_hT_sR, z_hN_sR, z_hZ_sR, z_hI_sA, z_hL_sA, z_hR_sA, z_hA_sA, z_hB_sA, z_hC_sA, z_hT_sA, z_hN_sA, z_hZ_sA, z_hI_sB, z_hL_sB, z_hR_sB, z_hA_sB, z_hB_sB, z_hC_sB, z_hT_sB, z_hN_sB, z_hZ_sB, z_hI_sC, z_hL_sC, z_hR_sC, z_hA_sC, z_hB_sC, z_hC_sC, z_hT_sC, z_hN_sC, z_hZ_sC, z_hI_sY, z_hL_sY, z_hR_sY, z_hA_sY, z_hB_sY, z_hC_sY, z_hT_sY, z_hN_sY, z_hZ_sY, z_hI_nO, z_hL_nO, z_hR_nO, z_hA_nO, z_hB_nO, z_hC_nO, z_hT_nO, z_hN_nO, z_hZ_nO, z_hI_nA, z_hL_nA, z_hR_nA, z_hA_nA, z_hB_nA, z_hC_nA, z_hT_nA, z_hN_nA, z_hZ_nA, if_true, if_false, and_false, false_and, and_true, true_and, and_self, decide_true, decide_false, reduceCtorEq, not_false_eq_true, not_true_eq_false, Nat.reduceEqDiff, Nat.reduceAdd, Nat.reduceMul, Nat.add_zero, Nat.zero_add]
    · simp only [h3, z_hI_sI, z_hL_sI, z_hR_sI, z_hA_sI, z_hB_sI, z_hC_sI, z_hT_sI, z_hN_sI, z_hZ_sI, z_hI_sL, z_hL_sL, z_hR_sL, z_hA_sL, z_hB_sL, z_hC_sL, z_hT_sL, z_hN_sL, z_hZ_sL, z_hI_sR, z_hL_sR, z_hR_sR, z_hA_sR, z_hB_sR, z_hC_sR, z_hT_sR, z_hN_sR, z_hZ_sR, z_hI_sA, z_hL_sA, z_hR_sA, z_hA_sA, z_hB_sA, z_hC_sA, z_hT_sA, z_hN_sA, z_hZ_sA, z_hI_sB, z_hL_sB, z_hR_sB, z_hA_sB, z_hB_sB, z_hC_sB, z_hT_sB, z_hN_sB, z_hZ_sB, z_hI_sC, z_hL_sC, z_hR_sC, z_hA_sC, z_hB_sC, z_hC_sC, z_hT_sC, z_hN_sC, z_hZ_sC, z_hI_sY, z_hL_sY, z_hR_sY, z_hA_sY, z_hB_sY, z_hC_sY, z_hT_sY, z_hN_sY, z_hZ_sY, z_hI_nO, z_hL_nO, z_hR_nO, z_hA_nO, z_hB_nO, z_hC_nO, z_hT_nO, z_hN_nO, z_hZ_nO, z_hI_nA, z_hL_nA, z_hR_nA, z_hA_nA, z_hB_nA, z_hC_nA, z_hT_nA, z_hN_nA, z_hZ_nA]
      rw [if_neg (fun e => q e.2), if_neg (fun e => q e.2), if_neg (fun e => q e.2)]
    · simp only [h3, z_hI_sI, z_hL_sI, z_hR_sI, z_hA_sI, z_hB_sI, z_hC_sI, z_hT_sI, z_hN_sI, z_hZ_sI, z_hI_sL, z_hL_sL, z_hR_sL, z_hA_sL, z_hB_sL, z_hC_sL, z_hT_sL, z_hN_sL, z_hZ_sL, z_hI_sR, z_hL_sR, z_hR_sR, z_hA_sR, z_hB_sR, z_hC_sR, z_hT_sR, z_hN_sR, z_hZ_sR, z_hI_sA, z_hL_sA, z_hR_sA, z_hA_sA, z_hB_sA, z_hC_sA, z_hT_sA, z_hN_sA, z_hZ_sA, z_hI_sB, z_hL_sB, z_hR_sB, z_hA_sB, z_hB_sB, z_hC_sB, z_hT_sB, z_hN_sB, z_hZ_sB, z_hI_sC, z_hL_sC, z_hR_sC, z_hA_sC, z_hB_sC, z_hC_sC, z_hT_sC, z_hN_sC, z_hZ_sC, z_hI_sY, z_hL_sY, z_hR_sY, z_hA_sY, z_hB_sY, z_hC_sY, z_hT_sY, z_hN_sY, z_hZ_sY, z_hI_nO, z_hL_nO, z_hR_nO, z_hA_nO, z_hB_nO, z_hC_nO, z_hT_nO, z_hN_nO, z_hZ_nO, z_hI_nA, z_hL_nA, z_hR_nA, z_hA_nA, z_hB_nA, z_hC_nA, z_hT_nA, z_hN_nA, z_hZ_nA]
      rw [if_neg q]
    · simp only [h3, z_hI_sI, z_hL_sI, z_hR_sI, z_hA_sI, z_hB_sI, z_hC_sI, z_hT_sI, z_hN_sI, z_hZ_sI, z_hI_sL, z_hL_sL, z_hR_sL, z_hA_sL, z_hB_sL, z_hC_sL, z_hT_sL, z_hN_sL, z_hZ_sL, z_hI_sR, z_hL_sR, z_hR_sR, z_hA_sR, z_hB_sR, z_hC_sR, z_hT_sR, z_hN_sR, z_hZ_sR, z_hI_sA, z_hL_sA, z_hR_sA, z_hA_sA, z_hB_sA, z_hC_sA, z_hT_sA, z_hN_sA, z_hZ_sA, z_hI_sB, z_hL_sB, z_hR_sB, z_hA_sB, z_hB_sB, z_hC_sB, z_hT_sB, z_hN_sB, z_hZ_sB, z_hI_sC, z_hL_sC, z_hR_sC, z_hA_sC, z_hB_sC, z_hC_sC, z_hT_sC, z_hN_sC, z_hZ_sC, z_hI_sY, z_hL_sY, z_hR_sY, z_hA_sY, z_hB_sY, z_hC_sY, z_hT_sY, z_hN_sY, z_hZ_sY, z_hI_nO, z_hL_nO, z_hR_nO, z_hA_nO, z_hB_nO, z_hC_nO, z_hT_nO, z_hN_nO, z_hZ_nO, z_hI_nA, z_hL_nA, z_hR_nA, z_hA_nA, z_hB_nA, z_hC_nA, z_hT_nA, z_hN_nA, z_hZ_nA, if_true, if_false, and_false, false_and, and_true, true_and, and_self, decide_true, decide_false, reduceCtorEq, not_false_eq_true, not_true_eq_false, Nat.reduceEqDiff, Nat.reduceAdd, Nat.reduceMul, Nat.add_zero, Nat.zero_add]
theorem newRule_v (S : SX h G) (hw : w ≤ G.nr) (w3 : w < 30) {nl : Nat} (l1 : 1 ≤ nl) (l10 : nl ≤ 10) (s12 : hI h 897 12 = nI nl) (s14 : hI h 897 14 = nI (w + 1)) (x : Int32) : ∃ h' G' i j, fX1_newRule h 5 (nI w) x = some (h', some (G'.rl w), i, j) ∧ i ≤ 3 ∧ j ≤ 20 ∧ NW h h' G G' w nl x := by
  have zz := S.zz
  have cl : (nI w).toNatClampNeg = w := nI_clamp (show w < 2147483648 by omega)
  have n0 : ¬ nI nl = 0 := fun q => by have := (nI_eq (b := 0) (by omega) (by omega)).mp q; omega
  have head : fX1_newRule h 5 (nI w) x = if hC h 19 w = none then (oL (nO h 9) (fun h50 => oK4 1 6 (oB3 (fX8_init h50 (hZ h)) (fun h57 i58 j59 => oK4 i58 j59 (oC (decide (hT h57 19 = 104)) (oC (decide (hT h57 (hZ h) = 9)) (oC (ix (nI w) (hN h57 19)) (oL (sC h57 19 w (some (hZ h))) (fun h65 => fX1_newRule_49 h65 5 (nI w) x))))))))) else (fX1_newRule_49 h 5 (nI w) x) := by
    unfold fX1_newRule fX1_newRule_0
    rw [if_neg (nI_pos (by omega)), oC_d S.t5, S.r132_5, oN_v, oC_d S.t14, s14, if_neg (nI_ge (by omega) (by omega)), S.r131_5, oN_v, oC_d S.t12, s12, if_neg n0, S.r136_5, oN_v, oC_d S.t19, S.n19, oC_t (ix_n w3 (by omega)), cl]
  by_cases c : w < G.nr
  · obtain ⟨h', e, X⟩ := new49 S c l1 l10 s12 x
    refine ⟨h', G, 0, 0, ?_, by omega, by omega, X⟩
    rw [head, S.rlC w c, if_neg (by simp), e]
  · have ew : w = G.nr := by omega
    have C : ∀ zz : Sz, zz.nr ≤ w → CD h (nrH h w) G (nrG h G w) zz := fun zz hz => CD.nr S ew w3 hz
    have S1 : SX (nrH h w) (nrG h G w) := (C Sz.nil (Nat.zero_le _)).sx
    have wG1 : w < (nrG h G w).nr := Nat.lt_succ_self w
    have rl1 : (nrG h G w).rl w = hZ h := if_pos rfl
    obtain ⟨h', e, X⟩ := new49 (h := nrH h w) S1 wG1 l1 l10 ((nrH_I _ _ (by omega)).trans s12) x
    refine ⟨h', nrG h G w, 1 + (2 + 0), 6 + (14 + 0), ?_, by omega, by omega, ?_⟩
    · have ei : fX8_init (nO h 9) (hZ h) = some (sR (nO (sR (nA (nO h 9) 105 6) 1028 (hZ h) (some (hZ h + 1))) 3) 1029 (hZ h) (some (hZ h + 2)), 2, 14) := by
        have c6 : Int32.toNatClampNeg 6 = 6 := rfl
        have ta : hT (nA (nO h 9) 105 6) (hZ h) = 9 := by
          show (if hZ h = hZ h + 1 then 105 else if hZ h = hZ h then 9 else _) = 9
          rw [if_neg (by omega), if_pos rfl]
        have tb : hT (nO (sR (nA (nO h 9) 105 6) 1028 (hZ h) (some (hZ h + 1))) 3) (hZ h) = 9 := by
          show (if hZ h = hZ h + 1 + 1 then 3 else hT (nA (nO h 9) 105 6) (hZ h)) = 9
          rw [if_neg (by omega), ta]
        unfold fX8_init fX8_init_0
        rw [c6, oL_v, oC_d ta, oL_v, oL_v, show ∀ a b, fX2_init a b = some a from fun _ _ => rfl, oB_v]
        show oK3 1 6 (oK3 1 8 (oC (decide (hT (nO (sR (nA (nO h 9) 105 6) 1028 (hZ h) (some (hZ h + 1))) 3) (hZ h) = 9)) _)) = _
        rw [oC_d tb, oL_v]
        rfl
      have t19 : hT (sR (nO (sR (nA (nO h 9) 105 6) 1028 (hZ h) (some (hZ h + 1))) 3) 1029 (hZ h) (some (hZ h + 2))) 19 = 104 := by
        have := S1.t19
        exact this
      have tZ : hT (sR (nO (sR (nA (nO h 9) 105 6) 1028 (hZ h) (some (hZ h + 1))) 3) 1029 (hZ h) (some (hZ h + 2))) (hZ h) = 9 := by
        have := S1.rlT w wG1
        rw [rl1] at this
        exact this
      have n19 : hN (sR (nO (sR (nA (nO h 9) 105 6) 1028 (hZ h) (some (hZ h + 1))) 3) 1029 (hZ h) (some (hZ h + 2))) 19 = 30 := by
        have := S1.n19
        exact this
      rw [head, S.rlN w (by omega), if_pos rfl, oL_v, ei, oB3_v, oC_d t19, oC_d tZ, n19, oC_t (ix_n w3 (by omega)), oL_v]
      show oK4 1 6 (oK4 2 14 (fX1_newRule_49 (nrH h w) 5 (nI w) x)) = _
      rw [e, oK4_v, oK4_v]
    · have hz : hZ (nrH h w) = hZ h + 3 := rfl
      refine ⟨fun zz hz hl => CD.trans (by omega) (C zz hz) (X.cd zz hz hl), X.wG, X.law, X.kd, X.cn, fun f b hb q => (X.I f b (by omega) q).trans (nrH_I f b hb), fun f b hb => (X.L f b (by omega)).trans (nrH_L f b hb), fun b i hb q => (X.A b i (by omega) q).trans (nrH_A b i hb), ?_, fun b i hb => (X.B b i (by omega)).trans (nrH_B b i hb), fun b hb => (X.N b (by omega)).trans (by rw [nrH_N, if_neg (by omega)]), rfl⟩
      rw [X.a18, nrH_A _ _ (by omega)]
end NW
