/-! a rule is read: what both may change (the object a, the program from pc and rc on) -/
def RD (h : PH) (u : MS) (h' : PH) (u' : MS) (G : Gh) (G' : Gh) (w : Nat) (a : Nat) (pc : Nat) (rc : Nat) : Prop := (∀ zz : Sz, zz.nr ≤ w → zz.nr ≤ G.nr → zz.pc ≤ pc → CD h h' G G' zz) ∧ (∀ zz : Sz, zz.nr ≤ w → zz.rc ≤ rc → MD u u' zz) ∧ (G'.rl = G.rl ∧ G'.ca = G.ca ∧ G'.hd = G.hd ∧ G'.cd = G.cd ∧ G'.nr = G.nr ∧ G'.nc = G.nc) ∧ (hN h G.pg ≤ 131072 → hN h' G'.pg ≤ 131072) ∧ (∀ f b, b ≠ 23 → b ≠ a → ¬ (f = 142 ∧ b = 5) → hI h' f b = hI h f b) ∧ (∀ f, f < 520 → f ≠ 516 → hI h' f 23 = hI h f 23) ∧ (∀ k, ¬ ((11 ≤ k ∧ k ≤ 16) ∨ k = 24 ∨ (66 ≤ k ∧ k ≤ 70)) → mI u' k = mI u k) ∧ (∀ k i, k ≠ 42 → k ≠ 43 → ¬ (60 ≤ k ∧ k ≤ 62) → k ≠ 71 → mA u' k i = mA u k i) ∧ (∀ k i, 60 ≤ k → k ≤ 62 → i < rc → mA u' k i = mA u k i) ∧ (∀ b i, b < hZ h → b ≠ 29 → G.ow b ≠ 300104 → hA h' b i = hA h b i) ∧ (∀ i, i < pc → hA h' G'.pg i = hA h G.pg i) ∧ (∀ b i, b < hZ h → hB h' b i = hB h b i) ∧ (mB u' = mB u) ∧ (∀ b, b < hZ h → hT h' b = hT h b)
theorem RD.cd {h : PH} {u : MS} {h' : PH} {u' : MS} {G : Gh} {G' : Gh} {w : Nat} {a : Nat} {pc : Nat} {rc : Nat} (X_ : RD h u h' u' G G' w a pc rc) : ∀ zz : Sz, zz.nr ≤ w → zz.nr ≤ G.nr → zz.pc ≤ pc → CD h h' G G' zz := X_.1
theorem RD.md {h : PH} {u : MS} {h' : PH} {u' : MS} {G : Gh} {G' : Gh} {w : Nat} {a : Nat} {pc : Nat} {rc : Nat} (X_ : RD h u h' u' G G' w a pc rc) : ∀ zz : Sz, zz.nr ≤ w → zz.rc ≤ rc → MD u u' zz := X_.2.1
theorem RD.ge {h : PH} {u : MS} {h' : PH} {u' : MS} {G : Gh} {G' : Gh} {w : Nat} {a : Nat} {pc : Nat} {rc : Nat} (X_ : RD h u h' u' G G' w a pc rc) : G'.rl = G.rl ∧ G'.ca = G.ca ∧ G'.hd = G.hd ∧ G'.cd = G.cd ∧ G'.nr = G.nr ∧ G'.nc = G.nc := X_.2.2.1
theorem RD.pm {h : PH} {u : MS} {h' : PH} {u' : MS} {G : Gh} {G' : Gh} {w : Nat} {a : Nat} {pc : Nat} {rc : Nat} (X_ : RD h u h' u' G G' w a pc rc) : hN h G.pg ≤ 131072 → hN h' G'.pg ≤ 131072 := X_.2.2.2.1
theorem RD.I {h : PH} {u : MS} {h' : PH} {u' : MS} {G : Gh} {G' : Gh} {w : Nat} {a : Nat} {pc : Nat} {rc : Nat} (X_ : RD h u h' u' G G' w a pc rc) : ∀ f b, b ≠ 23 → b ≠ a → ¬ (f = 142 ∧ b = 5) → hI h' f b = hI h f b := X_.2.2.2.2.1
theorem RD.g {h : PH} {u : MS} {h' : PH} {u' : MS} {G : Gh} {G' : Gh} {w : Nat} {a : Nat} {pc : Nat} {rc : Nat} (X_ : RD h u h' u' G G' w a pc rc) : ∀ f, f < 520 → f ≠ 516 → hI h' f 23 = hI h f 23 := X_.2.2.2.2.2.1
theorem RD.mi {h : PH} {u : MS} {h' : PH} {u' : MS} {G : Gh} {G' : Gh} {w : Nat} {a : Nat} {pc : Nat} {rc : Nat} (X_ : RD h u h' u' G G' w a pc rc) : ∀ k, ¬ ((11 ≤ k ∧ k ≤ 16) ∨ k = 24 ∨ (66 ≤ k ∧ k ≤ 70)) → mI u' k = mI u k := X_.2.2.2.2.2.2.1
theorem RD.ma {h : PH} {u : MS} {h' : PH} {u' : MS} {G : Gh} {G' : Gh} {w : Nat} {a : Nat} {pc : Nat} {rc : Nat} (X_ : RD h u h' u' G G' w a pc rc) : ∀ k i, k ≠ 42 → k ≠ 43 → ¬ (60 ≤ k ∧ k ≤ 62) → k ≠ 71 → mA u' k i = mA u k i := X_.2.2.2.2.2.2.2.1
theorem RD.mp {h : PH} {u : MS} {h' : PH} {u' : MS} {G : Gh} {G' : Gh} {w : Nat} {a : Nat} {pc : Nat} {rc : Nat} (X_ : RD h u h' u' G G' w a pc rc) : ∀ k i, 60 ≤ k → k ≤ 62 → i < rc → mA u' k i = mA u k i := X_.2.2.2.2.2.2.2.2.1
theorem RD.A {h : PH} {u : MS} {h' : PH} {u' : MS} {G : Gh} {G' : Gh} {w : Nat} {a : Nat} {pc : Nat} {rc : Nat} (X_ : RD h u h' u' G G' w a pc rc) : ∀ b i, b < hZ h → b ≠ 29 → G.ow b ≠ 300104 → hA h' b i = hA h b i := X_.2.2.2.2.2.2.2.2.2.1
theorem RD.pg {h : PH} {u : MS} {h' : PH} {u' : MS} {G : Gh} {G' : Gh} {w : Nat} {a : Nat} {pc : Nat} {rc : Nat} (X_ : RD h u h' u' G G' w a pc rc) : ∀ i, i < pc → hA h' G'.pg i = hA h G.pg i := X_.2.2.2.2.2.2.2.2.2.2.1
theorem RD.B {h : PH} {u : MS} {h' : PH} {u' : MS} {G : Gh} {G' : Gh} {w : Nat} {a : Nat} {pc : Nat} {rc : Nat} (X_ : RD h u h' u' G G' w a pc rc) : ∀ b i, b < hZ h → hB h' b i = hB h b i := X_.2.2.2.2.2.2.2.2.2.2.2.1
theorem RD.mb {h : PH} {u : MS} {h' : PH} {u' : MS} {G : Gh} {G' : Gh} {w : Nat} {a : Nat} {pc : Nat} {rc : Nat} (X_ : RD h u h' u' G G' w a pc rc) : mB u' = mB u := X_.2.2.2.2.2.2.2.2.2.2.2.2.1
theorem RD.T {h : PH} {u : MS} {h' : PH} {u' : MS} {G : Gh} {G' : Gh} {w : Nat} {a : Nat} {pc : Nat} {rc : Nat} (X_ : RD h u h' u' G G' w a pc rc) : ∀ b, b < hZ h → hT h' b = hT h b := X_.2.2.2.2.2.2.2.2.2.2.2.2.2
theorem RD.mk {h : PH} {u : MS} {h' : PH} {u' : MS} {G : Gh} {G' : Gh} {w : Nat} {a : Nat} {pc : Nat} {rc : Nat} (cd_ : ∀ zz : Sz, zz.nr ≤ w → zz.nr ≤ G.nr → zz.pc ≤ pc → CD h h' G G' zz) (md_ : ∀ zz : Sz, zz.nr ≤ w → zz.rc ≤ rc → MD u u' zz) (ge_ : G'.rl = G.rl ∧ G'.ca = G.ca ∧ G'.hd = G.hd ∧ G'.cd = G.cd ∧ G'.nr = G.nr ∧ G'.nc = G.nc) (pm_ : hN h G.pg ≤ 131072 → hN h' G'.pg ≤ 131072) (I_ : ∀ f b, b ≠ 23 → b ≠ a → ¬ (f = 142 ∧ b = 5) → hI h' f b = hI h f b) (g_ : ∀ f, f < 520 → f ≠ 516 → hI h' f 23 = hI h f 23) (mi_ : ∀ k, ¬ ((11 ≤ k ∧ k ≤ 16) ∨ k = 24 ∨ (66 ≤ k ∧ k ≤ 70)) → mI u' k = mI u k) (ma_ : ∀ k i, k ≠ 42 → k ≠ 43 → ¬ (60 ≤ k ∧ k ≤ 62) → k ≠ 71 → mA u' k i = mA u k i) (mp_ : ∀ k i, 60 ≤ k → k ≤ 62 → i < rc → mA u' k i = mA u k i) (A_ : ∀ b i, b < hZ h → b ≠ 29 → G.ow b ≠ 300104 → hA h' b i = hA h b i) (pg_ : ∀ i, i < pc → hA h' G'.pg i = hA h G.pg i) (B_ : ∀ b i, b < hZ h → hB h' b i = hB h b i) (mb_ : mB u' = mB u) (T_ : ∀ b, b < hZ h → hT h' b = hT h b) : RD h u h' u' G G' w a pc rc := ⟨cd_, md_, ge_, pm_, I_, g_, mi_, ma_, mp_, A_, pg_, B_, mb_, T_⟩
def Sz.nil : Sz := Sz.mk 0 0 0 0 0 0 0 0
theorem RD.c0 {h h' : PH} {u u' : MS} {G G' : Gh} {w a pc rc : Nat} (R : RD h u h' u' G G' w a pc rc) : CD h h' G G' Sz.nil := R.cd Sz.nil (Nat.zero_le _) (Nat.zero_le _) (Nat.zero_le _)
theorem RD.sx {h h' : PH} {u u' : MS} {G G' : Gh} {w a pc rc : Nat} (R : RD h u h' u' G G' w a pc rc) : SX h' G' := R.c0.sx
theorem RD.trans {h h1 h2 : PH} {u u1 u2 : MS} {G G1 G2 : Gh} {w a pc rc pc1 rc1 : Nat} (X : RD h u h1 u1 G G1 w a pc rc) (Y : RD h1 u1 h2 u2 G1 G2 w a pc1 rc1) (hp : pc ≤ pc1) (hr : rc ≤ rc1) : RD h u h2 u2 G G2 w a pc rc := by
  have hz := X.c0.hz
  have ow := X.c0.gd.ow
  obtain ⟨a1, a2, a3, a4, a5, a6⟩ := X.ge
  obtain ⟨b1, b2, b3, b4, b5, b6⟩ := Y.ge
  exact ⟨fun zz h1 h2 h3 => CD.trans h2 (X.cd zz h1 h2 h3) (Y.cd zz h1 (by rw [a5]; exact h2) (by omega)), fun zz h1 h2 => (X.md zz h1 h2).trans (Y.md zz h1 (by omega)), ⟨b1.trans a1, b2.trans a2, b3.trans a3, b4.trans a4, b5.trans a5, b6.trans a6⟩, fun q => Y.pm (X.pm q), fun f b h1 h2 h3 => (Y.I f b h1 h2 h3).trans (X.I f b h1 h2 h3), fun f h1 h2 => (Y.g f h1 h2).trans (X.g f h1 h2), fun k q => (Y.mi k q).trans (X.mi k q), fun k i h1 h2 h3 h4 => (Y.ma k i h1 h2 h3 h4).trans (X.ma k i h1 h2 h3 h4), fun k i h1 h2 h3 => (Y.mp k i h1 h2 (by omega)).trans (X.mp k i h1 h2 h3), fun b i h1 h2 h3 => (Y.A b i (by omega) h2 (by rw [ow b h1]; exact h3)).trans (X.A b i h1 h2 h3), fun i hi => (Y.pg i (by omega)).trans (X.pg i hi), fun b i h1 => (Y.B b i (by omega)).trans (X.B b i h1), Y.mb.trans X.mb, fun b h1 => (Y.T b (by omega)).trans (X.T b h1)⟩
theorem RD.ld {h h' : PH} {u u' : MS} {G : Gh} {w a : Nat} (S : SX h G) (T : LD h u h' u' G w a) (pc rc : Nat) : RD h u h' u' G G w a pc rc :=
  ⟨fun zz h1 h2 _ => T.cd zz h1 h2, fun zz h1 _ => T.md zz h1, ⟨rfl, rfl, rfl, rfl, rfl, rfl⟩, fun q => by rw [T.N]; exact q, fun f b h1 h2 _ => T.I f b h1 h2, T.g, fun k q => T.mi k (by omega), fun k i h1 h2 _ _ => T.ma k i h1 h2, fun k i h1 h2 _ => T.ma k i (by omega) (by omega), fun b i _ h2 _ => T.A b i h2, fun i _ => T.A _ i (ne_ow S.opg S.o29 (by omega)), fun b i _ => by rw [T.B], T.mb, fun b _ => by rw [T.T]⟩
theorem RD.q {h h' : PH} {u u' : MS} {G : Gh} {w : Nat} (S : SX h G) (X : Q h h') (M : W' u u') (a pc rc : Nat) : RD h u h' u' G G w a pc rc := RD.ld S (LD.q S X M) pc rc
theorem RD.refl {h : PH} {G : Gh} (S : SX h G) (u : MS) (w a pc rc : Nat) : RD h u h u G G w a pc rc := RD.q S (Q.refl h) (W'.refl u) a pc rc
theorem RD.as {h h' : PH} {G G' : Gh} {pc ci cj : Nat} {x : Int32} (S : SX h G) (X : AS h h' G G' pc x ci cj) (u : MS) (w a : Nat) {pc0 : Nat} (rc : Nat) (hp : pc0 ≤ pc) : RD h u h' u G G' w a pc0 rc :=
  ⟨fun zz _ h2 h3 => X.cd zz h2 (by omega), fun zz _ _ => MD.refl u zz, X.ge, X.pm, fun f b _ _ h3 => X.I f b h3, fun f _ _ => X.I f 23 (by omega), fun _ _ => rfl, fun _ _ _ _ _ _ => rfl, fun _ _ _ _ _ => rfl, fun b i h1 _ h3 => X.A b i h1 (fun q => h3 (by rw [q]; exact S.opg)), fun i hi => X.od i (by omega), X.B, rfl, X.T⟩
/-- a change of the reference alone -/
theorem RD.mm {h : PH} {G : Gh} {u u' : MS} (S : SX h G) {w a pc rc : Nat} (md : ∀ zz : Sz, zz.nr ≤ w → zz.rc ≤ rc → MD u u' zz) (mi : ∀ k, ¬ ((11 ≤ k ∧ k ≤ 16) ∨ k = 24 ∨ (66 ≤ k ∧ k ≤ 70)) → mI u' k = mI u k) (ma : ∀ k i, k ≠ 42 → k ≠ 43 → ¬ (60 ≤ k ∧ k ≤ 62) → k ≠ 71 → mA u' k i = mA u k i) (mp : ∀ k i, 60 ≤ k → k ≤ 62 → i < rc → mA u' k i = mA u k i) (mb : mB u' = mB u) : RD h u h u' G G w a pc rc :=
  ⟨fun zz _ _ _ => CD.refl S zz, md, ⟨rfl, rfl, rfl, rfl, rfl, rfl⟩, fun q => q, fun _ _ _ _ _ => rfl, fun _ _ _ => rfl, mi, ma, mp, fun _ _ _ _ _ => rfl, fun _ _ => rfl, fun _ _ _ => rfl, mb, fun _ _ => rfl⟩
/-- the room that the program's row has taken -/
def RC (h : PH) (h' : PH) (G : Gh) (G' : Gh) (ci : Nat) (cj : Nat) : Prop := (ci + pot h G ≤ pot h' G') ∧ (cj + 3 * pot h G ≤ 3 * pot h' G')
theorem RC.c1 {h : PH} {h' : PH} {G : Gh} {G' : Gh} {ci : Nat} {cj : Nat} (X_ : RC h h' G G' ci cj) : ci + pot h G ≤ pot h' G' := X_.1
theorem RC.c2 {h : PH} {h' : PH} {G : Gh} {G' : Gh} {ci : Nat} {cj : Nat} (X_ : RC h h' G G' ci cj) : cj + 3 * pot h G ≤ 3 * pot h' G' := X_.2
theorem RC.mk {h : PH} {h' : PH} {G : Gh} {G' : Gh} {ci : Nat} {cj : Nat} (c1_ : ci + pot h G ≤ pot h' G') (c2_ : cj + 3 * pot h G ≤ 3 * pot h' G') : RC h h' G G' ci cj := ⟨c1_, c2_⟩
theorem RC.refl (h : PH) (G : Gh) : RC h h G G 0 0 := ⟨by omega, by omega⟩
theorem RC.trans {h h1 h2 : PH} {G G1 G2 : Gh} {ci cj di dj : Nat} (X : RC h h1 G G1 ci cj) (Y : RC h1 h2 G1 G2 di dj) : RC h h2 G G2 (ci + di) (cj + dj) := by
  have := X.c1
  have := X.c2
  have := Y.c1
  have := Y.c2
  exact ⟨by omega, by omega⟩
theorem pot_n {h h' : PH} (G : Gh) (e : hN h' = hN h) : pot h' G = pot h G := by
  unfold pot
  rw [e]
theorem pot_g {h h' : PH} {G G' : Gh} (S : SX h G) (g : GD G G' (hZ h)) (N : ∀ b, b < hZ h → hN h' b = hN h b) : pot h' G' + hN h G.pg = pot h G + hN h' G'.pg := by
  unfold pot
  rw [g.tk, g.wk, g.jj, g.jd, N _ (S.lt S.ttk (by omega)), N _ (S.lt S.twk (by omega))]
  by_cases J : G.jj = true
  · rw [if_pos J, if_pos J, N _ (S.lt (S.jt15 J) (by omega))]
    omega
  · rw [if_neg J, if_neg J]
    omega
theorem RC.n {h h' : PH} {G : Gh} (e : hN h' = hN h) : RC h h' G G 0 0 := ⟨by rw [pot_n G e]; omega, by rw [pot_n G e]; omega⟩
theorem AS.rc {h h' : PH} {G G' : Gh} {pc ci cj : Nat} {x : Int32} (S : SX h G) (X : AS h h' G G' pc x ci cj) : RC h h' G G' ci cj := by
  have p := pot_g S (X.cd Sz.nil (Nat.zero_le _) (Nat.zero_le _)).gd X.N
  have a := X.c1
  have b := X.c2
  exact ⟨by omega, by omega⟩
/-- both in a formula of rule w: S the reference's row of waits, d the brackets open -/
def FX (h : PH) (u : MS) (G : Gh) (z : Sz) (w : Nat) (v : Nat) (L : Nat) (n : Nat) (D : Nat → Nat × Nat × Nat × List Nat) (t : Nat) (p : Nat) (pc : Nat) (rc : Nat) (q : Nat) (d : Nat) (S : List Nat) : Prop := (PI h u G z L n D) ∧ (Liv h u D n t) ∧ (FL h u) ∧ (VS h u w v) ∧ (hI h 897 6 = nI p) ∧ (p ≤ 5) ∧ (∀ i, i < p → NR (hB h 7 i) (mB u 25 i)) ∧ (mI u 18 = nI p) ∧ (z.nr ≤ w) ∧ (w < G.nr) ∧ (z.pc ≤ pc) ∧ (z.rc ≤ rc) ∧ (hI h 142 5 = nI pc) ∧ (pc ≤ hN h G.pg) ∧ (mI u 24 = nI rc) ∧ (pc + q ≤ z.pc + t) ∧ (rc + S.length ≤ z.rc + t) ∧ (mI u 70 = nI S.length) ∧ (∀ i, i < S.length → mA u 71 i = nI (S.getD i 0)) ∧ (mI u 12 = nI d)
theorem FX.i {h : PH} {u : MS} {G : Gh} {z : Sz} {w : Nat} {v : Nat} {L : Nat} {n : Nat} {D : Nat → Nat × Nat × Nat × List Nat} {t : Nat} {p : Nat} {pc : Nat} {rc : Nat} {q : Nat} {d : Nat} {S : List Nat} (X_ : FX h u G z w v L n D t p pc rc q d S) : PI h u G z L n D := X_.1
theorem FX.V {h : PH} {u : MS} {G : Gh} {z : Sz} {w : Nat} {v : Nat} {L : Nat} {n : Nat} {D : Nat → Nat × Nat × Nat × List Nat} {t : Nat} {p : Nat} {pc : Nat} {rc : Nat} {q : Nat} {d : Nat} {S : List Nat} (X_ : FX h u G z w v L n D t p pc rc q d S) : Liv h u D n t := X_.2.1
theorem FX.F {h : PH} {u : MS} {G : Gh} {z : Sz} {w : Nat} {v : Nat} {L : Nat} {n : Nat} {D : Nat → Nat × Nat × Nat × List Nat} {t : Nat} {p : Nat} {pc : Nat} {rc : Nat} {q : Nat} {d : Nat} {S : List Nat} (X_ : FX h u G z w v L n D t p pc rc q d S) : FL h u := X_.2.2.1
theorem FX.K {h : PH} {u : MS} {G : Gh} {z : Sz} {w : Nat} {v : Nat} {L : Nat} {n : Nat} {D : Nat → Nat × Nat × Nat × List Nat} {t : Nat} {p : Nat} {pc : Nat} {rc : Nat} {q : Nat} {d : Nat} {S : List Nat} (X_ : FX h u G z w v L n D t p pc rc q d S) : VS h u w v := X_.2.2.2.1
theorem FX.s6 {h : PH} {u : MS} {G : Gh} {z : Sz} {w : Nat} {v : Nat} {L : Nat} {n : Nat} {D : Nat → Nat × Nat × Nat × List Nat} {t : Nat} {p : Nat} {pc : Nat} {rc : Nat} {q : Nat} {d : Nat} {S : List Nat} (X_ : FX h u G z w v L n D t p pc rc q d S) : hI h 897 6 = nI p := X_.2.2.2.2.1
theorem FX.c5 {h : PH} {u : MS} {G : Gh} {z : Sz} {w : Nat} {v : Nat} {L : Nat} {n : Nat} {D : Nat → Nat × Nat × Nat × List Nat} {t : Nat} {p : Nat} {pc : Nat} {rc : Nat} {q : Nat} {d : Nat} {S : List Nat} (X_ : FX h u G z w v L n D t p pc rc q d S) : p ≤ 5 := X_.2.2.2.2.2.1
theorem FX.pn {h : PH} {u : MS} {G : Gh} {z : Sz} {w : Nat} {v : Nat} {L : Nat} {n : Nat} {D : Nat → Nat × Nat × Nat × List Nat} {t : Nat} {p : Nat} {pc : Nat} {rc : Nat} {q : Nat} {d : Nat} {S : List Nat} (X_ : FX h u G z w v L n D t p pc rc q d S) : ∀ i, i < p → NR (hB h 7 i) (mB u 25 i) := X_.2.2.2.2.2.2.1
theorem FX.m18 {h : PH} {u : MS} {G : Gh} {z : Sz} {w : Nat} {v : Nat} {L : Nat} {n : Nat} {D : Nat → Nat × Nat × Nat × List Nat} {t : Nat} {p : Nat} {pc : Nat} {rc : Nat} {q : Nat} {d : Nat} {S : List Nat} (X_ : FX h u G z w v L n D t p pc rc q d S) : mI u 18 = nI p := X_.2.2.2.2.2.2.2.1
theorem FX.hw {h : PH} {u : MS} {G : Gh} {z : Sz} {w : Nat} {v : Nat} {L : Nat} {n : Nat} {D : Nat → Nat × Nat × Nat × List Nat} {t : Nat} {p : Nat} {pc : Nat} {rc : Nat} {q : Nat} {d : Nat} {S : List Nat} (X_ : FX h u G z w v L n D t p pc rc q d S) : z.nr ≤ w := X_.2.2.2.2.2.2.2.2.1
theorem FX.wG {h : PH} {u : MS} {G : Gh} {z : Sz} {w : Nat} {v : Nat} {L : Nat} {n : Nat} {D : Nat → Nat × Nat × Nat × List Nat} {t : Nat} {p : Nat} {pc : Nat} {rc : Nat} {q : Nat} {d : Nat} {S : List Nat} (X_ : FX h u G z w v L n D t p pc rc q d S) : w < G.nr := X_.2.2.2.2.2.2.2.2.2.1
theorem FX.zp {h : PH} {u : MS} {G : Gh} {z : Sz} {w : Nat} {v : Nat} {L : Nat} {n : Nat} {D : Nat → Nat × Nat × Nat × List Nat} {t : Nat} {p : Nat} {pc : Nat} {rc : Nat} {q : Nat} {d : Nat} {S : List Nat} (X_ : FX h u G z w v L n D t p pc rc q d S) : z.pc ≤ pc := X_.2.2.2.2.2.2.2.2.2.2.1
theorem FX.zr {h : PH} {u : MS} {G : Gh} {z : Sz} {w : Nat} {v : Nat} {L : Nat} {n : Nat} {D : Nat → Nat × Nat × Nat × List Nat} {t : Nat} {p : Nat} {pc : Nat} {rc : Nat} {q : Nat} {d : Nat} {S : List Nat} (X_ : FX h u G z w v L n D t p pc rc q d S) : z.rc ≤ rc := X_.2.2.2.2.2.2.2.2.2.2.2.1
theorem FX.sz {h : PH} {u : MS} {G : Gh} {z : Sz} {w : Nat} {v : Nat} {L : Nat} {n : Nat} {D : Nat → Nat × Nat × Nat × List Nat} {t : Nat} {p : Nat} {pc : Nat} {rc : Nat} {q : Nat} {d : Nat} {S : List Nat} (X_ : FX h u G z w v L n D t p pc rc q d S) : hI h 142 5 = nI pc := X_.2.2.2.2.2.2.2.2.2.2.2.2.1
theorem FX.hp {h : PH} {u : MS} {G : Gh} {z : Sz} {w : Nat} {v : Nat} {L : Nat} {n : Nat} {D : Nat → Nat × Nat × Nat × List Nat} {t : Nat} {p : Nat} {pc : Nat} {rc : Nat} {q : Nat} {d : Nat} {S : List Nat} (X_ : FX h u G z w v L n D t p pc rc q d S) : pc ≤ hN h G.pg := X_.2.2.2.2.2.2.2.2.2.2.2.2.2.1
theorem FX.m24 {h : PH} {u : MS} {G : Gh} {z : Sz} {w : Nat} {v : Nat} {L : Nat} {n : Nat} {D : Nat → Nat × Nat × Nat × List Nat} {t : Nat} {p : Nat} {pc : Nat} {rc : Nat} {q : Nat} {d : Nat} {S : List Nat} (X_ : FX h u G z w v L n D t p pc rc q d S) : mI u 24 = nI rc := X_.2.2.2.2.2.2.2.2.2.2.2.2.2.2.1
theorem FX.b1 {h : PH} {u : MS} {G : Gh} {z : Sz} {w : Nat} {v : Nat} {L : Nat} {n : Nat} {D : Nat → Nat × Nat × Nat × List Nat} {t : Nat} {p : Nat} {pc : Nat} {rc : Nat} {q : Nat} {d : Nat} {S : List Nat} (X_ : FX h u G z w v L n D t p pc rc q d S) : pc + q ≤ z.pc + t := X_.2.2.2.2.2.2.2.2.2.2.2.2.2.2.2.1
theorem FX.b2 {h : PH} {u : MS} {G : Gh} {z : Sz} {w : Nat} {v : Nat} {L : Nat} {n : Nat} {D : Nat → Nat × Nat × Nat × List Nat} {t : Nat} {p : Nat} {pc : Nat} {rc : Nat} {q : Nat} {d : Nat} {S : List Nat} (X_ : FX h u G z w v L n D t p pc rc q d S) : rc + S.length ≤ z.rc + t := X_.2.2.2.2.2.2.2.2.2.2.2.2.2.2.2.2.1
theorem FX.s1 {h : PH} {u : MS} {G : Gh} {z : Sz} {w : Nat} {v : Nat} {L : Nat} {n : Nat} {D : Nat → Nat × Nat × Nat × List Nat} {t : Nat} {p : Nat} {pc : Nat} {rc : Nat} {q : Nat} {d : Nat} {S : List Nat} (X_ : FX h u G z w v L n D t p pc rc q d S) : mI u 70 = nI S.length := X_.2.2.2.2.2.2.2.2.2.2.2.2.2.2.2.2.2.1
theorem FX.s2 {h : PH} {u : MS} {G : Gh} {z : Sz} {w : Nat} {v : Nat} {L : Nat} {n : Nat} {D : Nat → Nat × Nat × Nat × List Nat} {t : Nat} {p : Nat} {pc : Nat} {rc : Nat} {q : Nat} {d : Nat} {S : List Nat} (X_ : FX h u G z w v L n D t p pc rc q d S) : ∀ i, i < S.length → mA u 71 i = nI (S.getD i 0) := X_.2.2.2.2.2.2.2.2.2.2.2.2.2.2.2.2.2.2.1
theorem FX.d1 {h : PH} {u : MS} {G : Gh} {z : Sz} {w : Nat} {v : Nat} {L : Nat} {n : Nat} {D : Nat → Nat × Nat × Nat × List Nat} {t : Nat} {p : Nat} {pc : Nat} {rc : Nat} {q : Nat} {d : Nat} {S : List Nat} (X_ : FX h u G z w v L n D t p pc rc q d S) : mI u 12 = nI d := X_.2.2.2.2.2.2.2.2.2.2.2.2.2.2.2.2.2.2.2
theorem FX.mk {h : PH} {u : MS} {G : Gh} {z : Sz} {w : Nat} {v : Nat} {L : Nat} {n : Nat} {D : Nat → Nat × Nat × Nat × List Nat} {t : Nat} {p : Nat} {pc : Nat} {rc : Nat} {q : Nat} {d : Nat} {S : List Nat} (i_ : PI h u G z L n D) (V_ : Liv h u D n t) (F_ : FL h u) (K_ : VS h u w v) (s6_ : hI h 897 6 = nI p) (c5_ : p ≤ 5) (pn_ : ∀ i, i < p → NR (hB h 7 i) (mB u 25 i)) (m18_ : mI u 18 = nI p) (hw_ : z.nr ≤ w) (wG_ : w < G.nr) (zp_ : z.pc ≤ pc) (zr_ : z.rc ≤ rc) (sz_ : hI h 142 5 = nI pc) (hp_ : pc ≤ hN h G.pg) (m24_ : mI u 24 = nI rc) (b1_ : pc + q ≤ z.pc + t) (b2_ : rc + S.length ≤ z.rc + t) (s1_ : mI u 70 = nI S.length) (s2_ : ∀ i, i < S.length → mA u 71 i = nI (S.getD i 0)) (d1_ : mI u 12 = nI d) : FX h u G z w v L n D t p pc rc q d S := ⟨i_, V_, F_, K_, s6_, c5_, pn_, m18_, hw_, wG_, zp_, zr_, sz_, hp_, m24_, b1_, b2_, s1_, s2_, d1_⟩
theorem PI.rd {h h' : PH} {u u' : MS} {G G' : Gh} {z : Sz} {L n w a pc rc : Nat} {D : Nat → Nat × Nat × Nat × List Nat} (I : PI h u G z L n D) (R : RD h u h' u' G G' w a pc rc) (hw : z.nr ≤ w) (zp : z.pc ≤ pc) (zr : z.rc ≤ rc) : PI h' u' G' z L n D := I.d (R.cd z hw I.kr.nrG zp) (R.md z hw zr) (R.pm I.rm.p3)
section FX
variable {h h' : PH} {u u' : MS} {G G' : Gh} {z : Sz} {w v v' L n t t' p pc rc q d pc' rc' q' d' : Nat} {D : Nat → Nat × Nat × Nat × List Nat} {S S' : List Nat}
theorem FX.rp (X : FX h u G z w v L n D t p pc rc q d S) : RO h u 6 7 25 p 5 := ⟨X.i.sx.t6, X.i.sx.r896_6, X.i.sx.t7, X.i.sx.n7, X.s6, X.c5, by decide, by decide, by omega, X.pn, by omega⟩
theorem FX.bp (X : FX h u G z w v L n D t p pc rc q d S) : z.pc ≤ 37700 ∧ z.rc ≤ 35670 ∧ pc ≤ 38902 ∧ rc < 36880 ∧ t ≤ 1200 := by
  have a1 := X.i.rm.p4
  have a2 := X.i.rm.p5
  have a3 := X.hw
  have a4 := X.K.w3
  have a5 := X.b1
  have a6 := X.b2
  have a7 := X.V.lt
  have a8 := X.i.ts.n2
  omega
theorem FX.rd (X : FX h u G z w v L n D t p pc rc q d S) (R : RD h u h' u' G G' w 23 pc rc) (V' : Liv h' u' D n t') (F' : FL h' u') (K' : VS h' u' w v') (zp' : pc ≤ pc') (zr' : rc ≤ rc') (sz' : hI h' 142 5 = nI pc') (hp' : pc' ≤ hN h' G'.pg) (m24' : mI u' 24 = nI rc') (b1' : pc' + q' ≤ z.pc + t') (b2' : rc' + S'.length ≤ z.rc + t') (s1' : mI u' 70 = nI S'.length) (s2' : ∀ i, i < S'.length → mA u' 71 i = nI (S'.getD i 0)) (d1' : mI u' 12 = nI d') : FX h' u' G' z w v' L n D t' p pc' rc' q' d' S' := by
  have zz := X.i.sx.zz
  have e5 := R.ge.2.2.2.2.1
  exact ⟨X.i.rd R X.hw X.zp X.zr, V', F', K', (R.I 897 6 (by omega) (by omega) (by omega)).trans X.s6, X.c5, fun i hi => by rw [R.B 7 i (by omega), R.mb]; exact X.pn i hi, (R.mi 18 (by omega)).trans X.m18, X.hw, by rw [e5]; exact X.wG, Nat.le_trans X.zp zp', Nat.le_trans X.zr zr', sz', hp', m24', b1', b2', s1', s2', d1'⟩
/-- a move over tokens -/
theorem FX.mv (X : FX h u G z w v L n D t p pc rc q d S) (Q1 : Q h h') (W1 : W' u u') (V' : Liv h' u' D n t') (F' : FL h' u') (ht : t ≤ t') (hq : q' + t ≤ q + t') : FX h' u' G z w v L n D t' p pc rc q' d S :=
  X.rd (RD.q X.i.sx Q1 W1 23 pc rc) V' F' (X.K.q Q1 W1) (Nat.le_refl _) (Nat.le_refl _) ((Q1.I _ _ (by omega)).trans X.sz) (by rw [Q1.N]; exact X.hp) ((W1.I 24 (by omega)).trans X.m24) (by have := X.b1; omega) (by have := X.b2; omega) ((W1.I 70 (by omega)).trans X.s1) (fun i hi => by rw [W1.A]; exact X.s2 i hi) ((W1.I 12 (by omega)).trans X.d1)
/-- what a term changes -/
theorem FX.td (X : FX h u G z w v L n D t p pc rc q d S) (T : TD h u h' u' G w) (V' : Liv h' u' D n t') (F' : FL h' u') (K' : VS h' u' w v') (ht : t ≤ t') (hq : q' + t ≤ q + t') : FX h' u' G z w v' L n D t' p pc rc q' d S :=
  X.rd (RD.ld X.i.sx (LD.of T) pc rc) V' F' K' (Nat.le_refl _) (Nat.le_refl _) ((T.I _ _ (by omega)).trans X.sz) (by rw [T.N]; exact X.hp) ((T.mi 24 (by omega)).trans X.m24) (by have := X.b1; omega) (by have := X.b2; omega) ((T.mi 70 (by omega)).trans X.s1) (fun i hi => by rw [T.ma 71 i (by omega) (by omega)]; exact X.s2 i hi) ((T.mi 12 (by omega)).trans X.d1)
/-- a step of the class -/
theorem FX.addC (X : FX h u G z w v L n D t p pc rc (q + 1) d S) (op x : Int32) : ∃ h' G' i j, fX1_addStep h 5 op x = some (h', i, j) ∧ RC h h' G G' i j ∧ RD h u h' u G G' w 23 pc rc ∧ hA h' G'.pg pc = ((op <<< (20 &&& 31)) ||| x) ∧ FX h' u G' z w v L n D t p (pc + 1) rc q d S := by
  have b := X.bp
  have hz := X.i.sx.zz
  obtain ⟨h', G', i, j, e, A⟩ := addStep_v X.i.sx X.sz X.hp X.i.rm.p2 X.i.rm.p3 (by omega) op x
  have R : RD h u h' u G G' w 23 pc rc := RD.as X.i.sx A u w 23 rc (Nat.le_refl _)
  have e23 : ∀ f, hI h' f 23 = hI h f 23 := fun f => A.I f 23 (by omega)
  refine ⟨h', G', i, j, e, A.rc X.i.sx, R, A.va, X.rd R (X.V.fr (fun f _ => e23 f) A.L rfl rfl) (X.F.fr (e23 _) (e23 _) rfl rfl) ⟨X.K.v3, X.K.w3, (e23 _).trans X.K.vc, X.K.m65, X.K.m42, fun i hi => ?_⟩ (by omega) (Nat.le_refl _) A.sz A.hp X.m24 (by have := X.b1; omega) X.b2 X.s1 X.s2 X.d1⟩
  rw [A.A 29 i (by omega) (ne_ow X.i.sx.o29 X.i.sx.opg (by omega))]
  exact X.K.vl i hi
/-- a step of the reference -/
theorem RD.em (S : SX h G) (w a pc : Nat) (op x y : Int32) : RD h u h (mSI (mSA (mSA (mSA u 60 rc op) 61 rc x) 62 rc y) 24 (nI (rc + 1))) G G w a pc rc := by
  refine RD.mm S (fun zz h1 h2 => ((((MD.refl u zz).sA (by omega) (by unfold kM; omega)).sA (by omega) (by unfold kM; omega)).sA (by omega) (by unfold kM; omega)).sI (by omega)) (fun k hk => ?_) (fun k i h1 h2 h3 h4 => ?_) (fun k i h1 h2 h3 => ?_) rfl
  · simp only [z_mI_mSI, z_mL_mSI, z_mA_mSI, z_mB_mSI, z_mI_mSL, z_mL_mSL, z_mA_mSL, z_mB_mSL, z_mI_mSA, z_mL_mSA, z_mA_mSA, z_mB_mSA, z_mI_mSB, z_mL_mSB, z_mA_mSB, z_mB_mSB]; rw [if_neg (fun e => by omega)]
  · simp only [z_mI_mSI, z_mL_mSI, z_mA_mSI, z_mB_mSI, z_mI_mSL, z_mL_mSL, z_mA_mSL, z_mB_mSL, z_mI_mSA, z_mL_mSA, z_mA_mSA, z_mB_mSA, z_mI_mSB, z_mL_mSB, z_mA_mSB, z_mB_mSB]; rw [if_neg (fun e => by omega), if_neg (fun e => by omega), if_neg (fun e => by omega)]
  · simp only [z_mI_mSI, z_mL_mSI, z_mA_mSI, z_mB_mSI, z_mI_mSL, z_mL_mSL, z_mA_mSL, z_mB_mSL, z_mI_mSA, z_mL_mSA, z_mA_mSA, z_mB_mSA, z_mI_mSB, z_mL_mSB, z_mA_mSB, z_mB_mSB]; rw [if_neg (fun e => by omega), if_neg (fun e => by omega), if_neg (fun e => by omega)]
theorem FX.emR (X : FX h u G z w v L n D t p pc rc q d S) (hl : rc + 1 + S.length ≤ z.rc + t) (op x y : Int32) : fX12_emit u op x y = some (mSI (mSA (mSA (mSA u 60 rc op) 61 rc x) 62 rc y) 24 (nI (rc + 1))) ∧ FX h (mSI (mSA (mSA (mSA u 60 rc op) 61 rc x) 62 rc y) 24 (nI (rc + 1))) G z w v L n D t p pc (rc + 1) q d S := by
  have b := X.bp
  have e : ∀ k, k ≠ 24 → mI (mSI (mSA (mSA (mSA u 60 rc op) 61 rc x) 62 rc y) 24 (nI (rc + 1))) k = mI u k := fun k hk => by simp only [z_mI_mSI, z_mL_mSI, z_mA_mSI, z_mB_mSI, z_mI_mSL, z_mL_mSL, z_mA_mSL, z_mB_mSL, z_mI_mSA, z_mL_mSA, z_mA_mSA, z_mB_mSA, z_mI_mSB, z_mL_mSB, z_mA_mSB, z_mB_mSB]; rw [if_neg hk]
  have a : ∀ k i, ¬ (60 ≤ k ∧ k ≤ 62) → mA (mSI (mSA (mSA (mSA u 60 rc op) 61 rc x) 62 rc y) 24 (nI (rc + 1))) k i = mA u k i := fun k i hk => by simp only [z_mI_mSI, z_mL_mSI, z_mA_mSI, z_mB_mSI, z_mI_mSL, z_mL_mSL, z_mA_mSL, z_mB_mSL, z_mI_mSA, z_mL_mSA, z_mA_mSA, z_mB_mSA, z_mI_mSB, z_mL_mSB, z_mA_mSB, z_mB_mSB]; rw [if_neg (fun e => by omega), if_neg (fun e => by omega), if_neg (fun e => by omega)]
  refine ⟨emit_v X.m24 (by omega) op x y, X.rd (RD.em X.i.sx w 23 pc op x y) (X.V.fr (fun _ _ => rfl) rfl (e 11 (by omega)) (e 13 (by omega))) (X.F.fr rfl rfl (e 15 (by omega)) (e 16 (by omega))) ⟨X.K.v3, X.K.w3, X.K.vc, (e 65 (by omega)).trans X.K.m65, (a 42 _ (by omega)).trans X.K.m42, fun i hi => by rw [a 43 _ (by omega)]; exact X.K.vl i hi⟩ (Nat.le_refl _) (by omega) X.sz X.hp (by simp only [z_mI_mSI, z_mL_mSI, z_mA_mSI, z_mB_mSI, z_mI_mSL, z_mL_mSL, z_mA_mSL, z_mB_mSL, z_mI_mSA, z_mL_mSA, z_mA_mSA, z_mB_mSA, z_mI_mSB, z_mL_mSB, z_mA_mSB, z_mB_mSB, if_true, if_false, and_false, false_and, and_true, true_and, and_self, decide_true, decide_false, reduceCtorEq, not_false_eq_true, not_true_eq_false, Nat.reduceEqDiff, Nat.reduceAdd, Nat.reduceMul, Nat.add_zero, Nat.zero_add]) X.b1 hl ((e 70 (by omega)).trans X.s1) (fun i hi => by rw [a 71 i (by omega)]; exact X.s2 i hi) ((e 12 (by omega)).trans X.d1)⟩
end FX
