/-! what a reading may change: nothing of what was kept -/
def kM (z : Sz) (k i : Nat) : Prop := (k = 25 ∧ i < z.np) ∨ (k = 26 ∧ i < 20) ∨ ((k = 27 ∨ k = 28) ∧ i < z.nw) ∨ (k = 29 ∧ i < z.ns) ∨ ((30 ≤ k ∧ k ≤ 35) ∧ i < z.nl) ∨ ((k = 36 ∨ k = 37) ∧ i < z.no) ∨ ((38 ≤ k ∧ k ≤ 50 ∧ k ≠ 43) ∧ i < z.nr) ∨ ((51 ≤ k ∧ k ≤ 59) ∧ i < 6 * z.nr) ∨ ((60 ≤ k ∧ k ≤ 62) ∧ i < z.rc)
def MD (u : MS) (u' : MS) (z : Sz) : Prop := (MAg (fun k => k ≤ 10 ∨ k = 17 ∨ 72 ≤ k) u u') ∧ (∀ k i, kM z k i → mA u' k i = mA u k i ∧ mB u' k i = mB u k i)
theorem MD.ag {u : MS} {u' : MS} {z : Sz} (X_ : MD u u' z) : MAg (fun k => k ≤ 10 ∨ k = 17 ∨ 72 ≤ k) u u' := X_.1
theorem MD.kp {u : MS} {u' : MS} {z : Sz} (X_ : MD u u' z) : ∀ k i, kM z k i → mA u' k i = mA u k i ∧ mB u' k i = mB u k i := X_.2
theorem MD.mk {u : MS} {u' : MS} {z : Sz} (ag_ : MAg (fun k => k ≤ 10 ∨ k = 17 ∨ 72 ≤ k) u u') (kp_ : ∀ k i, kM z k i → mA u' k i = mA u k i ∧ mB u' k i = mB u k i) : MD u u' z := ⟨ag_, kp_⟩
theorem MD.refl (u : MS) (z : Sz) : MD u u z := ⟨MAg.refl u, fun _ _ _ => ⟨rfl, rfl⟩⟩
theorem MD.trans {u u1 u2 : MS} {z : Sz} (X : MD u u1 z) (Y : MD u1 u2 z) : MD u u2 z := ⟨X.ag.trans Y.ag, fun k i q => ⟨(Y.kp k i q).1.trans (X.kp k i q).1, (Y.kp k i q).2.trans (X.kp k i q).2⟩⟩
theorem MD.sI {u u' : MS} {z : Sz} (X : MD u u' z) {k : Nat} {v : Int32} (hk : ¬ (k ≤ 10 ∨ k = 17 ∨ 72 ≤ k)) : MD u (mSI u' k v) z := ⟨X.ag.sI hk, X.kp⟩
theorem MD.sA {u u' : MS} {z : Sz} (X : MD u u' z) {k i : Nat} {v : Int32} (hk : ¬ (k ≤ 10 ∨ k = 17 ∨ 72 ≤ k)) (hi : ¬ kM z k i) : MD u (mSA u' k i v) z := by
  refine ⟨X.ag.sA hk, fun k' i' q => ?_⟩
  have := X.kp k' i' q
  simp only [z_mI_mSI, z_mL_mSI, z_mA_mSI, z_mB_mSI, z_mI_mSL, z_mL_mSL, z_mA_mSL, z_mB_mSL, z_mI_mSA, z_mL_mSA, z_mA_mSA, z_mB_mSA, z_mI_mSB, z_mL_mSB, z_mA_mSB, z_mB_mSB]
  rw [if_neg (fun e => hi (by rw [← e.1, ← e.2]; exact q))]
  exact this
theorem MD.sB {u u' : MS} {z : Sz} (X : MD u u' z) {k i : Nat} {v : Int64} (hk : ¬ (k ≤ 10 ∨ k = 17 ∨ 72 ≤ k)) (hi : ¬ kM z k i) : MD u (mSB u' k i v) z := by
  refine ⟨X.ag.sB hk, fun k' i' q => ?_⟩
  have := X.kp k' i' q
  simp only [z_mI_mSI, z_mL_mSI, z_mA_mSI, z_mB_mSI, z_mI_mSL, z_mL_mSL, z_mA_mSL, z_mB_mSL, z_mI_mSA, z_mL_mSA, z_mA_mSA, z_mB_mSA, z_mI_mSB, z_mL_mSB, z_mA_mSB, z_mB_mSB]
  rw [if_neg (fun e => hi (by rw [← e.1, ← e.2]; exact q))]
  exact this
/-- the ghost of the class: only rules and the program may come to it -/
def GD (G : Gh) (G' : Gh) (Z : Nat) : Prop := (G'.tk = G.tk) ∧ (G'.wk = G.wk) ∧ (G'.kd = G.kd) ∧ (G'.st = G.st) ∧ (G'.vl = G.vl) ∧ (G'.te = G.te) ∧ (G'.nt = G.nt) ∧ (G'.jj = G.jj) ∧ (G'.jd = G.jd) ∧ (G.nr ≤ G'.nr) ∧ (∀ r, r < G.nr → G'.rl r = G.rl r ∧ G'.hd r = G.hd r ∧ G'.ca r = G.ca r ∧ G.nc r ≤ G'.nc r ∧ ∀ i, i < G.nc r → G'.cd r i = G.cd r i) ∧ (∀ a, a < Z → G'.ow a = G.ow a)
theorem GD.tk {G : Gh} {G' : Gh} {Z : Nat} (X_ : GD G G' Z) : G'.tk = G.tk := X_.1
theorem GD.wk {G : Gh} {G' : Gh} {Z : Nat} (X_ : GD G G' Z) : G'.wk = G.wk := X_.2.1
theorem GD.kd {G : Gh} {G' : Gh} {Z : Nat} (X_ : GD G G' Z) : G'.kd = G.kd := X_.2.2.1
theorem GD.st {G : Gh} {G' : Gh} {Z : Nat} (X_ : GD G G' Z) : G'.st = G.st := X_.2.2.2.1
theorem GD.vl {G : Gh} {G' : Gh} {Z : Nat} (X_ : GD G G' Z) : G'.vl = G.vl := X_.2.2.2.2.1
theorem GD.te {G : Gh} {G' : Gh} {Z : Nat} (X_ : GD G G' Z) : G'.te = G.te := X_.2.2.2.2.2.1
theorem GD.nt {G : Gh} {G' : Gh} {Z : Nat} (X_ : GD G G' Z) : G'.nt = G.nt := X_.2.2.2.2.2.2.1
theorem GD.jj {G : Gh} {G' : Gh} {Z : Nat} (X_ : GD G G' Z) : G'.jj = G.jj := X_.2.2.2.2.2.2.2.1
theorem GD.jd {G : Gh} {G' : Gh} {Z : Nat} (X_ : GD G G' Z) : G'.jd = G.jd := X_.2.2.2.2.2.2.2.2.1
theorem GD.nr {G : Gh} {G' : Gh} {Z : Nat} (X_ : GD G G' Z) : G.nr ≤ G'.nr := X_.2.2.2.2.2.2.2.2.2.1
theorem GD.ru {G : Gh} {G' : Gh} {Z : Nat} (X_ : GD G G' Z) : ∀ r, r < G.nr → G'.rl r = G.rl r ∧ G'.hd r = G.hd r ∧ G'.ca r = G.ca r ∧ G.nc r ≤ G'.nc r ∧ ∀ i, i < G.nc r → G'.cd r i = G.cd r i := X_.2.2.2.2.2.2.2.2.2.2.1
theorem GD.ow {G : Gh} {G' : Gh} {Z : Nat} (X_ : GD G G' Z) : ∀ a, a < Z → G'.ow a = G.ow a := X_.2.2.2.2.2.2.2.2.2.2.2
theorem GD.mk {G : Gh} {G' : Gh} {Z : Nat} (tk_ : G'.tk = G.tk) (wk_ : G'.wk = G.wk) (kd_ : G'.kd = G.kd) (st_ : G'.st = G.st) (vl_ : G'.vl = G.vl) (te_ : G'.te = G.te) (nt_ : G'.nt = G.nt) (jj_ : G'.jj = G.jj) (jd_ : G'.jd = G.jd) (nr_ : G.nr ≤ G'.nr) (ru_ : ∀ r, r < G.nr → G'.rl r = G.rl r ∧ G'.hd r = G.hd r ∧ G'.ca r = G.ca r ∧ G.nc r ≤ G'.nc r ∧ ∀ i, i < G.nc r → G'.cd r i = G.cd r i) (ow_ : ∀ a, a < Z → G'.ow a = G.ow a) : GD G G' Z := ⟨tk_, wk_, kd_, st_, vl_, te_, nt_, jj_, jd_, nr_, ru_, ow_⟩
def kC (z : Sz) (a i : Nat) : Prop := (a = 7 ∧ i < z.np) ∨ (a = 9 ∧ i < z.nw) ∨ (a = 11 ∧ i < z.ns) ∨ (a = 13 ∧ i < z.nl) ∨ (a = 15 ∧ i < z.nr) ∨ (a = 16 ∧ i < z.nw) ∨ (a = 18 ∧ i < 5 * z.nl) ∨ ((a = 20 ∨ a = 21) ∧ i < z.no)
/-- an object of a kept rule -/
def kO (G : Gh) (z : Sz) (a : Nat) : Prop := ∃ r, r < z.nr ∧ (a = G.rl r ∨ a = G.hd r ∨ ∃ i, i < G.nc r ∧ a = G.cd r i)
def CD (h : PH) (h' : PH) (G : Gh) (G' : Gh) (z : Sz) : Prop := (SX h' G') ∧ (GD G G' (hZ h)) ∧ (hZ h ≤ hZ h') ∧ (∀ a, a < hZ h → hN h' a = hN h a) ∧ (Ag (fun a => a < hZ h ∧ G.ow a / 100000 ≠ 3 ∧ G.ow a / 100000 ≠ 7 ∧ G.ow a / 100000 ≠ 8) h h') ∧ (∀ i, hA h' G.kd i = hA h G.kd i ∧ hA h' G.st i = hA h G.st i ∧ hB h' G.vl i = hB h G.vl i) ∧ (hI h' 1284 24 = hI h 1284 24) ∧ (∀ a i, kC z a i → hA h' a i = hA h a i ∧ hB h' a i = hB h a i) ∧ (∀ a, kO G z a → ∀ f, hI h' f a = hI h f a) ∧ (∀ i, i < z.pc → hA h' G'.pg i = hA h G.pg i) ∧ (hN h G.pg ≤ hN h' G'.pg) ∧ (hI h' 518 23 = hI h 518 23 ∧ hI h' 898 6 = hI h 898 6 ∧ hI h' 898 8 = hI h 898 8 ∧ hI h' 898 10 = hI h 898 10 ∧ hI h' 898 12 = hI h 898 12 ∧ hI h' 898 14 = hI h 898 14 ∧ hI h' 140 5 = hI h 140 5 ∧ hI h' 143 5 = hI h 143 5)
theorem CD.sx {h : PH} {h' : PH} {G : Gh} {G' : Gh} {z : Sz} (X_ : CD h h' G G' z) : SX h' G' := X_.1
theorem CD.gd {h : PH} {h' : PH} {G : Gh} {G' : Gh} {z : Sz} (X_ : CD h h' G G' z) : GD G G' (hZ h) := X_.2.1
theorem CD.hz {h : PH} {h' : PH} {G : Gh} {G' : Gh} {z : Sz} (X_ : CD h h' G G' z) : hZ h ≤ hZ h' := X_.2.2.1
theorem CD.N {h : PH} {h' : PH} {G : Gh} {G' : Gh} {z : Sz} (X_ : CD h h' G G' z) : ∀ a, a < hZ h → hN h' a = hN h a := X_.2.2.2.1
theorem CD.ag {h : PH} {h' : PH} {G : Gh} {G' : Gh} {z : Sz} (X_ : CD h h' G G' z) : Ag (fun a => a < hZ h ∧ G.ow a / 100000 ≠ 3 ∧ G.ow a / 100000 ≠ 7 ∧ G.ow a / 100000 ≠ 8) h h' := X_.2.2.2.2.1
theorem CD.tA {h : PH} {h' : PH} {G : Gh} {G' : Gh} {z : Sz} (X_ : CD h h' G G' z) : ∀ i, hA h' G.kd i = hA h G.kd i ∧ hA h' G.st i = hA h G.st i ∧ hB h' G.vl i = hB h G.vl i := X_.2.2.2.2.2.1
theorem CD.t24 {h : PH} {h' : PH} {G : Gh} {G' : Gh} {z : Sz} (X_ : CD h h' G G' z) : hI h' 1284 24 = hI h 1284 24 := X_.2.2.2.2.2.2.1
theorem CD.kp {h : PH} {h' : PH} {G : Gh} {G' : Gh} {z : Sz} (X_ : CD h h' G G' z) : ∀ a i, kC z a i → hA h' a i = hA h a i ∧ hB h' a i = hB h a i := X_.2.2.2.2.2.2.2.1
theorem CD.ko {h : PH} {h' : PH} {G : Gh} {G' : Gh} {z : Sz} (X_ : CD h h' G G' z) : ∀ a, kO G z a → ∀ f, hI h' f a = hI h f a := X_.2.2.2.2.2.2.2.2.1
theorem CD.pg {h : PH} {h' : PH} {G : Gh} {G' : Gh} {z : Sz} (X_ : CD h h' G G' z) : ∀ i, i < z.pc → hA h' G'.pg i = hA h G.pg i := X_.2.2.2.2.2.2.2.2.2.1
theorem CD.pn {h : PH} {h' : PH} {G : Gh} {G' : Gh} {z : Sz} (X_ : CD h h' G G' z) : hN h G.pg ≤ hN h' G'.pg := X_.2.2.2.2.2.2.2.2.2.2.1
theorem CD.s6 {h : PH} {h' : PH} {G : Gh} {G' : Gh} {z : Sz} (X_ : CD h h' G G' z) : hI h' 518 23 = hI h 518 23 ∧ hI h' 898 6 = hI h 898 6 ∧ hI h' 898 8 = hI h 898 8 ∧ hI h' 898 10 = hI h 898 10 ∧ hI h' 898 12 = hI h 898 12 ∧ hI h' 898 14 = hI h 898 14 ∧ hI h' 140 5 = hI h 140 5 ∧ hI h' 143 5 = hI h 143 5 := X_.2.2.2.2.2.2.2.2.2.2.2
theorem CD.mk {h : PH} {h' : PH} {G : Gh} {G' : Gh} {z : Sz} (sx_ : SX h' G') (gd_ : GD G G' (hZ h)) (hz_ : hZ h ≤ hZ h') (N_ : ∀ a, a < hZ h → hN h' a = hN h a) (ag_ : Ag (fun a => a < hZ h ∧ G.ow a / 100000 ≠ 3 ∧ G.ow a / 100000 ≠ 7 ∧ G.ow a / 100000 ≠ 8) h h') (tA_ : ∀ i, hA h' G.kd i = hA h G.kd i ∧ hA h' G.st i = hA h G.st i ∧ hB h' G.vl i = hB h G.vl i) (t24_ : hI h' 1284 24 = hI h 1284 24) (kp_ : ∀ a i, kC z a i → hA h' a i = hA h a i ∧ hB h' a i = hB h a i) (ko_ : ∀ a, kO G z a → ∀ f, hI h' f a = hI h f a) (pg_ : ∀ i, i < z.pc → hA h' G'.pg i = hA h G.pg i) (pn_ : hN h G.pg ≤ hN h' G'.pg) (s6_ : hI h' 518 23 = hI h 518 23 ∧ hI h' 898 6 = hI h 898 6 ∧ hI h' 898 8 = hI h 898 8 ∧ hI h' 898 10 = hI h 898 10 ∧ hI h' 898 12 = hI h 898 12 ∧ hI h' 898 14 = hI h 898 14 ∧ hI h' 140 5 = hI h 140 5 ∧ hI h' 143 5 = hI h 143 5) : CD h h' G G' z := ⟨sx_, gd_, hz_, N_, ag_, tA_, t24_, kp_, ko_, pg_, pn_, s6_⟩
theorem GD.refl (G : Gh) (Z : Nat) : GD G G Z := ⟨rfl, rfl, rfl, rfl, rfl, rfl, rfl, rfl, rfl, Nat.le_refl _, fun _ _ => ⟨rfl, rfl, rfl, Nat.le_refl _, fun _ _ => rfl⟩, fun _ _ => rfl⟩
theorem GD.trans {G G1 G2 : Gh} {Z Z1 : Nat} (X : GD G G1 Z) (Y : GD G1 G2 Z1) (hz : Z ≤ Z1) : GD G G2 Z :=
  ⟨Y.tk.trans X.tk, Y.wk.trans X.wk, Y.kd.trans X.kd, Y.st.trans X.st, Y.vl.trans X.vl, Y.te.trans X.te, Y.nt.trans X.nt, Y.jj.trans X.jj, Y.jd.trans X.jd, Nat.le_trans X.nr Y.nr, fun r hr => by
    obtain ⟨a1, a2, a3, a4, a5⟩ := X.ru r hr
    obtain ⟨b1, b2, b3, b4, b5⟩ := Y.ru r (Nat.lt_of_lt_of_le hr X.nr)
    exact ⟨b1.trans a1, b2.trans a2, b3.trans a3, Nat.le_trans a4 b4, fun i hi => (b5 i (Nat.lt_of_lt_of_le hi a4)).trans (a5 i hi)⟩, fun a ha => (Y.ow a (by omega)).trans (X.ow a ha)⟩
theorem CD.refl {h : PH} {G : Gh} (S : SX h G) (z : Sz) : CD h h G G z := ⟨S, GD.refl G _, Nat.le_refl _, fun _ _ => rfl, Ag.refl h, fun _ => ⟨rfl, rfl, rfl⟩, rfl, fun _ _ _ => ⟨rfl, rfl⟩, fun _ _ _ => rfl, fun _ _ => rfl, Nat.le_refl _, rfl, rfl, rfl, rfl, rfl, rfl, rfl, rfl⟩
theorem CD.trans {h h1 h2 : PH} {G G1 G2 : Gh} {z : Sz} (nr : z.nr ≤ G.nr) (X : CD h h1 G G1 z) (Y : CD h1 h2 G1 G2 z) : CD h h2 G G2 z := by
  have ow := X.gd.ow
  refine CD.mk Y.sx (X.gd.trans Y.gd X.hz) (Nat.le_trans X.hz Y.hz) (fun a ha => (Y.N a (Nat.lt_of_lt_of_le ha X.hz)).trans (X.N a ha)) (X.ag.trans (Y.ag.mono fun a ha => ?_)) (fun i => ?_) (Y.t24.trans X.t24) (fun a i q => ⟨(Y.kp a i q).1.trans (X.kp a i q).1, (Y.kp a i q).2.trans (X.kp a i q).2⟩) (fun a ha f => ?_) (fun i hi => (Y.pg i hi).trans (X.pg i hi)) (Nat.le_trans X.pn Y.pn) ?_
  · rw [ow a ha.1]
    exact ⟨Nat.lt_of_lt_of_le ha.1 X.hz, ha.2⟩
  · have a := X.tA i
    have b := Y.tA i
    rw [X.gd.kd, X.gd.st, X.gd.vl] at b
    exact ⟨b.1.trans a.1, b.2.1.trans a.2.1, b.2.2.trans a.2.2⟩
  · refine (Y.ko a ?_ f).trans (X.ko a ha f)
    obtain ⟨r, hr, q⟩ := ha
    obtain ⟨b1, b2, b3, b4, b5⟩ := X.gd.ru r (by omega)
    refine ⟨r, hr, ?_⟩
    rw [b1, b2]
    rcases q with q | q | ⟨i, hi, q⟩
    · exact .inl q
    · exact .inr (.inl q)
    · exact .inr (.inr ⟨i, Nat.lt_of_lt_of_le hi b4, by rw [b5 i hi]; exact q⟩)
  · obtain ⟨a0, a1, a2, a3, a4, a5, a6, a7⟩ := X.s6
    obtain ⟨b0, b1, b2, b3, b4, b5, b6, b7⟩ := Y.s6
    exact ⟨b0.trans a0, b1.trans a1, b2.trans a2, b3.trans a3, b4.trans a4, b5.trans a5, b6.trans a6, b7.trans a7⟩
/-- what was kept stays the same in both -/
theorem PgR.d {h h' : PH} {u u' : MS} {G G' : Gh} {z : Sz} {nv : Nat} {a b c d : Int32} (eA : ∀ i, i < z.pc → hA h' G'.pg i = hA h G.pg i) (M : MD u u' z) (p : PgR h u G z nv a b c d) : PgR h' u' G' z nv a b c d := by
  obtain ⟨e, i, j, p1, p2, p3, p4, p5, p6, p7, p8, p9⟩ := p
  refine ⟨e, i, j, p1, p2, p3, p4, p5, p6, p7, fun k hk => (eA _ (by omega)).trans (p8 k hk), fun k hk => ?_⟩
  have m : ∀ q, 60 ≤ q → q ≤ 62 → mA u' q (j + k) = mA u q (j + k) := fun q h1 h2 => (M.kp q (j + k) (by unfold kM; omega)).1
  rw [m 60 (by omega) (by omega), m 61 (by omega) (by omega), m 62 (by omega) (by omega)]
  exact p9 k hk
theorem LtR.d {u u' : MS} {z : Sz} {nv : Nat} {s o f g s' o' f' g' : Int32} (M : MD u u' z) (p : LtR u z nv s o f g s' o' f' g') : LtR u' z nv s o f g s' o' f' g' := by
  obtain ⟨w, k, p1, p2, p3, p4⟩ := p
  exact ⟨w, k, p1, p2, ((M.kp 28 w (by unfold kM; omega)).1).trans p3, p4⟩
theorem CdR.d {h h' : PH} {u u' : MS} {G G' : Gh} {z : Sz} {nv a a' i : Nat} (hi : i < 6 * z.nr) (eI : ∀ f, hI h' f a' = hI h f a) (eA : ∀ i, i < z.pc → hA h' G'.pg i = hA h G.pg i) (M : MD u u' z) (p : CdR h u G z nv a i) : CdR h' u' G' z nv a' i := by
  have m : ∀ k, 51 ≤ k → k ≤ 59 → mA u' k i = mA u k i := fun k h1 h2 => (M.kp k i (by unfold kM; omega)).1
  unfold CdR at *
  simp only [eI, m 51 (by omega) (by omega), m 52 (by omega) (by omega), m 53 (by omega) (by omega), m 54 (by omega) (by omega), m 55 (by omega) (by omega), m 56 (by omega) (by omega), m 57 (by omega) (by omega), m 58 (by omega) (by omega), m 59 (by omega) (by omega)]
  rcases p with ⟨p1, p2, p3⟩ | p | p | ⟨p1, p2, p3, p4⟩
  · exact .inl ⟨p1, p2, p3.d M⟩
  · exact .inr (.inl p)
  · exact .inr (.inr (.inl p))
  · exact .inr (.inr (.inr ⟨p1, p2, p3.d eA M, p4.d eA M⟩))
theorem HdR.d {h h' : PH} {u u' : MS} {G G' : Gh} {z : Sz} {nv a a' i : Nat} (hi : i < z.nr) (eI : ∀ f, hI h' f a' = hI h f a) (eA : ∀ i, i < z.pc → hA h' G'.pg i = hA h G.pg i) (M : MD u u' z) (p : HdR h u G z nv a i) : HdR h' u' G' z nv a' i := by
  have m : ∀ k, 38 ≤ k → k ≤ 50 → k ≠ 43 → mA u' k i = mA u k i := fun k h1 h2 h3 => (M.kp k i (by unfold kM; omega)).1
  unfold HdR at *
  simp only [eI, m 40 (by omega) (by omega) (by omega), m 44 (by omega) (by omega) (by omega), m 45 (by omega) (by omega) (by omega), m 46 (by omega) (by omega) (by omega), m 47 (by omega) (by omega) (by omega), m 48 (by omega) (by omega) (by omega), m 49 (by omega) (by omega) (by omega), m 50 (by omega) (by omega) (by omega)]
  rcases p with ⟨p1, p2⟩ | ⟨p1, p2, p3, p4, p5, p6, p7⟩
  · exact .inl ⟨p1, p2.d M⟩
  · exact .inr ⟨p1, p2, p3, p4, p5, p6, p7.d eA M⟩
theorem KR.d {h h' : PH} {u u' : MS} {G G' : Gh} {z : Sz} (X : CD h h' G G' z) (M : MD u u' z) (K : KR h u G z) : KR h' u' G' z := by
  have kn := K.nrG
  have mA_ : ∀ k i, kM z k i → mA u' k i = mA u k i := fun k i q => (M.kp k i q).1
  have mB_ : ∀ k i, kM z k i → mB u' k i = mB u k i := fun k i q => (M.kp k i q).2
  apply KR.mk
  · exact Nat.le_trans kn X.gd.nr
  · exact fun i hi => by rw [(X.kp 7 i (by unfold kC; omega)).2, mB_ 25 i (by unfold kM; omega)]; exact K.pn i hi
  · exact fun i hi => by rw [(X.kp 9 i (by unfold kC; omega)).2, mB_ 27 i (by unfold kM; omega)]; exact K.wn i hi
  · exact fun i hi => by rw [(X.kp 16 i (by unfold kC; omega)).1, mA_ 28 i (by unfold kM; omega)]; exact K.pl i hi
  · exact fun i hi => by rw [(X.kp 11 i (by unfold kC; omega)).2, mB_ 29 i (by unfold kM; omega)]; exact K.sn i hi
  · intro i hi
    have m : ∀ k, 31 ≤ k → k ≤ 35 → mA u' k i = mA u k i := fun k h1 h2 => mA_ k i (by unfold kM; omega)
    have a : ∀ k, k < 5 → hA h' 18 (5 * i + k) = hA h 18 (5 * i + k) := fun k hk => (X.kp 18 _ (by unfold kC; omega)).1
    have a0 := a 0 (by omega)
    rw [Nat.add_zero] at a0
    rw [a0, a 1 (by omega), a 2 (by omega), a 3 (by omega), a 4 (by omega), m 31 (by omega) (by omega), m 32 (by omega) (by omega), m 33 (by omega) (by omega), m 34 (by omega) (by omega), m 35 (by omega) (by omega)]
    exact K.lw i hi
  · exact fun i hi => by rw [(X.kp 15 i (by unfold kC; omega)).2, mB_ 38 i (by unfold kM; omega)]; exact K.rn i hi
  · intro r hr
    obtain ⟨b1, b2, b3, b4, b5⟩ := X.gd.ru r (by omega)
    obtain ⟨l, k, n, v, h1, h2, h3, h4, h5, h6, h7, h8, h9, ha, hb, hc, hd, he, hf⟩ := K.ru r hr
    have eR : ∀ f, hI h' f (G'.rl r) = hI h f (G.rl r) := fun f => by rw [b1]; exact X.ko _ ⟨r, hr, .inl rfl⟩ f
    have eH : ∀ f, hI h' f (G'.hd r) = hI h f (G.hd r) := fun f => by rw [b2]; exact X.ko _ ⟨r, hr, .inr (.inl rfl)⟩ f
    have m : ∀ k, 38 ≤ k → k ≤ 50 → k ≠ 43 → mA u' k r = mA u k r := fun k h1 h2 h3 => mA_ k r (by unfold kM; omega)
    refine ⟨l, k, n, v, h1, h2, h3, by omega, h5, ?_⟩
    simp only [eR, m 39 (by omega) (by omega) (by omega), m 40 (by omega) (by omega) (by omega), m 41 (by omega) (by omega) (by omega), m 42 (by omega) (by omega) (by omega)]
    refine ⟨h6, h7, h8, h9, ha, hb, hc, hd, he.d hr eH X.pg M, fun i hi => (hf i hi).d (by omega) (fun f => ?_) X.pg M⟩
    rw [b5 i (by omega)]
    exact X.ko _ ⟨r, hr, .inr (.inr ⟨i, by omega, rfl⟩)⟩ f
  · intro i hi
    rw [(X.kp 20 i (by unfold kC; omega)).1, (X.kp 21 i (by unfold kC; omega)).1, mA_ 36 i (by unfold kM; omega), mA_ 37 i (by unfold kM; omega)]
    exact K.ov i hi
  · exact fun i hi => by rw [(X.kp 13 i (by unfold kC; omega)).2, mB_ 30 i (by unfold kM; omega)]; exact K.ln i hi
