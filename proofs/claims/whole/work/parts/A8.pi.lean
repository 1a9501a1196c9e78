/-- a state of a reading, right or wrong -/
def PI (h : PH) (u : MS) (G : Gh) (z : Sz) (L : Nat) (n : Nat) (D : Nat → Nat × Nat × Nat × List Nat) : Prop := (SX h G) ∧ (z.ok) ∧ (SzK h z) ∧ (KR h u G z) ∧ (RmR h u G z) ∧ (∀ i, isBy (hA h G.tk i)) ∧ (hN h G.tk ≤ 4000) ∧ (okL (hN h G.tk)) ∧ (OuR h u G) ∧ (DyR h u) ∧ (NuR h u z) ∧ (TeR h u G z) ∧ (IvJ h u G z) ∧ (TS h u G L n D) ∧ (n ≤ hN h G.kd) ∧ (L ≤ 4000) ∧ (mI u 2 = 0) ∧ (hI h 518 23 = mI u 72)
theorem PI.sx {h : PH} {u : MS} {G : Gh} {z : Sz} {L : Nat} {n : Nat} {D : Nat → Nat × Nat × Nat × List Nat} (X_ : PI h u G z L n D) : SX h G := X_.1
theorem PI.zo {h : PH} {u : MS} {G : Gh} {z : Sz} {L : Nat} {n : Nat} {D : Nat → Nat × Nat × Nat × List Nat} (X_ : PI h u G z L n D) : z.ok := X_.2.1
theorem PI.zk {h : PH} {u : MS} {G : Gh} {z : Sz} {L : Nat} {n : Nat} {D : Nat → Nat × Nat × Nat × List Nat} (X_ : PI h u G z L n D) : SzK h z := X_.2.2.1
theorem PI.kr {h : PH} {u : MS} {G : Gh} {z : Sz} {L : Nat} {n : Nat} {D : Nat → Nat × Nat × Nat × List Nat} (X_ : PI h u G z L n D) : KR h u G z := X_.2.2.2.1
theorem PI.rm {h : PH} {u : MS} {G : Gh} {z : Sz} {L : Nat} {n : Nat} {D : Nat → Nat × Nat × Nat × List Nat} (X_ : PI h u G z L n D) : RmR h u G z := X_.2.2.2.2.1
theorem PI.bt {h : PH} {u : MS} {G : Gh} {z : Sz} {L : Nat} {n : Nat} {D : Nat → Nat × Nat × Nat × List Nat} (X_ : PI h u G z L n D) : ∀ i, isBy (hA h G.tk i) := X_.2.2.2.2.2.1
theorem PI.hn {h : PH} {u : MS} {G : Gh} {z : Sz} {L : Nat} {n : Nat} {D : Nat → Nat × Nat × Nat × List Nat} (X_ : PI h u G z L n D) : hN h G.tk ≤ 4000 := X_.2.2.2.2.2.2.1
theorem PI.ok {h : PH} {u : MS} {G : Gh} {z : Sz} {L : Nat} {n : Nat} {D : Nat → Nat × Nat × Nat × List Nat} (X_ : PI h u G z L n D) : okL (hN h G.tk) := X_.2.2.2.2.2.2.2.1
theorem PI.ou {h : PH} {u : MS} {G : Gh} {z : Sz} {L : Nat} {n : Nat} {D : Nat → Nat × Nat × Nat × List Nat} (X_ : PI h u G z L n D) : OuR h u G := X_.2.2.2.2.2.2.2.2.1
theorem PI.dy {h : PH} {u : MS} {G : Gh} {z : Sz} {L : Nat} {n : Nat} {D : Nat → Nat × Nat × Nat × List Nat} (X_ : PI h u G z L n D) : DyR h u := X_.2.2.2.2.2.2.2.2.2.1
theorem PI.nu {h : PH} {u : MS} {G : Gh} {z : Sz} {L : Nat} {n : Nat} {D : Nat → Nat × Nat × Nat × List Nat} (X_ : PI h u G z L n D) : NuR h u z := X_.2.2.2.2.2.2.2.2.2.2.1
theorem PI.te {h : PH} {u : MS} {G : Gh} {z : Sz} {L : Nat} {n : Nat} {D : Nat → Nat × Nat × Nat × List Nat} (X_ : PI h u G z L n D) : TeR h u G z := X_.2.2.2.2.2.2.2.2.2.2.2.1
theorem PI.ju {h : PH} {u : MS} {G : Gh} {z : Sz} {L : Nat} {n : Nat} {D : Nat → Nat × Nat × Nat × List Nat} (X_ : PI h u G z L n D) : IvJ h u G z := X_.2.2.2.2.2.2.2.2.2.2.2.2.1
theorem PI.ts {h : PH} {u : MS} {G : Gh} {z : Sz} {L : Nat} {n : Nat} {D : Nat → Nat × Nat × Nat × List Nat} (X_ : PI h u G z L n D) : TS h u G L n D := X_.2.2.2.2.2.2.2.2.2.2.2.2.2.1
theorem PI.nk {h : PH} {u : MS} {G : Gh} {z : Sz} {L : Nat} {n : Nat} {D : Nat → Nat × Nat × Nat × List Nat} (X_ : PI h u G z L n D) : n ≤ hN h G.kd := X_.2.2.2.2.2.2.2.2.2.2.2.2.2.2.1
theorem PI.lL {h : PH} {u : MS} {G : Gh} {z : Sz} {L : Nat} {n : Nat} {D : Nat → Nat × Nat × Nat × List Nat} (X_ : PI h u G z L n D) : L ≤ 4000 := X_.2.2.2.2.2.2.2.2.2.2.2.2.2.2.2.1
theorem PI.t2 {h : PH} {u : MS} {G : Gh} {z : Sz} {L : Nat} {n : Nat} {D : Nat → Nat × Nat × Nat × List Nat} (X_ : PI h u G z L n D) : mI u 2 = 0 := X_.2.2.2.2.2.2.2.2.2.2.2.2.2.2.2.2.1
theorem PI.d8 {h : PH} {u : MS} {G : Gh} {z : Sz} {L : Nat} {n : Nat} {D : Nat → Nat × Nat × Nat × List Nat} (X_ : PI h u G z L n D) : hI h 518 23 = mI u 72 := X_.2.2.2.2.2.2.2.2.2.2.2.2.2.2.2.2.2
theorem PI.mk {h : PH} {u : MS} {G : Gh} {z : Sz} {L : Nat} {n : Nat} {D : Nat → Nat × Nat × Nat × List Nat} (sx_ : SX h G) (zo_ : z.ok) (zk_ : SzK h z) (kr_ : KR h u G z) (rm_ : RmR h u G z) (bt_ : ∀ i, isBy (hA h G.tk i)) (hn_ : hN h G.tk ≤ 4000) (ok_ : okL (hN h G.tk)) (ou_ : OuR h u G) (dy_ : DyR h u) (nu_ : NuR h u z) (te_ : TeR h u G z) (ju_ : IvJ h u G z) (ts_ : TS h u G L n D) (nk_ : n ≤ hN h G.kd) (lL_ : L ≤ 4000) (t2_ : mI u 2 = 0) (d8_ : hI h 518 23 = mI u 72) : PI h u G z L n D := ⟨sx_, zo_, zk_, kr_, rm_, bt_, hn_, ok_, ou_, dy_, nu_, te_, ju_, ts_, nk_, lL_, t2_, d8_⟩
theorem RB.pi {h : PH} {u : MS} {G : Gh} {z : Sz} {L n : Nat} {D : Nat → Nat × Nat × Nat × List Nat} (B : RB h u G z L n D) (t2 : mI u 2 = 0) (d8 : hI h 518 23 = mI u 72) : PI h u G z L n D := ⟨B.ir.sx, B.ir.zo, B.ir.zk, B.ir.kr, B.ir.rm, B.ir.bt, B.ir.hn, B.ir.ok, B.ir.ou, B.ir.dy, B.ir.nu, B.ir.te, B.ir.ju, B.ts, B.nk, B.lL, t2, d8⟩
theorem PI.d {h h' : PH} {u u' : MS} {G G' : Gh} {z : Sz} {L n : Nat} {D : Nat → Nat × Nat × Nat × List Nat} (I : PI h u G z L n D) (X : CD h h' G G' z) (M : MD u u' z) (pm : hN h' G'.pg ≤ 131072) : PI h' u' G' z L n D := by
  have S := I.sx
  have zz := S.zz
  have p : ∀ a x, a < hZ h → G.ow a = x → x / 100000 ≠ 3 → x / 100000 ≠ 7 → x / 100000 ≠ 8 → a < hZ h ∧ G.ow a / 100000 ≠ 3 ∧ G.ow a / 100000 ≠ 7 ∧ G.ow a / 100000 ≠ 8 := fun a x l e h3 h7 h8 => ⟨l, by rw [e]; exact ⟨h3, h7, h8⟩⟩
  have g : ∀ n, n ≠ 3 → n ≠ 7 → n ≠ 8 → Ag (gr (hZ h) G n) h h' := fun n h3 h7 h8 => X.ag.mono fun a ha => ⟨ha.1, by have := ha.2; omega⟩
  have i0 := (X.ag 0 (p _ _ (by omega) S.o0 (by omega) (by omega) (by omega))).1
  have i3 := (X.ag 3 (p _ _ (by omega) S.o3 (by omega) (by omega) (by omega))).1
  have ltk := lt_T S.fr S.ttk (by omega)
  have lwk := lt_T S.fr S.twk (by omega)
  have atk := (X.ag G.tk (p _ _ ltk S.otk (by omega) (by omega) (by omega))).2.2.1
  have awk := (X.ag G.wk (p _ _ lwk S.owk (by omega) (by omega) (by omega))).2.2.1
  have a17 := (X.ag 17 (p _ _ (by omega) S.o17 (by omega) (by omega) (by omega))).2.2.1
  have b25 := (X.ag 25 (p _ _ (by omega) S.o25 (by omega) (by omega) (by omega))).2.2.2
  have mi : ∀ k, k ≤ 10 ∨ k = 17 ∨ 72 ≤ k → mI u' k = mI u k := fun k hk => (M.ag k hk).1
  have ma : ∀ k, k ≤ 10 ∨ k = 17 ∨ 72 ≤ k → ∀ i, mA u' k i = mA u k i := fun k hk => (M.ag k hk).2.2.1
  have mb : ∀ k, k ≤ 10 ∨ k = 17 ∨ 72 ≤ k → ∀ i, mB u' k i = mB u k i := fun k hk => (M.ag k hk).2.2.2
  have nkd := X.N G.kd (lt_T S.fr S.tkd (by omega))
  have nst := X.N G.st (lt_T S.fr S.tst (by omega))
  have nvl := X.N G.vl (lt_T S.fr S.tvl (by omega))
  have gd := X.gd
  apply PI.mk
  · exact X.sx
  · exact I.zo
  · have := I.zk
    obtain ⟨_, a1, a2, a3, a4, a5, a6, a7⟩ := X.s6
    unfold SzK at *
    rw [a1, a2, a3, a4, a5, a6, a7]
    exact this
  · exact I.kr.d X M
  · have K := I.rm
    have pn := X.pn
    have k3 := K.k3
    have p1 := K.p1
    have p2 := K.p2
    have e1 := K.k1
    have e2 := K.k2
    refine ⟨?_, ?_, ?_, by omega, by omega, pm, K.p4, K.p5, fun i hi => (b25 i).trans (K.kc i hi), fun i hi => (mb 9 (by omega) i).trans (K.km i hi)⟩
    · rw [gd.st, gd.kd, nst, nkd, e1]
    · rw [gd.vl, gd.kd, nvl, nkd, e2]
    · rw [gd.kd, nkd]; exact k3
  · intro i
    rw [gd.tk, atk]
    exact I.bt i
  · rw [gd.tk, X.N _ ltk]; exact I.hn
  · rw [gd.tk, X.N _ ltk]; exact I.ok
  · exact OuR.cg gd.wk (I.ou.fr (h := h) (u := u) (X.N _ lwk) (i3 1) awk (mi 113 (by omega)) (ma 114 (by omega)))
  · have := I.dy
    unfold DyR at *
    rw [i0, mi 72 (by omega)]
    exact this
  · intro i hi
    have := I.nu i hi
    rw [a17, (M.kp 26 i (by unfold kM; omega)).1]
    exact this
  · exact TeR.cg gd.te gd.nt (I.te.fr S (i0 1413) (g 4 (by omega) (by omega) (by omega)) (M.ag.mono fun k hk => by unfold tS at hk; omega) (fun i hi => (M.kp 28 i (by unfold kM; omega)).1))
  · refine IvJ.cg gd.jj gd.jd ?_
    have K := I.ju
    unfold IvJ at *
    simp only [mi 96 (by omega), mi 100 (by omega), mi 101 (by omega), mi 102 (by omega), mi 103 (by omega)]
    rcases K with K | ⟨J, k, l, a, b', c, K⟩
    · exact .inl K
    · have g2 := (X.ag (G.jd 2) (p _ _ (jd_lt J S 2 (by omega)) (S.jo J 2 (by omega)) (by omega) (by omega) (by omega))).2.2.1
      have g17 := (X.ag (G.jd 17) (p _ _ (jd_lt J S 17 (by omega)) (S.jo J 17 (by omega)) (by omega) (by omega) (by omega))).2.2.1
      have n15 := X.N _ (jd_lt J S 15 (by omega))
      have n16 := X.N _ (jd_lt J S 16 (by omega))
      have n17 := X.N _ (jd_lt J S 17 (by omega))
      exact .inr ⟨J, k, ⟨fun p hp => (g2 p).trans (l.wh p hp), by rw [n15, n16]; exact l.k1, by rw [n15, n17]; exact l.k2, by rw [n15]; exact l.k3, by rw [n15]; exact l.k4, fun i => by rw [g17]; exact l.bt i⟩, a, b', c, K.fr ((g 5 (by omega) (by omega) (by omega)).mono fun a q => jP_gr J S q) (M.ag.mono fun k hk => by unfold jS at hk; omega) (fun i hi => (M.kp 28 i (by unfold kM; omega)).1) (fun i hi => (M.kp 42 i (by unfold kM; omega)).1)⟩
  · have T := I.ts
    refine ⟨T.n1, T.n2, X.t24.trans T.sz, fun j hj => ?_, T.mo, T.pl, T.go, T.en⟩
    have := T.tk j hj
    obtain ⟨q1, q2, q3⟩ := X.tA j
    unfold TkR at *
    rw [gd.kd, gd.st, gd.vl, q1, q2, q3, ma 5 (by omega), ma 6 (by omega), ma 7 (by omega), mb 8 (by omega)]
    exact this
  · rw [gd.kd, nkd]; exact I.nk
  · exact I.lL
  · rw [mi 2 (by omega)]; exact I.t2
  · rw [X.s6.1, mi 72 (by omega)]; exact I.d8
