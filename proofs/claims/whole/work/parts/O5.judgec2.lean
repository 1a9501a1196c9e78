theorem find_by {D : Mdl} {p : Nat} {L : List Nat} {A : Nat → Prop} (eL : L = D.ins.filter (cd D.ho)) (h : ∀ x, (D.ho x ∧ A x) ↔ (D.hd x = p ∧ D.k0 x ∧ apl D (LfP D) x)) : L.find? (cd A) = byF D p := by
  unfold byF
  rw [eL, chn_cd, find_filter, find_filter, cd_eq h]
theorem find_ag {D : Mdl} {p : Nat} {L : List Nat} {A : Nat → Prop} (eL : L = D.ins.filter (cd D.ho)) (h : ∀ x, (D.ho x ∧ A x) ↔ (D.hd x = p ^^^ 1 ∧ agR D (LfP D) (LfR D) p x)) : L.find? (cd A) = agF D p := by
  unfold agF
  rw [eL, chn_cd, find_filter, find_filter, cd_eq h]
theorem find_no {P : Nat → Prop} {l : List Nat} (h : ∀ x, ¬ P x) : l.find? (cd P) = none := by
  rw [List.find?_eq_none]
  intro x _ k
  exact h x (cd_t.mp k)
theorem judge2C {h3 : PH} {G : Gh} {z : Sz} {u0 : MS} {nu : Nat → Int32} {E1 E2 E3 : Nat → List Tok} {d1 d2 : Int32} (W : CEv h3 G z u0 nu E1 E2 E3) (zo : z.ok) (M0 : SzM u0 z) (hc : z.pc < 99000) (js : JS h3 G) (m2 : hI h3 642 (G.jd 0) = nI z.np) (m3 : hI h3 643 (G.jd 0) = nI z.nw) (m4 : hI h3 644 (G.jd 0) = nI z.ns) (m51 : hI h3 651 (G.jd 0) = 0) (m55 : hI h3 655 (G.jd 0) = 0) (F : fax3 h3 G u0 z (fax u0 d1 d2 G.nt)) (z18 : ∀ q, q < 4 → hA h3 (G.jd 18) q = 0) (fl : ∀ p, fax u0 d1 d2 G.nt p → p < 600 ∧ isLit (plN u0) z.nw z.np p) (ex : Exc (LfP (mkD u0 z nu E1 E2 d1 d2 (fax u0 d1 d2 G.nt))) (LfR (mkD u0 z nu E1 E2 d1 d2 (fax u0 d1 d2 G.nt)))) : ∃ h' G' ci cj, fX11_judge_89 FU h3 0 d1 d2 (some (G.jd 0)) 0 = some (h', hA h' (G'.jd 18) 1, ci, cj) ∧ SX h' G' ∧ GJ (fun i => i ≠ 3) h3 h' G G' ∧ JC h' G' z u0 (mkD u0 z nu E1 E2 d1 d2 (fax u0 d1 d2 G.nt)) nu E3 ∧ ci + jp3 h3 G ≤ jp3 h' G' ∧ cj + 3 * jp3 h3 G ≤ 3 * jp3 h' G' := by
  have S := W.s
  have J := W.j
  have nr := zo.2.2.2.2.1
  have v0 : vj 0 := by unfold vj; omega
  have v10 : vj 10 := by unfold vj; omega
  have v11 : vj 11 := by unfold vj; omega
  have v17 : vj 17 := by unfold vj; omega
  have v18 : vj 18 := by unfold vj; omega
  obtain ⟨fa, hfa⟩ : ∃ fa, fa = fax u0 d1 d2 G.nt := ⟨_, rfl⟩
  rw [← hfa] at F fl ex ⊢
  have dz : hoL u0 nu E1 E2 d1 d2 z.np (dn z.np (vN u0) 0 0) = [] := by rw [dn_zero]; rfl
  have Q0 : GSt h3 G z u0 nu E1 E2 E3 d1 d2 0 0 0 := by
    apply GSt.mk
    · exact W
    · exact m2
    · exact ⟨m3, m4⟩
    · rw [dz]
      exact LSt.mk m55 (fun i hi => absurd hi (by rw [List.length_nil]; omega)) (Nat.zero_le _) js.k1 js.k2 js.k3 js.k4 js.bt
    · exact ⟨0, m51, by decide, fun t => by rw [Nat.zero_testBit]; exact ⟨fun h => absurd h (by decide), fun h => absurd h.1 (by omega)⟩⟩
    · exact fun s hs => by omega
  obtain ⟨f, hf⟩ : ∃ f', FU = f' + (z.nr + 1) := ⟨FU - (z.nr + 1), by have : FU = 100000 := rfl; omega⟩
  obtain ⟨h4, G4, ci, cj, g1, g2, g3, g4, g5⟩ := gatherL (d1 := d1) (d2 := d2) zo M0 hc z.nr 0 f h3 G (by omega) Q0
  have S4 := g2.W.s
  have J4 := g2.W.j
  have jd0 : ∀ i, ¬ (15 ≤ i ∧ i ≤ 17) → G4.jd i = G.jd i := fun i hi => by
    rcases g3.jd i with k | k
    · exact k
    · exact absurd k.1 hi
  have o10 : ∀ q, hA h4 (G4.jd 10) q = hA h3 (G.jd 10) q := fun q => by
    rw [jd0 10 (by decide)]; exact (g3.own S J v10 (by unfold pGa; omega) (S.jt10 J) (by decide)).2.2.1 q
  have o11 : ∀ q, hA h4 (G4.jd 11) q = hA h3 (G.jd 11) q := fun q => by
    rw [jd0 11 (by decide)]; exact (g3.own S J v11 (by unfold pGa; omega) (S.jt11 J) (by decide)).2.2.1 q
  have o18 : ∀ q, hA h4 (G4.jd 18) q = hA h3 (G.jd 18) q := fun q => by
    rw [jd0 18 (by decide)]; exact (g3.own S J v18 (by unfold pGa; omega) (S.jt18 J) (by decide)).2.2.1 q
  have F4 : fax3 h4 G4 u0 z fa := fun q hq => by rw [o10, o11]; exact F q hq
  have l4 := g2.l
  rw [dn_zero] at l4
  have ll : (hoL u0 nu E1 E2 d1 d2 z.np (insL z.nr z.np (vN u0))).length ≤ 3750 := by
    have := List.length_filter_le (cd (hox u0 nu E1 E2 d1 d2 z.np)) (insL z.nr z.np (vN u0))
    have := insL_len (nr := z.nr) (np := z.np) (v := vN u0) fun r hr => pow_le zo.1 (ruV W.k hr).2.1
    unfold hoL
    omega
  obtain ⟨L, hL⟩ : ∃ L, L = hoL u0 nu E1 E2 d1 d2 z.np (insL z.nr z.np (vN u0)) := ⟨_, rfl⟩
  have Q4 : CSt h4 G4 z u0 nu E1 E2 E3 d1 d2 L := by
    rw [hL]
    exact CSt.mk g2.W g2.m2 l4.n (fun i hi => (l4.a i hi).1) (fun i hi => (l4.a i hi).2.1) l4.le l4.k1 l4.k2 l4.k4 g2.sm' g2.bm (fun i hi => (mem_hoL.mp (getD_mem hi)).1)
  have nf : ∀ q, q < 600 → fa q → ¬ fa (q ^^^ 1) := fun q hq a b => by
    have x1 := ((F q hq).1 a).1
    rw [((F q hq).2.1 b).1] at x1
    exact absurd x1 (by decide)
  have lx : ∀ q, q < 600 → fa (q ^^^ 1) → isLit (plN u0) z.nw z.np q := fun q hq a => (isLit_xor hq).mp (fl _ a).2
  have mk4 : MkS h4 G4 u0 z := fun p hp => by
    obtain ⟨f1, f2, f3⟩ := F4 p hp
    by_cases a : fa p
    · exact .inl ⟨(fl p a).2, .inr (.inl (f1 a).1)⟩
    by_cases b : fa (p ^^^ 1)
    · exact .inl ⟨lx p hp b, .inl (f2 b).1⟩
    rcases (f3 a b).1 with c | c
    · exact .inl ⟨c.1, .inr (.inr c.2)⟩
    · exact .inr c
  have Mr : Mrk (mkD u0 z nu E1 E2 d1 d2 fa) (cPr h4 G4) (cRf h4 G4) := by
    apply Mrk.mk
    · intro p hp
      obtain ⟨f1, f2, f3⟩ := F4 p hp.1
      by_cases a : fa p
      · exact (L_pre _).1 p (fl p a) (.inl a)
      · by_cases b : fa (p ^^^ 1)
        · have := (f2 b).1; rw [hp.2] at this; exact absurd this (by decide)
        · rcases (f3 a b).1 with c | c
          · have := c.2; rw [hp.2] at this; exact absurd this (by decide)
          · have := c.2; rw [hp.2] at this; exact absurd this (by decide)
    · intro p hp
      obtain ⟨f1, f2, f3⟩ := F4 p hp.1
      by_cases a : fa p
      · have := (f1 a).1; rw [hp.2] at this; exact absurd this (by decide)
      · by_cases b : fa (p ^^^ 1)
        · exact (L_pre _).2 p ⟨hp.1, lx p hp.1 b⟩ ⟨a, .inl b⟩
        · rcases (f3 a b).1 with c | c
          · have := c.2; rw [hp.2] at this; exact absurd this (by decide)
          · have := c.2; rw [hp.2] at this; exact absurd this (by decide)
    · exact fun p a => ⟨(fl p a).1, ((F4 p (fl p a).1).1 a).1⟩
    · exact fun p hl b => ⟨hl.1, ((F4 p hl.1).2.1 b).1⟩
  have R4 : RS h4 G4 z u0 nu E1 E2 E3 d1 d2 fa L := RS.mk Q4 mk4 (fun j hj => .inl (by rw [hL] at hj; exact (l4.a j hj).2.2)) l4.bt Mr
  rw [← hL] at ll
  rw [hL] at R4 ll
  have c600 : c2m h4 G4 ≤ 600 := by
    have := List.countP_le_length (p := fun q => decide (hA h4 (G4.jd 10) q = 2)) (l := List.range 600)
    rw [List.length_range] at this
    exact this
  obtain ⟨h5, b1, b2, b3⟩ := roundsC zo ex ll 600 0 99398 h4 rfl c600 R4
  rw [← hL] at b3 ll
  have S5 := b3.Q.W.s
  have q11 := (b2.own S4 J4 v11 (by unfold pRd; omega)).2.2.1
  have q18 := (b2.own S4 J4 v18 (by unfold pRd; omega)).2.2.1
  have lp : ∀ p, p < 600 → (hA h5 (G4.jd 10) p = 1 ↔ LfP (mkD u0 z nu E1 E2 d1 d2 fa) p) := fun p hp => by
    rw [← b3.lp]; exact ⟨fun a => ⟨hp, a⟩, fun a => a.2⟩
  have lr : ∀ p, p < 600 → (hA h5 (G4.jd 10) p = 0 ↔ LfR (mkD u0 z nu E1 E2 d1 d2 fa) p) := fun p hp => by
    rw [← b3.lr]; exact ⟨fun a => ⟨hp, a⟩, fun a => a.2⟩
  have r5 : ∀ q, q < 600 → (fa q → hA h5 (G4.jd 11) q = -2) ∧ (fa (q ^^^ 1) → hA h5 (G4.jd 11) q = -2) ∧ (¬ fa q → ¬ fa (q ^^^ 1) → hA h5 (G4.jd 11) q = -1) := fun q hq => by
    obtain ⟨f1, f2, f3⟩ := F4 q hq
    rw [q11]
    exact ⟨fun a => (f1 a).2, fun a => (f2 a).2, fun a b => (f3 a b).2⟩
  have fP : ∀ p, fa p → LfP (mkD u0 z nu E1 E2 d1 d2 fa) p := fun p a => (L_pre _).1 p (fl p a) (.inl a)
  have fR : ∀ p, p < 600 → fa (p ^^^ 1) → LfR (mkD u0 z nu E1 E2 d1 d2 fa) p := fun p hp b => (L_pre _).2 p ⟨hp, lx p hp b⟩ ⟨fun a => nf p hp a b, .inl b⟩
  have mem : ∀ i, i < L.length → hox u0 nu E1 E2 d1 d2 z.np (L.getD i 0) := fun i hi => by rw [hL] at hi ⊢; exact (mem_hoL.mp (getD_mem hi)).2
  obtain ⟨h6, e1, e2⟩ := explainC zo b3 ll mem (fun k hk => by rw [q18, o18]; exact z18 k hk) (fun q hq => by
    by_cases a : fa q
    · exact .inr ((r5 q hq).1 a)
    by_cases b : fa (q ^^^ 1)
    · exact .inr ((r5 q hq).2.1 b)
    · exact .inl ((r5 q hq).2.2 a b))
  have S6 := e2.ch.sx S5
  have Q6 : CSt h6 G4 z u0 nu E1 E2 E3 d1 d2 L := b3.Q.ch e2.ch (fun i hi => by omega) (b3.Q.W.ch2 e2.ch (by decide))
  have s17 := (e2.ch.own S5 J4 v17 (by decide)).2.2.1
  have s10 := (e2.ch.own S5 J4 v10 (by decide)).2.2.1
  have ts : ∀ i, i < L.length → (hA h6 (G4.jd 17) i = 1 ↔ apl (mkD u0 z nu E1 E2 d1 d2 fa) (LfP (mkD u0 z nu E1 E2 d1 d2 fa)) (L.getD i 0)) := fun i hi => by
    rw [s17]
    have t := b3.t3 i hi
    rw [b3.lp] at t
    constructor
    · intro s1
      rcases t with a | a | a
      · have := a.1; rw [s1] at this; exact absurd this (by decide)
      · exact ⟨mem i hi, a.2.1⟩
      · have := a.1; rw [s1] at this; exact absurd this (by decide)
    · intro a
      rcases t with b | b | b
      · exact absurd a.2 b.2.2
      · exact b.1
      · exact absurd a.2 b.2.1
  obtain ⟨h7, k1, k2, k3, k4⟩ := r160 (h0 := h6) (A := apl (mkD u0 z nu E1 E2 d1 d2 fa) (LfP (mkD u0 z nu E1 E2 d1 d2 fa))) zo hc ll 20 0 99979 h6 rfl Q6 ts (CH.refl G4 _ h6) (fun q hq => by omega)
  have S7 := k3.W.s
  have t10 : ∀ q, hA h7 (G4.jd 10) q = hA h5 (G4.jd 10) q := fun q => ((k2.own S6 J4 v10 (by unfold pRk; omega)).2.2.1 q).trans (s10 q)
  have t11 := (k2.own S6 J4 v11 (by unfold pRk; omega)).2.2.1
  have t18 := (k2.own S6 J4 v18 (by unfold pRk; omega)).2.2.1
  have i0 : ∀ f, hI h7 f (G4.jd 0) = hI h4 f (G4.jd 0) := fun f => (((k2.own S6 J4 v0 (by unfold pRk; omega)).1 f).trans ((e2.ch.own S5 J4 v0 (by decide)).1 f)).trans ((b2.own S4 J4 v0 (by unfold pRd; omega)).1 f)
  have n7 : hN h7 = hN h4 := (k2.1.2.2.2.1.trans e2.ch.1.2.2.2.1).trans b2.1.2.2.2.1
  have eL : L = (mkD u0 z nu E1 E2 d1 d2 fa).ins.filter (cd (mkD u0 z nu E1 E2 d1 d2 fa).ho) := hL
  have c7 : CH G4 (fun i => i ≠ 3) h4 h7 := ((b2.mono fun i e => by unfold pRd at e; omega).trans (e2.ch.mono fun i e => by omega)).trans (k2.mono fun i e => by unfold pRk at e; omega)
  have gj : GJ (fun i => i ≠ 3) h3 h7 G G4 := (g3.mono fun i e => by unfold pGa at e; omega).trans (GJ.of c7)
  have ju : fX11_judge_124 FU h4 (some (G4.jd 0)) 1 0 = some (h7, hA h7 (G4.jd 18) 1, 0, 0) := by
    rw [show FU = 99398 + (600 + 2) from rfl, show (0 : Int32) = nI 0 from rfl, b1, fX11_judge_153, oN_v, oC_d (S5.jt0 J4), e1, oB_v, show FU = 99979 + (20 + 1) from rfl, show (0 : Int32) = nI 0 from rfl]
    exact k1
  have mkq : ∀ q, q < 600 → (isLit (plN u0) z.nw z.np q ∧ (hA h5 (G4.jd 10) q = 0 ∨ hA h5 (G4.jd 10) q = 1 ∨ hA h5 (G4.jd 10) q = 2)) ∨ (¬ isLit (plN u0) z.nw z.np q ∧ hA h5 (G4.jd 10) q = -1) := b3.mk'
  refine ⟨h7, G4, ci, cj, ?_, S7, gj, JC.mk ?_ ?_ ?_ ?_ ?_ ?_ ?_ ?_ ?_ ?_ ?_, ?_, ?_⟩
  · have := g1 h7 _ 0 0 ju
    rw [hf]; exact this
  · apply JS.mk
    · exact k3.W.wh
    · rw [n7]; exact l4.k1
    · rw [n7]; exact l4.k2
    · rw [n7]; exact l4.k3
    · rw [n7]; exact l4.k4
    · intro i
      rw [(k2.own S6 J4 v17 (by unfold pRk; omega)).2.2.1, s17]; exact b3.bt i
  · rw [i0]; exact g2.m2
  · rw [i0]; exact g2.m34.1
  · rw [i0]; exact g2.m34.2
  · intro p hp hl
    rw [t10, t11, e2.rs p hp]
    obtain ⟨r1, r2, r3⟩ := r5 p hp
    rcases mkq p hp with ⟨_, m0 | m1 | m2'⟩ | ⟨nl, _⟩
    · have LR := (lr p hp).mp m0
      refine .inr (.inl ⟨LR, m0, ?_⟩)
      by_cases b : fa (p ^^^ 1)
      · rw [r2 b, if_neg (by decide)]; exact .inl ⟨b, rfl⟩
      · have na : ¬ fa p := fun a => ex p (fP p a) LR
        rw [if_pos (r3 na b)]
        refine .inr ⟨b, ?_⟩
        rw [find_ag eL]
        intro x
        unfold Cx
        rw [b3.lp, b3.lr]
        constructor
        · rintro ⟨q1, q2, q3 | q3⟩
          · have := q3.2.2; rw [m0] at this; exact absurd this (by decide)
          · exact ⟨q3.1, ⟨q1, q2⟩, q3.2.2⟩
        · rintro ⟨q1, q2, q3⟩
          exact ⟨q2.1, q2.2, .inr ⟨q1, m0, q3⟩⟩
    · have LP := (lp p hp).mp m1
      refine .inl ⟨LP, m1, ?_⟩
      by_cases a : fa p
      · rw [r1 a, if_neg (by decide)]; exact .inl ⟨a, rfl⟩
      · have nb : ¬ fa (p ^^^ 1) := fun b => ex p LP (fR p hp b)
        rw [if_pos (r3 a nb)]
        obtain ⟨y, y1, _⟩ := by_ex LP a
        refine .inr ⟨a, y, y1, ?_⟩
        rw [find_by eL (p := p), y1]
        · rfl
        · intro x
          unfold Cx
          rw [b3.lp]
          constructor
          · rintro ⟨q1, q2, q3 | q3⟩
            · exact ⟨q3.1, q3.2.1, q1, q2⟩
            · have := q3.2.1; rw [m1] at this; exact absurd this (by decide)
          · rintro ⟨q1, q2, q3⟩
            exact ⟨q3.1, q3.2, .inl ⟨q1, q2, m1⟩⟩
    · have nP : ¬ LfP (mkD u0 z nu E1 E2 d1 d2 fa) p := fun h => by have := (lp p hp).mpr h; rw [m2'] at this; exact absurd this (by decide)
      have nR : ¬ LfR (mkD u0 z nu E1 E2 d1 d2 fa) p := fun h => by have := (lr p hp).mpr h; rw [m2'] at this; exact absurd this (by decide)
      refine .inr (.inr ⟨nP, nR, m2', ?_⟩)
      rw [if_pos (r3 (fun a => nP (fP p a)) (fun b => nR (fR p hp b))), find_no]
      · rfl
      · rintro x ⟨_, q | q⟩
        · have := q.2.2; rw [m2'] at this; exact absurd this (by decide)
        · have := q.2.1; rw [m2'] at this; exact absurd this (by decide)
    · exact absurd hl nl
  · intro p hp hn
    rw [t10]
    rcases mkq p hp with a | a
    · exact absurd a.1 hn
    · exact a.2
  · rw [t18, e2.c0 0 (by decide)]
    refine congrArg nI (count_eq (l := List.range 600) (P := fun q => hA h5 (G4.jd 10) q = nI 0) (Q := fun q => (mkD u0 z nu E1 E2 d1 d2 fa).li q ∧ LfR (mkD u0 z nu E1 E2 d1 d2 fa) q) fun q hq => ?_)
    have hq' := List.mem_range.mp hq
    refine ⟨fun a => ?_, fun a => (lr q hq').mpr a.2⟩
    rcases mkq q hq' with b | b
    · exact ⟨⟨hq', b.1⟩, (lr q hq').mp a⟩
    · have := b.2; rw [show hA h5 (G4.jd 10) q = 0 from a] at this; exact absurd this (by decide)
  · rw [t18, e2.c0 1 (by decide)]
    refine congrArg nI (count_eq (l := List.range 600) (P := fun q => hA h5 (G4.jd 10) q = nI 1) (Q := fun q => (mkD u0 z nu E1 E2 d1 d2 fa).li q ∧ LfP (mkD u0 z nu E1 E2 d1 d2 fa) q) fun q hq => ?_)
    have hq' := List.mem_range.mp hq
    refine ⟨fun a => ?_, fun a => (lp q hq').mpr a.2⟩
    rcases mkq q hq' with b | b
    · exact ⟨⟨hq', b.1⟩, (lp q hq').mp a⟩
    · have := b.2; rw [show hA h5 (G4.jd 10) q = 1 from a] at this; exact absurd this (by decide)
  · rw [t18, e2.c0 2 (by decide)]
    refine congrArg nI (count_eq (l := List.range 600) (P := fun q => hA h5 (G4.jd 10) q = nI 2) (Q := fun q => (mkD u0 z nu E1 E2 d1 d2 fa).li q ∧ ¬ LfP (mkD u0 z nu E1 E2 d1 d2 fa) q ∧ ¬ LfR (mkD u0 z nu E1 E2 d1 d2 fa) q) fun q hq => ?_)
    have hq' := List.mem_range.mp hq
    constructor
    · intro a
      have a' : hA h5 (G4.jd 10) q = 2 := a
      rcases mkq q hq' with b | b
      · exact ⟨⟨hq', b.1⟩, fun h => by have := (lp q hq').mpr h; rw [a'] at this; exact absurd this (by decide), fun h => by have := (lr q hq').mpr h; rw [a'] at this; exact absurd this (by decide)⟩
      · have := b.2; rw [a'] at this; exact absurd this (by decide)
    · rintro ⟨a1, a2, a3⟩
      rcases mkq q hq' with ⟨_, b | b | b⟩ | b
      · exact absurd ((lr q hq').mp b) a3
      · exact absurd ((lp q hq').mp b) a2
      · exact b
      · exact absurd a1.2 b.1
  · rw [t18, e2.c3, eL, count_filter, b3.lp]
    rfl
  · intro k hk
    have e : flT u0 z.np (apl (mkD u0 z nu E1 E2 d1 d2 fa) (LfP (mkD u0 z nu E1 E2 d1 d2 fa))) k L = flS u0 z.np (apl (mkD u0 z nu E1 E2 d1 d2 fa) (LfP (mkD u0 z nu E1 E2 d1 d2 fa))) k (mkD u0 z nu E1 E2 d1 d2 fa).ins := by
      unfold flT flS
      rw [eL, filter_filter', cd_eq (fun x => ⟨fun a => a.2, fun a => ⟨a.2.1, a⟩⟩)]
    have := k4 k hk
    rw [e] at this
    exact this
  · unfold jp3 at g4 ⊢; rw [n7]; exact g4
  · unfold jp3 at g5 ⊢; rw [n7]; exact g5
