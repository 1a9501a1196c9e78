/-! the judgment's end: the invariant again -/
def FRm (h : PH) (h' : PH) (G : Gh) (G' : Gh) : Prop := (∃ jj jd ow, G' = Gh.mk G.tk G.wk G.kd G.st G.vl G.pg G.rl G.ca G.hd G.cd G.nr G.nc G.te G.nt jj jd ow) ∧ (Ag (fun b => b < hZ h ∧ G.ow b / 100000 ≠ 5) h h') ∧ (∀ b, b < hZ h → hN h' b = hN h b)
theorem FRm.ge {h : PH} {h' : PH} {G : Gh} {G' : Gh} (X_ : FRm h h' G G') : ∃ jj jd ow, G' = Gh.mk G.tk G.wk G.kd G.st G.vl G.pg G.rl G.ca G.hd G.cd G.nr G.nc G.te G.nt jj jd ow := X_.1
theorem FRm.ag {h : PH} {h' : PH} {G : Gh} {G' : Gh} (X_ : FRm h h' G G') : Ag (fun b => b < hZ h ∧ G.ow b / 100000 ≠ 5) h h' := X_.2.1
theorem FRm.N {h : PH} {h' : PH} {G : Gh} {G' : Gh} (X_ : FRm h h' G G') : ∀ b, b < hZ h → hN h' b = hN h b := X_.2.2
theorem FRm.mk {h : PH} {h' : PH} {G : Gh} {G' : Gh} (ge_ : ∃ jj jd ow, G' = Gh.mk G.tk G.wk G.kd G.st G.vl G.pg G.rl G.ca G.hd G.cd G.nr G.nc G.te G.nt jj jd ow) (ag_ : Ag (fun b => b < hZ h ∧ G.ow b / 100000 ≠ 5) h h') (N_ : ∀ b, b < hZ h → hN h' b = hN h b) : FRm h h' G G' := ⟨ge_, ag_, N_⟩
theorem FRm.gj {P : Nat → Prop} {h h' : PH} {G G' : Gh} (g : GJ P h h' G G') (S : SX h G) (J : G.jj = true) : FRm h h' G G' := by
  refine FRm.mk ?_ (fun b hb => g.out S J hb.1 hb.2) g.N
  obtain ⟨jd, ow, e⟩ := g.ge
  exact ⟨G.jj, jd, ow, e⟩
theorem FRm.made {h hm : PH} {G : Gh} (M : MadeJ h hm) : FRm h hm G (mG h G) := FRm.mk ⟨_, _, _, rfl⟩ (fun b hb => ⟨fun f => M.I f b hb.1, fun f => M.L f b hb.1, fun i => M.A b i hb.1, fun i => M.B b i hb.1⟩) M.N
theorem FRm.trans {h h1 h2 : PH} {G G1 G2 : Gh} (a : FRm h h1 G G1) (b : FRm h1 h2 G1 G2) (z : hZ h ≤ hZ h1) (o : ∀ x, x < hZ h → G1.ow x = G.ow x) : FRm h h2 G G2 := by
  apply FRm.mk
  · obtain ⟨jj, jd, ow, e⟩ := a.ge
    obtain ⟨jj', jd', ow', e'⟩ := b.ge
    exact ⟨jj', jd', ow', by rw [e', e]; rfl⟩
  · intro x hx
    have q1 := a.ag x hx
    have q2 := b.ag x ⟨by have := hx.1; omega, by rw [o x hx.1]; exact hx.2⟩
    exact ⟨fun f => (q2.1 f).trans (q1.1 f), fun f => (q2.2.1 f).trans (q1.2.1 f), fun f => (q2.2.2.1 f).trans (q1.2.2.1 f), fun f => (q2.2.2.2 f).trans (q1.2.2.2 f)⟩
  · intro x hx; rw [b.N x (by omega), a.N x hx]
theorem Iv.jud {h h' : PH} {u u' : MS} {G G' : Gh} {z : Sz} (I : Iv h u G z) (F : FRm h h' G G') (S' : SX h' G') (ag : MAg (fun k => k ≤ 78 ∨ 113 ≤ k) u u') (ju' : IvJ h' u' G' z) : Iv h' u' G' z := by
  have S := I.sx
  have zz := S.zz
  have at' : ∀ {b : Nat}, b < hZ h → G.ow b / 100000 ≠ 5 → (∀ f, hI h' f b = hI h f b) ∧ (∀ f, hL h' f b = hL h f b) ∧ (∀ i, hA h' b i = hA h b i) ∧ ∀ i, hB h' b i = hB h b i := fun l n => F.ag _ ⟨l, n⟩
  have gg : ∀ {n : Nat}, n ≠ 5 → Ag (gr (hZ h) G n) h h' := fun hn b hb => F.ag b ⟨hb.1, by have := hb.2; omega⟩
  have o0 := (at' (b := 0) (by omega) (by rw [S.o0]; omega)).1
  have o1 := (at' (b := 1) (by omega) (by rw [S.o1]; omega)).1
  have o3 := (at' (b := 3) (by omega) (by rw [S.o3]; omega)).1
  have o5 := (at' (b := 5) (by omega) (by rw [S.o5]; omega)).1
  have o6 := (at' (b := 6) (by omega) (by rw [S.o6]; omega)).1
  have o8 := (at' (b := 8) (by omega) (by rw [S.o8]; omega)).1
  have o10 := (at' (b := 10) (by omega) (by rw [S.o10]; omega)).1
  have o12 := (at' (b := 12) (by omega) (by rw [S.o12]; omega)).1
  have o14 := (at' (b := 14) (by omega) (by rw [S.o14]; omega)).1
  have o17 := (at' (b := 17) (by omega) (by rw [S.o17]; omega)).2.2.1
  have o25 := (at' (b := 25) (by omega) (by rw [S.o25]; omega)).2.2.2
  have ltk := S.lt S.ttk (by omega)
  have lwk := S.lt S.twk (by omega)
  have lkd := S.lt S.tkd (by omega)
  have lst := S.lt S.tst (by omega)
  have lvl := S.lt S.tvl (by omega)
  have lpg := S.lt S.tpg (by omega)
  have otk := (at' ltk (by rw [S.otk]; omega)).2.2.1
  have owk := (at' lwk (by rw [S.owk]; omega)).2.2.1
  have ntk := F.N _ ltk
  have nwk := F.N _ lwk
  have nkd := F.N _ lkd
  have nst := F.N _ lst
  have nvl := F.N _ lvl
  have npg := F.N _ lpg
  have m : ∀ k, k ≤ 78 ∨ 113 ≤ k → mI u' k = mI u k ∧ (∀ i, mA u' k i = mA u k i) ∧ ∀ i, mB u' k i = mB u k i := fun k hk => ⟨(ag k hk).1, (ag k hk).2.2.1, (ag k hk).2.2.2⟩
  have kr := I.kr.fr (u' := u') S (gg (n := 3) (by decide)) (ag.mono fun k hk => by unfold kS at hk; omega)
  have te := I.te.fr (u' := u') S (o0 1413) (gg (n := 4) (by decide)) (ag.mono fun k hk => by unfold tS at hk; omega) (fun i _ => (m 28 (by omega)).2.1 i)
  have tp := I.tp.fr (u' := u') ntk (o1 1) otk (m 2 (by omega)).1 (m 1 (by omega)).2.1
  have ou := I.ou.fr (u' := u') nwk (o3 1) owk (m 113 (by omega)).1 (m 114 (by omega)).2.1
  obtain ⟨jj, jd, ow, e⟩ := F.ge
  subst e
  apply Iv.mk
  · exact S'
  · exact I.zo
  · unfold SzC
    rw [o6, o8, o10, o12, o14, o5, o5]; exact I.zc
  · unfold SzK
    rw [o6, o8, o10, o12, o14, o5, o5]; exact I.zk
  · exact I.zm.fr (ag.mono fun k hk => .inl hk)
  · exact kr
  · have R := I.rm
    apply RmR.mk
    · show hN h' G.st = hN h' G.kd; rw [nst, nkd]; exact R.k1
    · show hN h' G.vl = hN h' G.kd; rw [nvl, nkd]; exact R.k2
    · show hN h' G.kd ≤ 1201; rw [nkd]; exact R.k3
    · show z.pc ≤ hN h' G.pg; rw [npg]; exact R.p1
    · show 16 ≤ hN h' G.pg; rw [npg]; exact R.p2
    · show hN h' G.pg ≤ 131072; rw [npg]; exact R.p3
    · exact R.p4
    · exact R.p5
    · intro i hi; rw [o25]; exact R.kc i hi
    · intro i hi; rw [(m 9 (by omega)).2.2]; exact R.km i hi
  · exact tp
  · exact ou
  · obtain ⟨d, d1, d2, d3⟩ := I.dy
    exact ⟨d, d1, by rw [o0]; exact d2, by rw [(m 72 (by omega)).1]; exact d3⟩
  · exact I.nu.fr o17 (m 26 (by omega)).2.1
  · exact te
  · rw [o0, (m 17 (by omega)).1]; exact I.pl
  · exact ju'
theorem okQ_b {q : Qq} (o : okQ q) : -1000000000 ≤ q.1 ∧ q.1 ≤ 1000000000 ∧ 0 ≤ q.2 ∧ q.2 ≤ 1000000000 ∧ ¬ q.2 = 0 := by
  obtain ⟨a, b, c, _⟩ := o
  have e0 : (0 : Int64).toInt = 0 := by decide
  refine ⟨?_, ?_, ?_, ?_, ?_⟩
  · rw [Int64.le_iff_toInt_le, gm_32]; omega
  · rw [Int64.le_iff_toInt_le, g1_32]; omega
  · rw [Int64.le_iff_toInt_le, e0]; omega
  · rw [Int64.le_iff_toInt_le, g1_32]; omega
  · intro e; rw [e, e0] at b; omega
/-- both judgments together -/
theorem jr_v {h' : PH} {u u' : MS} {G' : Gh} {z : Sz} {D : Mdl} {nu : Nat → Int32} {E1 E2 E3 : Nat → List Tok} {d1 d2 : Int32} {fa : Nat → Prop} {h0 : PH} {G0 : Gh} (K : KR h0 u G0 z) (zo : z.ok) (eD : D = mkD u z nu E1 E2 d1 d2 fa) (C : JC h' G' z u D nu E3) (E : JE u u' z D nu E3) : JR h' u' G' z z.np z.nw z.ns := by
  have pl : plN u' = plN u := by funext w; unfold plN; rw [(E.ag 28 (.inl (by decide))).2.2.1]
  have li : ∀ p, p < 600 → isLit (plN u) z.nw z.np p → D.li p := fun p hp hl => by rw [eD]; exact ⟨hp, hl⟩
  have key : ∀ p, p < 600 → isLit (plN u) z.nw z.np p → hA h' (G'.jd 10) p = mA u' 104 p ∧ RsM D p (mA u' 104 p) (hA h' (G'.jd 11) p) ∧ RsR u' z.nr z.np (mA u' 104 p) (hA h' (G'.jd 11) p) p := fun p hp hl => by
    obtain ⟨x, x1, x2⟩ := E.jm.mr p hp (li p hp hl)
    have k := C.mr p hp hl
    have q := x1.uniq E.ex k
    rw [q.1, q.2] at k
    exact ⟨q.1, by rw [q.2]; exact x1, by rw [q.2]; exact x2⟩
  apply JR.mk
  · exact Nat.le_refl _
  · exact Nat.le_refl _
  · exact Nat.le_refl _
  · exact C.m2
  · exact E.m97
  · exact C.m3
  · exact E.m98
  · exact C.m4
  · exact E.m99
  · intro p hp hl
    rw [pl] at hl
    obtain ⟨a, b, _⟩ := key p hp hl
    refine ⟨a, ?_⟩
    rcases b with b | b | b
    · exact .inr (.inl b.2.1)
    · exact .inl b.2.1
    · exact .inr (.inr b.2.2.1)
  · intro p hp hl
    rw [pl] at hl
    exact C.mn p hp hl
  · intro p hp hl
    rw [pl] at hl
    exact (key p hp hl).2.2
  · rw [C.c0, E.jm.c1]
  · rw [C.c1, E.jm.c0]
  · rw [C.c2, E.jm.c2]
  · rw [C.c3, E.c3]
  · intro k hk h1 h2
    have a := C.su k hk
    have b := E.su (k / 5) (k % 5) h1 h2
    rw [show 5 * (k / 5) + k % 5 = k by omega] at b
    obtain ⟨b1, b2⟩ := b
    have o := finS_ok b2
    generalize finS (smS (kdx u) (vlx u z.np nu E3) (flS u z.np (apl D (LfP D)) k D.ins)) = t at a b1 o
    cases t with
    | none =>
      obtain ⟨a1, a2, a3⟩ := a
      obtain ⟨b1, b3, b4, b5⟩ := b1
      refine ⟨by rw [a1, b1], by rw [a2, b4], by rw [a3, b5], ?_, ?_, ?_, ?_, ?_⟩
      · rw [b4]; decide
      · rw [b4]; decide
      · rw [b5]; decide
      · rw [b5]; decide
      · rw [b3, b5, if_pos rfl]
    | some q =>
      obtain ⟨a1, a2, a3⟩ := a
      obtain ⟨b1, b3, b4, b5⟩ := b1
      obtain ⟨q1, q2, q3, q4, q5⟩ := okQ_b (o q rfl)
      exact ⟨by rw [a1, b1], by rw [a2, b4], by rw [a3, b5], by rw [b4]; exact q1, by rw [b4]; exact q2, by rw [b5]; exact q3, by rw [b5]; exact q4, by rw [b3, b5, if_neg q5]⟩
  · intro k hk hn
    have a := C.su k hk
    have nil : flS u z.np (apl D (LfP D)) k D.ins = [] := by
      unfold flS
      rw [List.filter_eq_nil_iff]
      intro x hx hc
      have e := (cd_t.mp hc).1
      rw [eD] at hx
      obtain ⟨r, b, hr, hb, ex⟩ := mem_insL.mp hx
      rw [ex] at e
      exact hn (hd_kind K zo hr hb e).2
    rw [nil] at a
    generalize finS (smS (kdx u) (vlx u z.np nu E3) []) = t at a
    cases t with
    | none => rw [a.1]; rfl
    | some q => rw [a.1]; rfl
