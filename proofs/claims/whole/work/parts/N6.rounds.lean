theorem exL {L : List Nat} {Q : Nat → Prop} : (∃ j, j < L.length ∧ Q (L.getD j 0)) ↔ ∃ x, x ∈ L ∧ Q x := by
  constructor
  · rintro ⟨j, h1, h2⟩
    rw [List.getD_eq_getElem?_getD, List.getElem?_eq_getElem h1] at h2
    exact ⟨L[j], List.getElem_mem h1, h2⟩
  · rintro ⟨x, h1, h2⟩
    obtain ⟨j, hj, e⟩ := List.mem_iff_getElem.mp h1
    refine ⟨j, hj, ?_⟩
    rw [List.getD_eq_getElem?_getD, List.getElem?_eq_getElem hj, e]
    exact h2
theorem getD_mem {L : List Nat} {j : Nat} (h : j < L.length) : L.getD j 0 ∈ L := by
  rw [List.getD_eq_getElem?_getD, List.getElem?_eq_getElem h]
  exact List.getElem_mem h
theorem mem_hoL {u : MS} {nu : Nat → Int32} {E1 E2 : Nat → List Tok} {d1 d2 : Int32} {np x : Nat} {l : List Nat} : x ∈ hoL u nu E1 E2 d1 d2 np l ↔ x ∈ l ∧ hox u nu E1 E2 d1 d2 np x := by
  unfold hoL
  rw [List.mem_filter, cd_t]
theorem BM.of {h : PH} {G : Gh} {z : Sz} {u0 : MS} {nu : Nat → Int32} {E1 E2 E3 : Nat → List Tok} {d1 d2 : Int32} {fa : Nat → Prop} {P R : Nat → Prop} (zo : z.ok) (Q : CSt h G z u0 nu E1 E2 E3 d1 d2 (hoL u0 nu E1 E2 d1 d2 z.np (insL z.nr z.np (vN u0)))) (M : MkI h G (hoL u0 nu E1 E2 d1 d2 z.np (insL z.nr z.np (vN u0))) (hdx u0 z.np) (apx u0 z.np P) (blx u0 z.np R) (hoL u0 nu E1 E2 d1 d2 z.np (insL z.nr z.np (vN u0))).length) : BM h G (mkD u0 z nu E1 E2 d1 d2 fa) P R z.nr (inf u0 d1 d2) (fun t => mA u0 40 t = 0) (fun t r => hix u0 (125 * t) (125 * r)) := by
  apply BM.mk
  · exact Q.W.s
  · exact Q.W.j
  · intro p hp
    obtain ⟨⟨m, m1, m2, m3⟩, _⟩ := M p hp
    refine ⟨m, m1, m2, fun t => (m3 t).trans ((exL (Q := fun x => hdx u0 z.np x = p ∧ ¬ blx u0 z.np R x ∧ x / 125 = t)).trans ⟨fun ⟨x, x1, x2, x3, x4⟩ => ⟨x, (mem_hoL.mp x1).1, x2, fun b => ?_, x4⟩, fun ⟨x, x1, x2, x3, x4⟩ => ⟨x, ?_, x2, fun b => x3 (.inr b), x4⟩⟩)⟩
    · rcases b with b | b
      · exact b (mem_hoL.mp x1).2
      · exact x3 b
    · by_cases q : hox u0 nu E1 E2 d1 d2 z.np x
      · exact mem_hoL.mpr ⟨x1, q⟩
      · exact absurd (.inl q) x3
  · intro p hp
    obtain ⟨_, ⟨m, m1, m2, m3⟩⟩ := M p hp
    exact ⟨m, m1, m2, fun t => (m3 t).trans ((exL (Q := fun x => hdx u0 z.np x = p ∧ apx u0 z.np P x ∧ x / 125 = t)).trans ⟨fun ⟨x, x1, x2, x3, x4⟩ => ⟨x, (mem_hoL.mp x1).1, x2, ⟨(mem_hoL.mp x1).2, x3⟩, x4⟩, fun ⟨x, x1, x2, x3, x4⟩ => ⟨x, mem_hoL.mpr ⟨x1, x3.1⟩, x2, x3.2, x4⟩⟩)⟩
  · exact Q.sm'
  · exact Q.bm
  · intro x hx ho
    obtain ⟨r, b, hr, hb, e⟩ := mem_insL.mp hx
    have h125 := pow_le zo.1 (ruV Q.W.k hr).2.1
    exact ⟨by omega, ho.1⟩
  · intro x y
    show hix u0 y x ↔ hix u0 (125 * (y / 125)) (125 * (x / 125))
    unfold hix
    rw [show 125 * (y / 125) / 125 = y / 125 by omega, show 125 * (x / 125) / 125 = x / 125 by omega]
  · exact fun x => Iff.rfl
/-- the class between its rounds -/
def RS (h : PH) (G : Gh) (z : Sz) (u0 : MS) (nu : Nat → Int32) (E1 : Nat → List Tok) (E2 : Nat → List Tok) (E3 : Nat → List Tok) (d1 : Int32) (d2 : Int32) (fa : Nat → Prop) (L : List Nat) : Prop := (CSt h G z u0 nu E1 E2 E3 d1 d2 L) ∧ (MkS h G u0 z) ∧ (∀ j, j < L.length → hA h (G.jd 17) j = 0 ∨ T3 (hA h (G.jd 17) j) (apx u0 z.np (cPr h G) (L.getD j 0)) (blx u0 z.np (cRf h G) (L.getD j 0))) ∧ (∀ q, isBy (hA h (G.jd 17) q)) ∧ (Mrk (mkD u0 z nu E1 E2 d1 d2 fa) (cPr h G) (cRf h G))
theorem RS.Q {h : PH} {G : Gh} {z : Sz} {u0 : MS} {nu : Nat → Int32} {E1 : Nat → List Tok} {E2 : Nat → List Tok} {E3 : Nat → List Tok} {d1 : Int32} {d2 : Int32} {fa : Nat → Prop} {L : List Nat} (X_ : RS h G z u0 nu E1 E2 E3 d1 d2 fa L) : CSt h G z u0 nu E1 E2 E3 d1 d2 L := X_.1
theorem RS.mk' {h : PH} {G : Gh} {z : Sz} {u0 : MS} {nu : Nat → Int32} {E1 : Nat → List Tok} {E2 : Nat → List Tok} {E3 : Nat → List Tok} {d1 : Int32} {d2 : Int32} {fa : Nat → Prop} {L : List Nat} (X_ : RS h G z u0 nu E1 E2 E3 d1 d2 fa L) : MkS h G u0 z := X_.2.1
theorem RS.t2 {h : PH} {G : Gh} {z : Sz} {u0 : MS} {nu : Nat → Int32} {E1 : Nat → List Tok} {E2 : Nat → List Tok} {E3 : Nat → List Tok} {d1 : Int32} {d2 : Int32} {fa : Nat → Prop} {L : List Nat} (X_ : RS h G z u0 nu E1 E2 E3 d1 d2 fa L) : ∀ j, j < L.length → hA h (G.jd 17) j = 0 ∨ T3 (hA h (G.jd 17) j) (apx u0 z.np (cPr h G) (L.getD j 0)) (blx u0 z.np (cRf h G) (L.getD j 0)) := X_.2.2.1
theorem RS.bt {h : PH} {G : Gh} {z : Sz} {u0 : MS} {nu : Nat → Int32} {E1 : Nat → List Tok} {E2 : Nat → List Tok} {E3 : Nat → List Tok} {d1 : Int32} {d2 : Int32} {fa : Nat → Prop} {L : List Nat} (X_ : RS h G z u0 nu E1 E2 E3 d1 d2 fa L) : ∀ q, isBy (hA h (G.jd 17) q) := X_.2.2.2.1
theorem RS.Mr {h : PH} {G : Gh} {z : Sz} {u0 : MS} {nu : Nat → Int32} {E1 : Nat → List Tok} {E2 : Nat → List Tok} {E3 : Nat → List Tok} {d1 : Int32} {d2 : Int32} {fa : Nat → Prop} {L : List Nat} (X_ : RS h G z u0 nu E1 E2 E3 d1 d2 fa L) : Mrk (mkD u0 z nu E1 E2 d1 d2 fa) (cPr h G) (cRf h G) := X_.2.2.2.2
theorem RS.mk {h : PH} {G : Gh} {z : Sz} {u0 : MS} {nu : Nat → Int32} {E1 : Nat → List Tok} {E2 : Nat → List Tok} {E3 : Nat → List Tok} {d1 : Int32} {d2 : Int32} {fa : Nat → Prop} {L : List Nat} (Q_ : CSt h G z u0 nu E1 E2 E3 d1 d2 L) (mk'_ : MkS h G u0 z) (t2_ : ∀ j, j < L.length → hA h (G.jd 17) j = 0 ∨ T3 (hA h (G.jd 17) j) (apx u0 z.np (cPr h G) (L.getD j 0)) (blx u0 z.np (cRf h G) (L.getD j 0))) (bt_ : ∀ q, isBy (hA h (G.jd 17) q)) (Mr_ : Mrk (mkD u0 z nu E1 E2 d1 d2 fa) (cPr h G) (cRf h G)) : RS h G z u0 nu E1 E2 E3 d1 d2 fa L := ⟨Q_, mk'_, t2_, bt_, Mr_⟩
/-- the class's rounds are over -/
def RF (h : PH) (G : Gh) (z : Sz) (u0 : MS) (nu : Nat → Int32) (E1 : Nat → List Tok) (E2 : Nat → List Tok) (E3 : Nat → List Tok) (d1 : Int32) (d2 : Int32) (fa : Nat → Prop) (L : List Nat) : Prop := (CSt h G z u0 nu E1 E2 E3 d1 d2 L) ∧ (MkS h G u0 z) ∧ (∀ j, j < L.length → T3 (hA h (G.jd 17) j) (apx u0 z.np (cPr h G) (L.getD j 0)) (blx u0 z.np (cRf h G) (L.getD j 0))) ∧ (∀ q, isBy (hA h (G.jd 17) q)) ∧ (BM h G (mkD u0 z nu E1 E2 d1 d2 fa) (cPr h G) (cRf h G) z.nr (inf u0 d1 d2) (fun t => mA u0 40 t = 0) (fun t r => hix u0 (125 * t) (125 * r))) ∧ (cPr h G = LfP (mkD u0 z nu E1 E2 d1 d2 fa)) ∧ (cRf h G = LfR (mkD u0 z nu E1 E2 d1 d2 fa))
theorem RF.Q {h : PH} {G : Gh} {z : Sz} {u0 : MS} {nu : Nat → Int32} {E1 : Nat → List Tok} {E2 : Nat → List Tok} {E3 : Nat → List Tok} {d1 : Int32} {d2 : Int32} {fa : Nat → Prop} {L : List Nat} (X_ : RF h G z u0 nu E1 E2 E3 d1 d2 fa L) : CSt h G z u0 nu E1 E2 E3 d1 d2 L := X_.1
theorem RF.mk' {h : PH} {G : Gh} {z : Sz} {u0 : MS} {nu : Nat → Int32} {E1 : Nat → List Tok} {E2 : Nat → List Tok} {E3 : Nat → List Tok} {d1 : Int32} {d2 : Int32} {fa : Nat → Prop} {L : List Nat} (X_ : RF h G z u0 nu E1 E2 E3 d1 d2 fa L) : MkS h G u0 z := X_.2.1
theorem RF.t3 {h : PH} {G : Gh} {z : Sz} {u0 : MS} {nu : Nat → Int32} {E1 : Nat → List Tok} {E2 : Nat → List Tok} {E3 : Nat → List Tok} {d1 : Int32} {d2 : Int32} {fa : Nat → Prop} {L : List Nat} (X_ : RF h G z u0 nu E1 E2 E3 d1 d2 fa L) : ∀ j, j < L.length → T3 (hA h (G.jd 17) j) (apx u0 z.np (cPr h G) (L.getD j 0)) (blx u0 z.np (cRf h G) (L.getD j 0)) := X_.2.2.1
theorem RF.bt {h : PH} {G : Gh} {z : Sz} {u0 : MS} {nu : Nat → Int32} {E1 : Nat → List Tok} {E2 : Nat → List Tok} {E3 : Nat → List Tok} {d1 : Int32} {d2 : Int32} {fa : Nat → Prop} {L : List Nat} (X_ : RF h G z u0 nu E1 E2 E3 d1 d2 fa L) : ∀ q, isBy (hA h (G.jd 17) q) := X_.2.2.2.1
theorem RF.B {h : PH} {G : Gh} {z : Sz} {u0 : MS} {nu : Nat → Int32} {E1 : Nat → List Tok} {E2 : Nat → List Tok} {E3 : Nat → List Tok} {d1 : Int32} {d2 : Int32} {fa : Nat → Prop} {L : List Nat} (X_ : RF h G z u0 nu E1 E2 E3 d1 d2 fa L) : BM h G (mkD u0 z nu E1 E2 d1 d2 fa) (cPr h G) (cRf h G) z.nr (inf u0 d1 d2) (fun t => mA u0 40 t = 0) (fun t r => hix u0 (125 * t) (125 * r)) := X_.2.2.2.2.1
theorem RF.lp {h : PH} {G : Gh} {z : Sz} {u0 : MS} {nu : Nat → Int32} {E1 : Nat → List Tok} {E2 : Nat → List Tok} {E3 : Nat → List Tok} {d1 : Int32} {d2 : Int32} {fa : Nat → Prop} {L : List Nat} (X_ : RF h G z u0 nu E1 E2 E3 d1 d2 fa L) : cPr h G = LfP (mkD u0 z nu E1 E2 d1 d2 fa) := X_.2.2.2.2.2.1
theorem RF.lr {h : PH} {G : Gh} {z : Sz} {u0 : MS} {nu : Nat → Int32} {E1 : Nat → List Tok} {E2 : Nat → List Tok} {E3 : Nat → List Tok} {d1 : Int32} {d2 : Int32} {fa : Nat → Prop} {L : List Nat} (X_ : RF h G z u0 nu E1 E2 E3 d1 d2 fa L) : cRf h G = LfR (mkD u0 z nu E1 E2 d1 d2 fa) := X_.2.2.2.2.2.2
theorem RF.mk {h : PH} {G : Gh} {z : Sz} {u0 : MS} {nu : Nat → Int32} {E1 : Nat → List Tok} {E2 : Nat → List Tok} {E3 : Nat → List Tok} {d1 : Int32} {d2 : Int32} {fa : Nat → Prop} {L : List Nat} (Q_ : CSt h G z u0 nu E1 E2 E3 d1 d2 L) (mk'_ : MkS h G u0 z) (t3_ : ∀ j, j < L.length → T3 (hA h (G.jd 17) j) (apx u0 z.np (cPr h G) (L.getD j 0)) (blx u0 z.np (cRf h G) (L.getD j 0))) (bt_ : ∀ q, isBy (hA h (G.jd 17) q)) (B_ : BM h G (mkD u0 z nu E1 E2 d1 d2 fa) (cPr h G) (cRf h G) z.nr (inf u0 d1 d2) (fun t => mA u0 40 t = 0) (fun t r => hix u0 (125 * t) (125 * r))) (lp_ : cPr h G = LfP (mkD u0 z nu E1 E2 d1 d2 fa)) (lr_ : cRf h G = LfR (mkD u0 z nu E1 E2 d1 d2 fa)) : RF h G z u0 nu E1 E2 E3 d1 d2 fa L := ⟨Q_, mk'_, t3_, bt_, B_, lp_, lr_⟩
def pRd (i : Nat) : Prop := i = 2 ∨ i = 10 ∨ i = 12 ∨ i = 13 ∨ i = 17
def c2m (h : PH) (G : Gh) : Nat := (List.range 600).countP (fun q => decide (hA h (G.jd 10) q = 2))
theorem roundC {h : PH} {G : Gh} {z : Sz} {u0 : MS} {nu : Nat → Int32} {E1 E2 E3 : Nat → List Tok} {d1 d2 : Int32} {fa : Nat → Prop} (zo : z.ok) (ex : Exc (LfP (mkD u0 z nu E1 E2 d1 d2 fa)) (LfR (mkD u0 z nu E1 E2 d1 d2 fa))) (ll : (hoL u0 nu E1 E2 d1 d2 z.np (insL z.nr z.np (vN u0))).length ≤ 3750) (I : RS h G z u0 nu E1 E2 E3 d1 d2 fa (hoL u0 nu E1 E2 d1 d2 z.np (insL z.nr z.np (vN u0)))) : ∃ h1 h2 c, fX5_settleInstances h (G.jd 0) = some h1 ∧ fX5_settleLiterals h1 (G.jd 0) = some (h2, c) ∧ CH G pRd h h2 ∧ hT h1 (G.jd 0) = 6 ∧ b01 c ∧ (c = 0 → RF h2 G z u0 nu E1 E2 E3 d1 d2 fa (hoL u0 nu E1 E2 d1 d2 z.np (insL z.nr z.np (vN u0)))) ∧ (c = 1 → c2m h2 G < c2m h G ∧ RS h2 G z u0 nu E1 E2 E3 d1 d2 fa (hoL u0 nu E1 E2 d1 d2 z.np (insL z.nr z.np (vN u0)))) := by
  have S := I.Q.W.s
  have J := I.Q.W.j
  have v10 : vj 10 := by unfold vj; omega
  have v17 : vj 17 := by unfold vj; omega
  obtain ⟨h1, a1, a2, a3, a4, a5, a6⟩ := settleC zo I.Q I.mk' ll I.t2 I.bt
  have S1 := a3.W.s
  have o10 := (a2.own S J v10 (by decide)).2.2.1
  have B1 := BM.of (fa := fa) zo a3 a4
  obtain ⟨h2, c, b1, b2, b3, b4, b5, b6⟩ := litsC B1 zo.2.2.2.2.1
  have Q2 := a3.ch b2 (fun i hi => by omega) (a3.W.ch2 b2 (by decide))
  have p17 := (b2.own S1 J v17 (by decide)).2.2.1
  have B2 := B1.ch b2 (fun i hi => by omega)
  simp only [o10] at b4 b5 b6
  have cc : CH G pRd h h2 := (a2.mono fun k e => by unfold pRd; omega).trans (b2.mono fun k e => by unfold pRd; omega)
  have mp : ∀ p, cPr h G p → cPr h2 G p := fun p hp => by
    refine ⟨hp.1, ?_⟩
    rcases b4 p hp.1 with a | a
    · rw [a.2]; exact hp.2
    · have := a.1; rw [hp.2] at this; exact absurd this (by decide)
  have mr : ∀ p, cRf h G p → cRf h2 G p := fun p hp => by
    refine ⟨hp.1, ?_⟩
    rcases b4 p hp.1 with a | a
    · rw [a.2]; exact hp.2
    · have := a.1; rw [hp.2] at this; exact absurd this (by decide)
  have l2 : ∀ p, p < 600 → hA h (G.jd 10) p = 2 → isLit (plN u0) z.nw z.np p := fun p hp e => by
    rcases I.mk' p hp with a | a
    · exact a.1
    · have := a.2; rw [e] at this; exact absurd this (by decide)
  have mk2 : MkS h2 G u0 z := fun p hp => by
    rcases b4 p hp with ⟨a, b⟩ | ⟨a, b⟩
    · rw [b]; exact I.mk' p hp
    · refine .inl ⟨l2 p hp a, ?_⟩
      rcases b with q | q | q
      · exact .inr (.inl q.1)
      · exact .inl q.1
      · exact .inr (.inr q.1)
  have nf1 : ∀ p, p < 600 → hA h (G.jd 10) p = 2 → ¬ fa p := fun p hp e hf => by
    have := (I.Mr.fp p hf).2; rw [e] at this; exact absurd this (by decide)
  have nf2 : ∀ p, p < 600 → hA h (G.jd 10) p = 2 → ¬ fa (p ^^^ 1) := fun p hp e hf => by
    have := (I.Mr.fr p ⟨hp, l2 p hp e⟩ hf).2; rw [e] at this; exact absurd this (by decide)
  have Mr2 : Mrk (mkD u0 z nu E1 E2 d1 d2 fa) (cPr h2 G) (cRf h2 G) := by
    refine I.Mr.step mp mr (fun p hp => ?_) (fun p hp => ?_)
    · rcases b4 p hp.1 with ⟨a, b⟩ | ⟨a, b⟩
      · exact .inl ⟨hp.1, by rw [← b]; exact hp.2⟩
      · rcases b with q | q | q
        · exact .inr ⟨⟨hp.1, l2 p hp.1 a⟩, .inr ⟨nf2 p hp.1 a, q.2⟩⟩
        · have := q.1; rw [hp.2] at this; exact absurd this (by decide)
        · have := q.1; rw [hp.2] at this; exact absurd this (by decide)
    · rcases b4 p hp.1 with ⟨a, b⟩ | ⟨a, b⟩
      · exact .inl ⟨hp.1, by rw [← b]; exact hp.2⟩
      · rcases b with q | q | q
        · have := q.1; rw [hp.2] at this; exact absurd this (by decide)
        · exact .inr ⟨⟨hp.1, l2 p hp.1 a⟩, nf1 p hp.1 a, .inr q.2.2⟩
        · have := q.1; rw [hp.2] at this; exact absurd this (by decide)
  refine ⟨h1, h2, c, a1, b1, cc, S1.jt0 J, b3, ?_, ?_⟩
  · intro hc
    have same := b6 hc
    have eP : cPr h2 G = cPr h G := by
      funext p; apply propext; unfold cPr
      exact ⟨fun a => ⟨a.1, by rw [← same p a.1]; exact a.2⟩, fun a => ⟨a.1, by rw [same p a.1]; exact a.2⟩⟩
    have eR : cRf h2 G = cRf h G := by
      funext p; apply propext; unfold cRf
      exact ⟨fun a => ⟨a.1, by rw [← same p a.1]; exact a.2⟩, fun a => ⟨a.1, by rw [same p a.1]; exact a.2⟩⟩
    have fin := I.Mr.fin ex (fun p hl n1 n2 => by
      have hp : p < 600 := hl.1
      have e2 : hA h (G.jd 10) p = 2 := by
        rcases I.mk' p hp with ⟨_, q | q | q⟩ | q
        · exact absurd ⟨hp, q⟩ n2
        · exact absurd ⟨hp, q⟩ n1
        · exact q
        · exact absurd hl.2 q.1
      have nm := b4 p hp
      rw [same p hp, e2] at nm
      rcases nm with a | ⟨_, a | a | a⟩
      · exact absurd rfl a.1
      · exact absurd a.1 (by decide)
      · exact absurd a.1 (by decide)
      · refine ⟨fun q => ?_, fun q => ?_⟩
        · rcases q with q | q
          · exact nf1 p hp e2 q
          · exact a.2.1 q.2
        · rcases q.2 with q | q
          · exact nf2 p hp e2 q
          · exact a.2.2 q)
    refine RF.mk Q2 mk2 (fun j hj => by rw [p17, eP, eR]; exact a5 j hj) (fun q => by rw [p17]; exact a6 q) (by rw [eP, eR]; exact B2) ?_ ?_
    · rw [eP]; funext p; exact propext (fin.1 p)
    · rw [eR]; funext p; exact propext (fin.2 p)
  · intro hc
    refine ⟨?_, RS.mk Q2 mk2 (fun j hj => ?_) (fun q => by rw [p17]; exact a6 q) Mr2⟩
    · obtain ⟨q, q1, q2, q3⟩ := b5 hc
      apply count_lt
      · intro x hx e
        rw [decide_eq_true_iff] at e ⊢
        rcases b4 x (List.mem_range.mp hx) with a | a
        · rw [← a.2]; exact e
        · exact a.1
      · refine ⟨q, List.mem_range.mpr q1, by rw [decide_eq_true_iff]; exact q2, ?_⟩
        rw [decide_eq_false_iff_not]; exact q3
    · rw [p17]
      rcases a5 j hj with ⟨s, b, _⟩ | ⟨s, a, _⟩ | ⟨s, _⟩
      · have b' : blx u0 z.np (cRf h2 G) ((hoL u0 nu E1 E2 d1 d2 z.np (insL z.nr z.np (vN u0))).getD j 0) := by
          obtain ⟨l, l1, l2⟩ := b
          exact ⟨l, l1, mr l l2⟩
        exact .inr (.inl ⟨s, b', fun a => ap_bl a b'⟩)
      · have a' : apx u0 z.np (cPr h2 G) ((hoL u0 nu E1 E2 d1 d2 z.np (insL z.nr z.np (vN u0))).getD j 0) := fun l hl => mp l (a l hl)
        exact .inr (.inr (.inl ⟨s, a', fun b => ap_bl a' b⟩))
      · exact .inl s
theorem roundsC {G : Gh} {z : Sz} {u0 : MS} {nu : Nat → Int32} {E1 E2 E3 : Nat → List Tok} {d1 d2 : Int32} {fa : Nat → Prop} (zo : z.ok) (ex : Exc (LfP (mkD u0 z nu E1 E2 d1 d2 fa)) (LfR (mkD u0 z nu E1 E2 d1 d2 fa))) (ll : (hoL u0 nu E1 E2 d1 d2 z.np (insL z.nr z.np (vN u0))).length ≤ 3750) : ∀ n k f h, k + n = 600 → c2m h G ≤ n → RS h G z u0 nu E1 E2 E3 d1 d2 fa (hoL u0 nu E1 E2 d1 d2 z.np (insL z.nr z.np (vN u0))) → ∃ h', fX11_judge_124 (f + (n + 2)) h (some (G.jd 0)) 1 (nI k) = fX11_judge_153 h' (some (G.jd 0)) ∧ CH G pRd h h' ∧ RF h' G z u0 nu E1 E2 E3 d1 d2 fa (hoL u0 nu E1 E2 d1 d2 z.np (insL z.nr z.np (vN u0))) := by
  intro n
  induction n with
  | zero =>
    intro k f h e hn I
    have S := I.Q.W.s
    have J := I.Q.W.j
    obtain ⟨h1, h2, c, a1, a2, a3, a4, a5, a6, a7⟩ := roundC zo ex ll I
    have ul : fX11_judge_124 (f + (0 + 2)) h (some (G.jd 0)) 1 (nI k) = fX11_judge_124F (fX11_judge_124 (f + 1)) h (some (G.jd 0)) 1 (nI k) := rfl
    rcases a5 with hc | hc
    · refine ⟨h2, ?_, a3, a6 hc⟩
      rw [ul, fX11_judge_124F, if_neg (show ¬ (600 : Int32) < nI k from nI_nlt (a := 600) (by omega) (by omega)), if_neg (by decide), oN_v, oC_d (S.jt0 J), a1, oB_v, oC_d a4, a2, oB2_v, oL_v, hc]
      have ul2 : ∀ y, fX11_judge_124 (f + 1) h2 (some (G.jd 0)) 0 y = fX11_judge_124F (fX11_judge_124 f) h2 (some (G.jd 0)) 0 y := fun _ => rfl
      rw [ul2, fX11_judge_124F, if_pos rfl, ite_self]
    · have := (a7 hc).1
      omega
  | succ n ih =>
    intro k f h e hn I
    have S := I.Q.W.s
    have J := I.Q.W.j
    obtain ⟨h1, h2, c, a1, a2, a3, a4, a5, a6, a7⟩ := roundC zo ex ll I
    have ul : fX11_judge_124 (f + (n + 1 + 2)) h (some (G.jd 0)) 1 (nI k) = fX11_judge_124F (fX11_judge_124 (f + (n + 2))) h (some (G.jd 0)) 1 (nI k) := rfl
    have st : fX11_judge_124 (f + (n + 1 + 2)) h (some (G.jd 0)) 1 (nI k) = fX11_judge_124 (f + (n + 2)) h2 (some (G.jd 0)) c (nI (k + 1)) := by
      rw [ul, fX11_judge_124F, if_neg (show ¬ (600 : Int32) < nI k from nI_nlt (a := 600) (by omega) (by omega)), if_neg (by decide), oN_v, oC_d (S.jt0 J), a1, oB_v, oC_d a4, a2, oB2_v, oL_v, show nI k + 1 = nI (k + 1) from nI_add k 1]
    rcases a5 with hc | hc
    · refine ⟨h2, ?_, a3, a6 hc⟩
      rw [st, hc]
      have ul2 : ∀ y, fX11_judge_124 (f + (n + 2)) h2 (some (G.jd 0)) 0 y = fX11_judge_124F (fX11_judge_124 (f + (n + 1))) h2 (some (G.jd 0)) 0 y := fun _ => rfl
      rw [ul2, fX11_judge_124F, if_pos rfl, ite_self]
    · obtain ⟨h3, b1, b2, b3⟩ := ih (k + 1) f h2 (by omega) (by have := (a7 hc).1; omega) (a7 hc).2
      exact ⟨h3, by rw [st, hc]; exact b1, a3.trans b2, b3⟩
