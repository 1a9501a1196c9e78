/-- what a judgment leaves in the class -/
def JC (h : PH) (G : Gh) (z : Sz) (u0 : MS) (D : Mdl) (nu : Nat → Int32) (E3 : Nat → List Tok) : Prop := (JS h G) ∧ (hI h 642 (G.jd 0) = nI z.np) ∧ (hI h 643 (G.jd 0) = nI z.nw) ∧ (hI h 644 (G.jd 0) = nI z.ns) ∧ (∀ p, p < 600 → isLit (plN u0) z.nw z.np p → RsM D p (hA h (G.jd 10) p) (hA h (G.jd 11) p)) ∧ (∀ p, p < 600 → ¬ isLit (plN u0) z.nw z.np p → hA h (G.jd 10) p = -1) ∧ (hA h (G.jd 18) 0 = nI ((List.range 600).countP (cd fun q => D.li q ∧ LfR D q))) ∧ (hA h (G.jd 18) 1 = nI ((List.range 600).countP (cd fun q => D.li q ∧ LfP D q))) ∧ (hA h (G.jd 18) 2 = nI ((List.range 600).countP (cd fun q => D.li q ∧ ¬ LfP D q ∧ ¬ LfR D q))) ∧ (hA h (G.jd 18) 3 = nI (D.ins.countP (cd (apl D (LfP D))))) ∧ (∀ k, k < 20 → SmC h G k (flS u0 z.np (apl D (LfP D)) k D.ins).length (finS (smS (kdx u0) (vlx u0 z.np nu E3) (flS u0 z.np (apl D (LfP D)) k D.ins))))
theorem JC.js {h : PH} {G : Gh} {z : Sz} {u0 : MS} {D : Mdl} {nu : Nat → Int32} {E3 : Nat → List Tok} (X_ : JC h G z u0 D nu E3) : JS h G := X_.1
theorem JC.m2 {h : PH} {G : Gh} {z : Sz} {u0 : MS} {D : Mdl} {nu : Nat → Int32} {E3 : Nat → List Tok} (X_ : JC h G z u0 D nu E3) : hI h 642 (G.jd 0) = nI z.np := X_.2.1
theorem JC.m3 {h : PH} {G : Gh} {z : Sz} {u0 : MS} {D : Mdl} {nu : Nat → Int32} {E3 : Nat → List Tok} (X_ : JC h G z u0 D nu E3) : hI h 643 (G.jd 0) = nI z.nw := X_.2.2.1
theorem JC.m4 {h : PH} {G : Gh} {z : Sz} {u0 : MS} {D : Mdl} {nu : Nat → Int32} {E3 : Nat → List Tok} (X_ : JC h G z u0 D nu E3) : hI h 644 (G.jd 0) = nI z.ns := X_.2.2.2.1
theorem JC.mr {h : PH} {G : Gh} {z : Sz} {u0 : MS} {D : Mdl} {nu : Nat → Int32} {E3 : Nat → List Tok} (X_ : JC h G z u0 D nu E3) : ∀ p, p < 600 → isLit (plN u0) z.nw z.np p → RsM D p (hA h (G.jd 10) p) (hA h (G.jd 11) p) := X_.2.2.2.2.1
theorem JC.mn {h : PH} {G : Gh} {z : Sz} {u0 : MS} {D : Mdl} {nu : Nat → Int32} {E3 : Nat → List Tok} (X_ : JC h G z u0 D nu E3) : ∀ p, p < 600 → ¬ isLit (plN u0) z.nw z.np p → hA h (G.jd 10) p = -1 := X_.2.2.2.2.2.1
theorem JC.c0 {h : PH} {G : Gh} {z : Sz} {u0 : MS} {D : Mdl} {nu : Nat → Int32} {E3 : Nat → List Tok} (X_ : JC h G z u0 D nu E3) : hA h (G.jd 18) 0 = nI ((List.range 600).countP (cd fun q => D.li q ∧ LfR D q)) := X_.2.2.2.2.2.2.1
theorem JC.c1 {h : PH} {G : Gh} {z : Sz} {u0 : MS} {D : Mdl} {nu : Nat → Int32} {E3 : Nat → List Tok} (X_ : JC h G z u0 D nu E3) : hA h (G.jd 18) 1 = nI ((List.range 600).countP (cd fun q => D.li q ∧ LfP D q)) := X_.2.2.2.2.2.2.2.1
theorem JC.c2 {h : PH} {G : Gh} {z : Sz} {u0 : MS} {D : Mdl} {nu : Nat → Int32} {E3 : Nat → List Tok} (X_ : JC h G z u0 D nu E3) : hA h (G.jd 18) 2 = nI ((List.range 600).countP (cd fun q => D.li q ∧ ¬ LfP D q ∧ ¬ LfR D q)) := X_.2.2.2.2.2.2.2.2.1
theorem JC.c3 {h : PH} {G : Gh} {z : Sz} {u0 : MS} {D : Mdl} {nu : Nat → Int32} {E3 : Nat → List Tok} (X_ : JC h G z u0 D nu E3) : hA h (G.jd 18) 3 = nI (D.ins.countP (cd (apl D (LfP D)))) := X_.2.2.2.2.2.2.2.2.2.1
theorem JC.su {h : PH} {G : Gh} {z : Sz} {u0 : MS} {D : Mdl} {nu : Nat → Int32} {E3 : Nat → List Tok} (X_ : JC h G z u0 D nu E3) : ∀ k, k < 20 → SmC h G k (flS u0 z.np (apl D (LfP D)) k D.ins).length (finS (smS (kdx u0) (vlx u0 z.np nu E3) (flS u0 z.np (apl D (LfP D)) k D.ins))) := X_.2.2.2.2.2.2.2.2.2.2
theorem JC.mk {h : PH} {G : Gh} {z : Sz} {u0 : MS} {D : Mdl} {nu : Nat → Int32} {E3 : Nat → List Tok} (js_ : JS h G) (m2_ : hI h 642 (G.jd 0) = nI z.np) (m3_ : hI h 643 (G.jd 0) = nI z.nw) (m4_ : hI h 644 (G.jd 0) = nI z.ns) (mr_ : ∀ p, p < 600 → isLit (plN u0) z.nw z.np p → RsM D p (hA h (G.jd 10) p) (hA h (G.jd 11) p)) (mn_ : ∀ p, p < 600 → ¬ isLit (plN u0) z.nw z.np p → hA h (G.jd 10) p = -1) (c0_ : hA h (G.jd 18) 0 = nI ((List.range 600).countP (cd fun q => D.li q ∧ LfR D q))) (c1_ : hA h (G.jd 18) 1 = nI ((List.range 600).countP (cd fun q => D.li q ∧ LfP D q))) (c2_ : hA h (G.jd 18) 2 = nI ((List.range 600).countP (cd fun q => D.li q ∧ ¬ LfP D q ∧ ¬ LfR D q))) (c3_ : hA h (G.jd 18) 3 = nI (D.ins.countP (cd (apl D (LfP D))))) (su_ : ∀ k, k < 20 → SmC h G k (flS u0 z.np (apl D (LfP D)) k D.ins).length (finS (smS (kdx u0) (vlx u0 z.np nu E3) (flS u0 z.np (apl D (LfP D)) k D.ins)))) : JC h G z u0 D nu E3 := ⟨js_, m2_, m3_, m4_, mr_, mn_, c0_, c1_, c2_, c3_, su_⟩
def fax3 (h : PH) (G : Gh) (u0 : MS) (z : Sz) (fa : Nat → Prop) : Prop := ∀ q, q < 600 → (fa q → hA h (G.jd 10) q = 1 ∧ hA h (G.jd 11) q = -2) ∧ (fa (q ^^^ 1) → hA h (G.jd 10) q = 0 ∧ hA h (G.jd 11) q = -2) ∧ (¬ fa q → ¬ fa (q ^^^ 1) → ((isLit (plN u0) z.nw z.np q ∧ hA h (G.jd 10) q = 2) ∨ (¬ isLit (plN u0) z.nw z.np q ∧ hA h (G.jd 10) q = -1)) ∧ hA h (G.jd 11) q = -1)
/-- the start: begun, heard, the facts -/
theorem judge1C {h : PH} {G : Gh} {z : Sz} {u0 : MS} {nu : Nat → Int32} {E1 E2 E3 : Nat → List Tok} {d1 d2 : Int32} (W : CEv h G z u0 nu E1 E2 E3) (zo : z.ok) (T : TeR h u0 G z) : ∃ h3, fX11_judge_41 h 0 d1 d2 (some (G.jd 0)) = fX11_judge_89 FU h3 0 d1 d2 (some (G.jd 0)) 0 ∧ CH G (fun k => k = 0 ∨ k = 9 ∨ k = 10 ∨ k = 11 ∨ k = 18) h h3 ∧ hI h3 642 (G.jd 0) = nI z.np ∧ hI h3 643 (G.jd 0) = nI z.nw ∧ hI h3 644 (G.jd 0) = nI z.ns ∧ hI h3 651 (G.jd 0) = 0 ∧ hI h3 655 (G.jd 0) = 0 ∧ fax3 h3 G u0 z (fax u0 d1 d2 G.nt) ∧ ∀ q, q < 4 → hA h3 (G.jd 18) q = 0 := by
  have S := W.s
  have J := W.j
  have n100 := S.nt100
  have v0 : vj 0 := by unfold vj; omega
  have v9 : vj 9 := by unfold vj; omega
  have v10 : vj 10 := by unfold vj; omega
  have v11 : vj 11 := by unfold vj; omega
  have v18 : vj 18 := by unfold vj; omega
  obtain ⟨h1, a1, A⟩ := beginC W zo
  have S1 := A.ch.sx S
  have T1 : TeR h1 u0 G z := T.fr S ((A.ch.out S J (a := 0) (by rw [S.o0]; omega)).1 _) (A.ch.gr S J (by decide)) (MAg.refl u0) (fun _ _ => rfl)
  obtain ⟨f, hf⟩ : ∃ f', FU = f' + (G.nt + 1) := ⟨FU - (G.nt + 1), by have : FU = 100000 := rfl; omega⟩
  obtain ⟨h2, b1, b2, b3⟩ := hearL (d1 := d1) (d2 := d2) J G.nt 0 f h1 (by omega) S1 T1 (fun q hq => by rw [A.a9 q hq]; rfl)
  have S2 := b2.sx S1
  have p10 := (b2.own S1 J v10 (by decide)).2.2.1
  have p11 := (b2.own S1 J v11 (by decide)).2.2.1
  have tb : ∀ q, q < 600 → tly u0 d1 d2 G.nt q ≤ 900 := fun q _ => Nat.le_trans (tly_le fun k hk => by
    obtain ⟨p, w, _, _, hw, _, _, _, _, _, e, _⟩ := T.te k hk
    rw [e, nI_clamp (by omega)]; exact hw) (by omega)
  obtain ⟨h3, c1, c2, c3⟩ := factsL (h0 := h2) (T := fun q => tly u0 d1 d2 G.nt q) J tb 600 0 99399 h2 rfl S2 b3 (fun q hq => ⟨fun h => by omega, fun h => by omega, fun _ _ => ⟨rfl, rfl⟩⟩)
  have q0 := (c2.own S2 J v0 (by decide)).1
  have p0 := (b2.own S1 J v0 (by decide)).1
  refine ⟨h3, ?_, ?_, ?_, ?_, ?_, ?_, ?_, ?_, ?_⟩
  · rw [fX11_judge_41, oC_d S.t0, sR_same (S.jY J), oL_v, oN_v, oC_d (S.jt0 J), a1, oB_v, hf, show (0 : Int32) = nI 0 from rfl, b1, fX5_findFacts, fX5_findFacts_0, show FU = 99399 + (600 + 1) from rfl, show (0 : Int32) = nI 0 from rfl, c1, oB_v, ← hf]
    rfl
  · exact (A.ch.trans (b2.mono fun k e => by omega)).trans (c2.mono fun k e => by omega)
  · rw [q0, p0]; exact A.m2
  · rw [q0, p0]; exact A.m3
  · rw [q0, p0]; exact A.m4
  · rw [q0, p0]; exact A.m51
  · rw [q0, p0]; exact A.m55
  · intro q hq
    obtain ⟨f1, f2, f3⟩ := c3 q hq
    have hx := xor1_lt hq
    have xx := xor1_xor hq
    refine ⟨fun k => f1 ⟨hq, k⟩, fun k => f2 ⟨hx, k.1, by have := k.2; rw [xx] at this; exact this⟩, fun k1 k2 => ?_⟩
    have := f3 (fun k => k1 k.2) (fun k => k2 ⟨k.2.1, by rw [xx]; exact k.2.2⟩)
    rw [this.1, this.2, p10, p11]
    exact ⟨A.a10 q hq, A.a11 q hq⟩
  · intro q hq
    rw [(c2.own S2 J v18 (by decide)).2.2.1, (b2.own S1 J v18 (by decide)).2.2.1]; exact A.a18 q hq
