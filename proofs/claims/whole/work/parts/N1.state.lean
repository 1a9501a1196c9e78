/-! the class settles: an instance's state -/
def cPr (h : PH) (G : Gh) (p : Nat) : Prop := p < 600 ∧ hA h (G.jd 10) p = 1
def cRf (h : PH) (G : Gh) (p : Nat) : Prop := p < 600 ∧ hA h (G.jd 10) p = 0
def MkS (h : PH) (G : Gh) (u0 : MS) (z : Sz) : Prop := ∀ p, p < 600 → (isLit (plN u0) z.nw z.np p ∧ (hA h (G.jd 10) p = 0 ∨ hA h (G.jd 10) p = 1 ∨ hA h (G.jd 10) p = 2)) ∨ (¬ isLit (plN u0) z.nw z.np p ∧ hA h (G.jd 10) p = -1)
theorem boundC {h : PH} {G : Gh} {z : Sz} {u0 : MS} {nu : Nat → Int32} {E1 E2 E3 : Nat → List Tok} {r b : Nat} (W : CEv h G z u0 nu E1 E2 E3) (zo : z.ok) (m2 : hI h 642 (G.jd 0) = nI z.np) (hr : r < z.nr) (hb : b < z.np ^ vN u0 r) : ∃ h', fX5_bound h (G.jd 0) (nI (125 * r + b)) = some (h', some (G.rl r)) ∧ CH G (fun i => i = 2) h h' ∧ CEv h' G z u0 nu E1 E2 E3 ∧ WC h' G (bt z.np (vN u0 r) b) (vN u0 r) z.np z.pc nu := by
  have S := W.s
  have J := W.j
  have nr := zo.2.2.2.2.1
  have kn := W.k.nrG
  obtain ⟨m42, v3, m41, c6⟩ := ruV W.k hr
  have h125 := pow_le zo.1 v3
  have hx : 125 * r + b < 3750 := by omega
  have id := inst_n (r := r) (b := b) (by omega)
  have e1 : nI (125 * r + b) / 125 = nI r := by rw [nI_d125 hx, id.1]
  have e2 : nI (125 * r + b) - nI (125 * r + b) / 125 * 125 = nI b := by
    rw [show (125 : Int32) = nI 125 from rfl, nI_mod (show 125 * r + b < 2147483648 by omega) (by decide), id.2]
  have ra : fX1_ruleAt h 5 (nI r) = some (some (G.rl r)) := ruleAt_v S W.c.2.2.2.2.1 kn hr
  obtain ⟨l', kk, n, v, q1, q2, q3, q4, q5, q6, q7, q8, q9, qa, qb, qc, qd, qe, qf⟩ := W.k.ru r hr
  have ev : vN u0 r = v := by unfold vN; rw [qd, nI_clamp (by omega)]
  obtain ⟨h1, a1, a2, a3, a4⟩ := bindC (b := b) S J (pow_pos' hb) zo.1 v3 (show b < 1000 by omega)
  obtain ⟨W1, B1⟩ := W.wc zo v3 (pow_pos' hb) a2 a3 a4
  refine ⟨h1, ?_, a2, W1, B1⟩
  rw [fX5_bound, fX5_bound_0, if_pos (nI_pos' (by omega)), oC_d (S.jt0 J), S.jr640 J, oN_v, oC_d S.t5, e1, ra, oB_v, fX5_bound_19, if_neg (by simp), oC_d (S.jt0 J), oN_v, oC_d (S.rlT r (by omega)), S.jr641 J, oN_v, oC_d (S.jt1 J), e2, qc, ← ev, m2, a1, oB_v]
theorem st17 {h : PH} {G : Gh} {z : Sz} {u0 : MS} {nu : Nat → Int32} {E1 E2 E3 : Nat → List Tok} {β : Nat → Nat} {r : Nat} (W : CEv h G z u0 nu E1 E2 E3) (zo : z.ok) (B : WC h G β (vN u0 r) z.np z.pc nu) (hr : r < z.nr) (mk : MkS h G u0 z) : ∀ m k f x3, k + m = cN u0 r → ((x3 = 1 ∧ ∀ i, i < k → mA u0 51 (6 * r + i) = 0 → cPr h G (ltc u0 β (6 * r + i))) ∨ (x3 = 0 ∧ ∃ i, i < k ∧ mA u0 51 (6 * r + i) = 0 ∧ ¬ cPr h G (ltc u0 β (6 * r + i)))) → (∀ i, i < k → mA u0 51 (6 * r + i) = 0 → ¬ cRf h G (ltc u0 β (6 * r + i))) → ∃ x, fX5_stateOf_17 (f + (m + 1)) h (G.jd 0) (some (G.rl r)) x3 (nI k) = some (h, x) ∧ ((x = 2 ∧ ∃ i, i < cN u0 r ∧ mA u0 51 (6 * r + i) = 0 ∧ cRf h G (ltc u0 β (6 * r + i))) ∨ (x = 1 ∧ (∀ i, i < cN u0 r → mA u0 51 (6 * r + i) = 0 → cPr h G (ltc u0 β (6 * r + i))) ∧ ∀ i, i < cN u0 r → mA u0 51 (6 * r + i) = 0 → ¬ cRf h G (ltc u0 β (6 * r + i))) ∨ (x = 0 ∧ (∃ i, i < cN u0 r ∧ mA u0 51 (6 * r + i) = 0 ∧ ¬ cPr h G (ltc u0 β (6 * r + i))) ∧ ∀ i, i < cN u0 r → mA u0 51 (6 * r + i) = 0 → ¬ cRf h G (ltc u0 β (6 * r + i))))
  | 0, k, f, x3, e, h1, h2 => by
    have S := W.s
    have kn := W.k.nrG
    obtain ⟨l', kk, n, v, q1, q2, q3, q4, q5, q6, q7, q8, q9, qa, qb, qc, qd, qe, qf⟩ := W.k.ru r hr
    have en : cN u0 r = n := by unfold cN; rw [qb, nI_clamp (by omega)]
    have ek : k = n := by rw [← en]; exact e
    have ul : fX5_stateOf_17 (f + (0 + 1)) h (G.jd 0) (some (G.rl r)) x3 (nI k) = fX5_stateOf_17F (fX5_stateOf_17 f) h (G.jd 0) (some (G.rl r)) x3 (nI k) := rfl
    refine ⟨x3, by rw [ul, fX5_stateOf_17F, oN_v, oC_d (S.rlT r (by omega)), qa, if_pos (nI_le (by omega) (by omega))], ?_⟩
    rw [en, ← ek]
    rcases h1 with ⟨a, b⟩ | ⟨a, b⟩
    · exact .inr (.inl ⟨a, b, h2⟩)
    · exact .inr (.inr ⟨a, b, h2⟩)
  | m + 1, k, f, x3, e, h1, h2 => by
    have S := W.s
    have J := W.j
    have kn := W.k.nrG
    have hk : k < cN u0 r := by omega
    obtain ⟨l', kk, n, v, q1, q2, q3, q4, q5, q6, q7, q8, q9, qa, qb, qc, qd, qe, qf⟩ := W.k.ru r hr
    have en : cN u0 r = n := by unfold cN; rw [qb, nI_clamp (by omega)]
    have ev : vN u0 r = v := by unfold vN; rw [qd, nI_clamp (by omega)]
    have ul : fX5_stateOf_17 (f + (m + 1 + 1)) h (G.jd 0) (some (G.rl r)) x3 (nI k) = fX5_stateOf_17F (fX5_stateOf_17 (f + (m + 1))) h (G.jd 0) (some (G.rl r)) x3 (nI k) := rfl
    have e1 : nI k + 1 = nI (k + 1) := nI_add k 1
    have cT := S.cdT r (by omega) k (show k < G.nc r by omega)
    rw [ul, fX5_stateOf_17F, oN_v, oC_d (S.rlT r (by omega)), qa, if_neg (nI_ge (by omega) (by omega)), S.caR r (by omega), oN_v, oC_d (S.caT r (by omega)), S.caN r (by omega), oC_t (ix_n (show k < 6 by omega) (by decide)), nI_clamp (show k < 2147483648 by omega), S.cdC r (by omega) k (by omega), oL_v, if_neg (by simp), oN_v, oC_d cT]
    have other : ¬ hI h 256 (G.cd r k) = 260 → ¬ mA u0 51 (6 * r + k) = 0 → ∃ x, (if hI h 256 (G.cd r k) = 260 then fX5_stateOf_56 (fX5_stateOf_17 (f + (m + 1))) h (G.jd 0) (some (G.rl r)) x3 (nI k) (some (G.cd r k)) 1 else fX5_stateOf_56 (fX5_stateOf_17 (f + (m + 1))) h (G.jd 0) (some (G.rl r)) x3 (nI k) (some (G.cd r k)) 0) = some (h, x) ∧ ((x = 2 ∧ ∃ i, i < cN u0 r ∧ mA u0 51 (6 * r + i) = 0 ∧ cRf h G (ltc u0 β (6 * r + i))) ∨ (x = 1 ∧ (∀ i, i < cN u0 r → mA u0 51 (6 * r + i) = 0 → cPr h G (ltc u0 β (6 * r + i))) ∧ ∀ i, i < cN u0 r → mA u0 51 (6 * r + i) = 0 → ¬ cRf h G (ltc u0 β (6 * r + i))) ∨ (x = 0 ∧ (∃ i, i < cN u0 r ∧ mA u0 51 (6 * r + i) = 0 ∧ ¬ cPr h G (ltc u0 β (6 * r + i))) ∧ ∀ i, i < cN u0 r → mA u0 51 (6 * r + i) = 0 → ¬ cRf h G (ltc u0 β (6 * r + i)))) := by
      intro n1 n2
      rw [if_neg n1, fX5_stateOf_56, if_pos rfl, fX5_stateOf_81, if_neg (by decide), if_pos rfl, fX5_stateOf_101, oL_v, e1]
      refine st17 W zo B hr mk m (k + 1) f x3 (by omega) ?_ (fun i hi h0 => ?_)
      · rcases h1 with ⟨a, b⟩ | ⟨a, i, b, c⟩
        · refine .inl ⟨a, fun i hi h0 => ?_⟩
          by_cases c : i = k
          · rw [c] at h0; exact absurd h0 n2
          · exact b i (by omega) h0
        · exact .inr ⟨a, i, by omega, c⟩
      · by_cases c : i = k
        · rw [c] at h0; exact absurd h0 n2
        · exact h2 i (by omega) h0
    rcases qf k (by omega) with ⟨c1, c2, c3⟩ | ⟨c1, c2, _⟩ | ⟨c1, c2, _⟩ | ⟨c1, c2, _⟩
    · rw [← ev] at c3
      have lc := c3.c B cT zo
      have ll := c3.lit (β := β) zo (fun w hw => (B.b w hw).2)
      have lc' : fX6_literalOf h (G.jd 1) (some (G.cd r k)) = some (nI (ltc u0 β (6 * r + k))) := lc
      have l6 : ltc u0 β (6 * r + k) < 600 := ll.2
      have ml : hA h (G.jd 10) (ltc u0 β (6 * r + k)) = 0 ∨ hA h (G.jd 10) (ltc u0 β (6 * r + k)) = 1 ∨ hA h (G.jd 10) (ltc u0 β (6 * r + k)) = 2 := by
        rcases mk _ l6 with a | a
        · exact a.2
        · exact absurd ll.1 a.1
      rw [if_pos c1, fX5_stateOf_56, if_neg (by decide), oC_d (S.jt0 J), S.jr641 J, oN_v, oC_d (S.jt1 J), lc', oB_v, S.jr646 J, oN_v, oC_d (S.jt10 J), S.jn10 J, oC_t (ix_n l6 (by decide)), nI_clamp (show ltc u0 β (6 * r + k) < 2147483648 by omega), fX5_stateOf_81]
      rcases ml with a0 | a1 | a2
      · rw [if_pos a0]
        exact ⟨2, rfl, .inl ⟨rfl, k, hk, c2, l6, a0⟩⟩
      · rw [if_neg (by rw [a1]; decide), if_pos a1, fX5_stateOf_101, oL_v, e1]
        refine st17 W zo B hr mk m (k + 1) f x3 (by omega) ?_ (fun i hi h0 => ?_)
        · rcases h1 with ⟨a, b⟩ | ⟨a, i, b, c⟩
          · refine .inl ⟨a, fun i hi h0 => ?_⟩
            by_cases c : i = k
            · rw [c]; exact ⟨l6, a1⟩
            · exact b i (by omega) h0
          · exact .inr ⟨a, i, by omega, c⟩
        · by_cases c : i = k
          · rw [c]; exact fun h => by have := h.2; rw [a1] at this; exact absurd this (by decide)
          · exact h2 i (by omega) h0
      · rw [if_neg (by rw [a2]; decide), if_neg (by rw [a2]; decide), fX5_stateOf_101, oL_v, e1]
        refine st17 W zo B hr mk m (k + 1) f 0 (by omega) (.inr ⟨rfl, k, by omega, c2, fun h => by have := h.2; rw [a2] at this; exact absurd this (by decide)⟩) (fun i hi h0 => ?_)
        by_cases c : i = k
        · rw [c]; exact fun h => by have := h.2; rw [a2] at this; exact absurd this (by decide)
        · exact h2 i (by omega) h0
    · exact other (by rw [c1]; decide) (by rw [c2]; decide)
    · exact other (by rw [c1]; decide) (by rw [c2]; decide)
    · exact other (by rcases c2 with a | a | a | a <;> rw [a.1] <;> decide) (by rw [c1]; decide)
theorem stateC {h : PH} {G : Gh} {z : Sz} {u0 : MS} {nu : Nat → Int32} {E1 E2 E3 : Nat → List Tok} {x : Nat} (W : CEv h G z u0 nu E1 E2 E3) (zo : z.ok) (m2 : hI h 642 (G.jd 0) = nI z.np) (mk : MkS h G u0 z) (hx : x ∈ insL z.nr z.np (vN u0)) : ∃ h' s, fX5_stateOf h (G.jd 0) (nI x) = some (h', s) ∧ CH G (fun i => i = 2) h h' ∧ CEv h' G z u0 nu E1 E2 E3 ∧ ((s = 2 ∧ ∃ l, ltx u0 z.np x l ∧ cRf h G l) ∨ (s = 1 ∧ (∀ l, ltx u0 z.np x l → cPr h G l) ∧ ¬ ∃ l, ltx u0 z.np x l ∧ cRf h G l) ∨ (s = 0 ∧ (¬ ∀ l, ltx u0 z.np x l → cPr h G l) ∧ ¬ ∃ l, ltx u0 z.np x l ∧ cRf h G l)) := by
  have S := W.s
  have J := W.j
  obtain ⟨r, b, hr, hb, ex⟩ := mem_insL.mp hx
  obtain ⟨m42, v3, m41, c6⟩ := ruV W.k hr
  have h125 := pow_le zo.1 v3
  have id := inst_n (r := r) (b := b) (by omega)
  have bx : btx u0 z.np x = bt z.np (vN u0 r) b := by unfold btx; rw [ex, id.1, id.2]
  obtain ⟨h1, a1, a2, a3, a4⟩ := boundC W zo m2 hr hb
  have o10 := (a2.own S J (show vj 10 by unfold vj; omega) (by decide)).2.2.1
  have mk1 : MkS h1 G u0 z := fun p hp => by rw [o10]; exact mk p hp
  have eP : cPr h1 G = cPr h G := by funext p; unfold cPr; rw [o10]
  have eR : cRf h1 G = cRf h G := by funext p; unfold cRf; rw [o10]
  obtain ⟨f', hf⟩ : ∃ f', FU = f' + (cN u0 r + 1) := ⟨FU - (cN u0 r + 1), by have : FU = 100000 := rfl; omega⟩
  obtain ⟨s, s1, s2⟩ := st17 a3 zo a4 hr mk1 (cN u0 r) 0 f' 1 (by omega) (.inl ⟨rfl, fun i hi => by omega⟩) (fun i hi => by omega)
  rw [eP, eR] at s2
  have lx : ∀ l, ltx u0 z.np x l ↔ ∃ i, i < cN u0 r ∧ mA u0 51 (6 * r + i) = 0 ∧ l = ltc u0 (bt z.np (vN u0 r) b) (6 * r + i) := by
    intro l
    unfold ltx
    rw [bx, ex, id.1]
  refine ⟨h1, s, ?_, a2, a3, ?_⟩
  · rw [fX5_stateOf, fX5_stateOf_0, oC_d (S.jt0 J), ex, a1, oB2_v, if_neg (by simp), hf, show (0 : Int32) = nI 0 from rfl]
    exact s1
  · have ra : (∃ l, ltx u0 z.np x l ∧ cRf h G l) ↔ ∃ i, i < cN u0 r ∧ mA u0 51 (6 * r + i) = 0 ∧ cRf h G (ltc u0 (bt z.np (vN u0 r) b) (6 * r + i)) := by
      constructor
      · rintro ⟨l, h1, h2⟩
        obtain ⟨i, i1, i2, i3⟩ := (lx l).mp h1
        exact ⟨i, i1, i2, by rw [← i3]; exact h2⟩
      · rintro ⟨i, i1, i2, i3⟩
        exact ⟨_, (lx _).mpr ⟨i, i1, i2, rfl⟩, i3⟩
    have pa : (∀ l, ltx u0 z.np x l → cPr h G l) ↔ ∀ i, i < cN u0 r → mA u0 51 (6 * r + i) = 0 → cPr h G (ltc u0 (bt z.np (vN u0 r) b) (6 * r + i)) := by
      constructor
      · intro h1 i i1 i2
        exact h1 _ ((lx _).mpr ⟨i, i1, i2, rfl⟩)
      · intro h1 l hl
        obtain ⟨i, i1, i2, i3⟩ := (lx l).mp hl
        rw [i3]; exact h1 i i1 i2
    rw [ra, pa]
    rcases s2 with ⟨a, b⟩ | ⟨a, b, c⟩ | ⟨a, ⟨i, i1, i2, i3⟩, c⟩
    · exact .inl ⟨a, b⟩
    · exact .inr (.inl ⟨a, b, fun ⟨i, i1, i2, i3⟩ => c i i1 i2 i3⟩)
    · exact .inr (.inr ⟨a, fun h => i3 (h i i1 i2), fun ⟨i, i1, i2, i3⟩ => c i i1 i2 i3⟩)
