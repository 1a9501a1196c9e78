/-! the class gathers -/
theorem dn_len {np : Nat} {v : Nat → Nat} {r b : Nat} (h : ∀ s, s < r → np ^ v s ≤ 125) : (dn np v r b).length ≤ 125 * r + b := by
  unfold dn
  have := insL_len (nr := r) h
  rw [List.length_append, List.length_map, List.length_range]
  omega
noncomputable def hoL (u : MS) (nu : Nat → Int32) (E1 E2 : Nat → List Tok) (d1 d2 : Int32) (np : Nat) (l : List Nat) : List Nat := l.filter (cd (hox u nu E1 E2 d1 d2 np))
def GSt (h : PH) (G : Gh) (z : Sz) (u0 : MS) (nu : Nat → Int32) (E1 : Nat → List Tok) (E2 : Nat → List Tok) (E3 : Nat → List Tok) (d1 : Int32) (d2 : Int32) (rm : Nat) (r : Nat) (b : Nat) : Prop := (CEv h G z u0 nu E1 E2 E3) ∧ (hI h 642 (G.jd 0) = nI z.np) ∧ (hI h 643 (G.jd 0) = nI z.nw ∧ hI h 644 (G.jd 0) = nI z.ns) ∧ (LSt h G (hoL u0 nu E1 E2 d1 d2 z.np (dn z.np (vN u0) r b)) (hdx u0 z.np)) ∧ (∃ m, hI h 651 (G.jd 0) = nI m ∧ m < 2 ^ 30 ∧ ∀ t, Nat.testBit m t = true ↔ t < rm ∧ inf u0 d1 d2 t ∧ mA u0 40 t = 0) ∧ (∀ s, s < rm → inf u0 d1 d2 s → ∃ m, hA h (G.jd 14) s = nI m ∧ m < 2 ^ 30 ∧ ∀ t, Nat.testBit m t = true ↔ t < z.nr ∧ hix u0 (125 * t) (125 * s))
theorem GSt.W {h : PH} {G : Gh} {z : Sz} {u0 : MS} {nu : Nat → Int32} {E1 : Nat → List Tok} {E2 : Nat → List Tok} {E3 : Nat → List Tok} {d1 : Int32} {d2 : Int32} {rm : Nat} {r : Nat} {b : Nat} (X_ : GSt h G z u0 nu E1 E2 E3 d1 d2 rm r b) : CEv h G z u0 nu E1 E2 E3 := X_.1
theorem GSt.m2 {h : PH} {G : Gh} {z : Sz} {u0 : MS} {nu : Nat → Int32} {E1 : Nat → List Tok} {E2 : Nat → List Tok} {E3 : Nat → List Tok} {d1 : Int32} {d2 : Int32} {rm : Nat} {r : Nat} {b : Nat} (X_ : GSt h G z u0 nu E1 E2 E3 d1 d2 rm r b) : hI h 642 (G.jd 0) = nI z.np := X_.2.1
theorem GSt.m34 {h : PH} {G : Gh} {z : Sz} {u0 : MS} {nu : Nat → Int32} {E1 : Nat → List Tok} {E2 : Nat → List Tok} {E3 : Nat → List Tok} {d1 : Int32} {d2 : Int32} {rm : Nat} {r : Nat} {b : Nat} (X_ : GSt h G z u0 nu E1 E2 E3 d1 d2 rm r b) : hI h 643 (G.jd 0) = nI z.nw ∧ hI h 644 (G.jd 0) = nI z.ns := X_.2.2.1
theorem GSt.l {h : PH} {G : Gh} {z : Sz} {u0 : MS} {nu : Nat → Int32} {E1 : Nat → List Tok} {E2 : Nat → List Tok} {E3 : Nat → List Tok} {d1 : Int32} {d2 : Int32} {rm : Nat} {r : Nat} {b : Nat} (X_ : GSt h G z u0 nu E1 E2 E3 d1 d2 rm r b) : LSt h G (hoL u0 nu E1 E2 d1 d2 z.np (dn z.np (vN u0) r b)) (hdx u0 z.np) := X_.2.2.2.1
theorem GSt.sm' {h : PH} {G : Gh} {z : Sz} {u0 : MS} {nu : Nat → Int32} {E1 : Nat → List Tok} {E2 : Nat → List Tok} {E3 : Nat → List Tok} {d1 : Int32} {d2 : Int32} {rm : Nat} {r : Nat} {b : Nat} (X_ : GSt h G z u0 nu E1 E2 E3 d1 d2 rm r b) : ∃ m, hI h 651 (G.jd 0) = nI m ∧ m < 2 ^ 30 ∧ ∀ t, Nat.testBit m t = true ↔ t < rm ∧ inf u0 d1 d2 t ∧ mA u0 40 t = 0 := X_.2.2.2.2.1
theorem GSt.bm {h : PH} {G : Gh} {z : Sz} {u0 : MS} {nu : Nat → Int32} {E1 : Nat → List Tok} {E2 : Nat → List Tok} {E3 : Nat → List Tok} {d1 : Int32} {d2 : Int32} {rm : Nat} {r : Nat} {b : Nat} (X_ : GSt h G z u0 nu E1 E2 E3 d1 d2 rm r b) : ∀ s, s < rm → inf u0 d1 d2 s → ∃ m, hA h (G.jd 14) s = nI m ∧ m < 2 ^ 30 ∧ ∀ t, Nat.testBit m t = true ↔ t < z.nr ∧ hix u0 (125 * t) (125 * s) := X_.2.2.2.2.2
theorem GSt.mk {h : PH} {G : Gh} {z : Sz} {u0 : MS} {nu : Nat → Int32} {E1 : Nat → List Tok} {E2 : Nat → List Tok} {E3 : Nat → List Tok} {d1 : Int32} {d2 : Int32} {rm : Nat} {r : Nat} {b : Nat} (W_ : CEv h G z u0 nu E1 E2 E3) (m2_ : hI h 642 (G.jd 0) = nI z.np) (m34_ : hI h 643 (G.jd 0) = nI z.nw ∧ hI h 644 (G.jd 0) = nI z.ns) (l_ : LSt h G (hoL u0 nu E1 E2 d1 d2 z.np (dn z.np (vN u0) r b)) (hdx u0 z.np)) (sm'_ : ∃ m, hI h 651 (G.jd 0) = nI m ∧ m < 2 ^ 30 ∧ ∀ t, Nat.testBit m t = true ↔ t < rm ∧ inf u0 d1 d2 t ∧ mA u0 40 t = 0) (bm_ : ∀ s, s < rm → inf u0 d1 d2 s → ∃ m, hA h (G.jd 14) s = nI m ∧ m < 2 ^ 30 ∧ ∀ t, Nat.testBit m t = true ↔ t < z.nr ∧ hix u0 (125 * t) (125 * s)) : GSt h G z u0 nu E1 E2 E3 d1 d2 rm r b := ⟨W_, m2_, m34_, l_, sm'_, bm_⟩
def pGa (i : Nat) : Prop := i = 0 ∨ i = 2 ∨ i = 4 ∨ (14 ≤ i ∧ i ≤ 17) ∨ 100 ≤ i
theorem headC {h : PH} {G : Gh} {z : Sz} {u0 : MS} {nu : Nat → Int32} {E1 E2 E3 : Nat → List Tok} {r b : Nat} (W : CEv h G z u0 nu E1 E2 E3) (zo : z.ok) (hr : r < z.nr) (hb : b < 125) (B : WC h G (bt z.np (vN u0 r) b) (vN u0 r) z.np z.pc nu) : fX5_headOf h (G.jd 0) (some (G.rl r)) = some (nI (hdx u0 z.np (125 * r + b))) := by
  have S := W.s
  have J := W.j
  have kn := W.k.nrG
  obtain ⟨l', kk, n, v, h1, h2, h3, h4, h5, h6, h7, h8, h9, ha', hb', hc', hd, he, hf⟩ := W.k.ru r hr
  have ev : vN u0 r = v := by unfold vN; rw [hd, nI_clamp (by omega)]
  rw [ev] at B
  have hv := hdx_v (u0 := u0) (np := z.np) (r := r) (b := b) hb
  rw [ev] at hv
  have nh : S.rlT r (by omega) = S.rlT r (by omega) := rfl
  rw [fX5_headOf, fX5_headOf_0, oN_v, oC_d (S.rlT r (by omega)), h8, ← h9, S.hdR r (by omega)]
  by_cases c2 : mA u0 40 r = 2
  · rw [if_pos c2] at hv
    rcases he with q | q
    · exact absurd c2 q.1
    · obtain ⟨_, ⟨s, s1, s2, s3⟩, _, _, tm, _⟩ := q
      have ns := zo.2.2.1
      have tn : TmN z v True (hI h 259 (G.hd r)) (mA u0 46 r) := .inl ⟨trivial, tm⟩
      rw [if_pos c2, oN_v, oC_d (S.hdT r (by omega)), oC_d (S.jt0 J), S.jr641 J, oN_v, oC_d (S.jt1 J), tn.c B, oB_v, s2, hv, s3, nI_clamp (show s < 2147483648 by omega)]
      congr 1
      rw [show (5 : Int32) = nI 5 from rfl, nI_mul, show (600 : Int32) = nI 600 from rfl, nI_add, nI_add]
      congr 1
      omega
  · rw [if_neg c2] at hv
    have LT : LtR u0 z v (hI h 257 (G.hd r)) (hI h 258 (G.hd r)) (hI h 259 (G.hd r)) (hI h 260 (G.hd r)) (mA u0 44 r) (mA u0 45 r) (mA u0 46 r) (mA u0 47 r) := by
      rcases he with q | q
      · exact q.2
      · exact absurd q.1 c2
    rw [if_neg c2, oC_d (S.jt0 J), S.jr641 J, oN_v, oC_d (S.jt1 J), LT.c B (S.hdT r (by omega)) zo, oB_v, hv]
theorem CEv.wc {h h' : PH} {G : Gh} {z : Sz} {u0 : MS} {nu : Nat → Int32} {E1 E2 E3 : Nat → List Tok} {v b : Nat} (W : CEv h G z u0 nu E1 E2 E3) (zo : z.ok) (hv : v ≤ 3) (hp : 0 < z.np ∨ v = 0) (c : CH G (fun i => i = 2) h h') (e : ∀ i, i < v → hA h' (G.jd 2) (5 + i) = nI (bt z.np v b i)) (k : ∀ p, p < 5 → hA h' (G.jd 2) p = hA h (G.jd 2) p) : CEv h' G z u0 nu E1 E2 E3 ∧ WC h' G (bt z.np v b) v z.np z.pc nu := by
  have W' := W.ch c k
  refine ⟨W', WC.mk W'.s W'.j W'.wh ?_ hv zo.1 W'.nm W'.c.2.2.2.2.2.2 W'.pl W'.pm⟩
  intro i hi
  exact ⟨e i hi, bt_lt (by omega)⟩
theorem g95 {z : Sz} {u0 : MS} {nu : Nat → Int32} {E1 E2 E3 : Nat → List Tok} {d1 d2 : Int32} {r : Nat} (zo : z.ok) (hc : z.pc < 99000) (hr : r < z.nr) (hf : inf u0 d1 d2 r) : ∀ m b f h G, b + m = z.np ^ vN u0 r → GSt h G z u0 nu E1 E2 E3 d1 d2 (r + 1) r b → ∃ h' G' ci cj, fX5_gather_95 (f + (m + 1)) h (G.jd 0) (nI r) (some (G.rl r)) (nI (z.np ^ vN u0 r)) (nI b) = some (h', ci, cj) ∧ GSt h' G' z u0 nu E1 E2 E3 d1 d2 (r + 1) (r + 1) 0 ∧ GJ pGa h h' G G' ∧ ci + jp3 h G ≤ jp3 h' G' ∧ cj + 3 * jp3 h G ≤ 3 * jp3 h' G' := by
  intro m
  induction m with
  | zero =>
    intro b f h G e Q
    have eb : b = z.np ^ vN u0 r := e
    have ul : fX5_gather_95 (f + (0 + 1)) h (G.jd 0) (nI r) (some (G.rl r)) (nI (z.np ^ vN u0 r)) (nI b) = fX5_gather_95F (fX5_gather_95 f) h (G.jd 0) (nI r) (some (G.rl r)) (nI (z.np ^ vN u0 r)) (nI b) := rfl
    have ed : dn z.np (vN u0) r b = dn z.np (vN u0) (r + 1) 0 := by rw [eb, dn_next, dn_zero]
    have l := Q.l
    rw [ed] at l
    refine ⟨h, G, 0, 0, ?_, GSt.mk Q.W Q.m2 Q.m34 l Q.sm' Q.bm, GJ.of (CH.refl G _ h), by omega, by omega⟩
    rw [ul, fX5_gather_95F, eb, if_pos (Int32.le_refl _)]
  | succ m ih =>
    intro b f h G e Q
    have S := Q.W.s
    have J := Q.W.j
    have nr := zo.2.2.2.2.1
    have kn := Q.W.k.nrG
    obtain ⟨m42, v3, m41, c6⟩ := ruV Q.W.k hr
    have h125 := pow_le zo.1 v3
    have hb : b < z.np ^ vN u0 r := by omega
    have ul : fX5_gather_95 (f + (m + 1 + 1)) h (G.jd 0) (nI r) (some (G.rl r)) (nI (z.np ^ vN u0 r)) (nI b) = fX5_gather_95F (fX5_gather_95 (f + (m + 1))) h (G.jd 0) (nI r) (some (G.rl r)) (nI (z.np ^ vN u0 r)) (nI b) := rfl
    obtain ⟨l', kk, n, v, q1, q2, q3, q4, q5, q6, q7, q8, q9, qa, qb, qc, qd, qe, qf⟩ := Q.W.k.ru r hr
    have ev : vN u0 r = v := by unfold vN; rw [qd, nI_clamp (by omega)]
    have rT := S.rlT r (show r < G.nr by omega)
    have e1 : nI b + 1 = nI (b + 1) := nI_add b 1
    obtain ⟨h1, a1, a2, a3, a4⟩ := bindC (b := b) S J (pow_pos' hb) zo.1 v3 (show b < 1000 by omega)
    obtain ⟨W1, B1⟩ := Q.W.wc zo v3 (pow_pos' hb) a2 a3 a4
    have S1 := W1.s
    obtain ⟨f', hff⟩ : ∃ f', FU = f' + (cN u0 r + 1) := ⟨FU - (cN u0 r + 1), by have : FU = 100000 := rfl; omega⟩
    obtain ⟨h2, x, p1, p2, p3⟩ := plainC W1.mo S1 J W1.k zo hc hr (cN u0 r) 0 f' h1 (by omega) B1 (Ag.refl h1)
    have W2 : CEv h2 G z u0 nu E1 E2 E3 := W1.ch2 p3 (by decide)
    have B2 : WC h2 G (bt z.np (vN u0 r) b) (vN u0 r) z.np z.pc nu := B1.ch p3 (by decide)
    have S2 := W2.s
    have p1' : fX5_plainConditionsHold h1 (G.jd 0) (some (G.rl r)) = some (h2, x) := by
      rw [fX5_plainConditionsHold, fX5_plainConditionsHold_0, hff]; exact p1
    have ch2 : CH G (fun i => i = 2 ∨ i = 4 ∨ 100 ≤ i) h h2 := (a2.mono fun i e => .inl e).trans (p3.mono fun i e => .inr e)
    have o : ∀ {i : Nat}, vj i → i ≠ 2 → i ≠ 4 → ¬ 100 ≤ i → (∀ f, hI h2 f (G.jd i) = hI h f (G.jd i)) ∧ (∀ f, hL h2 f (G.jd i) = hL h f (G.jd i)) ∧ (∀ q, hA h2 (G.jd i) q = hA h (G.jd i) q) ∧ ∀ q, hB h2 (G.jd i) q = hB h (G.jd i) q := fun w n1 n2 n3 => ch2.own S J w (by omega)
    have v0 : vj 0 := by unfold vj; omega
    have v14 : vj 14 := by unfold vj; omega
    have v15 : vj 15 := by unfold vj; omega
    have v16 : vj 16 := by unfold vj; omega
    have v17 : vj 17 := by unfold vj; omega
    have o0 := (o v0 (by decide) (by decide) (by decide)).1
    have o14 := (o v14 (by decide) (by decide) (by decide)).2.2.1
    have o15 := (o v15 (by decide) (by decide) (by decide)).2.2.1
    have o16 := (o v16 (by decide) (by decide) (by decide)).2.2.1
    have o17 := (o v17 (by decide) (by decide) (by decide)).2.2.1
    have l2 : LSt h2 G (hoL u0 nu E1 E2 d1 d2 z.np (dn z.np (vN u0) r b)) (hdx u0 z.np) := by
      apply LSt.mk
      · rw [o0]; exact Q.l.n
      · intro i hi; rw [o15, o16, o17]; exact Q.l.a i hi
      · rw [ch2.1.2.2.2.1]; exact Q.l.le
      · rw [ch2.1.2.2.2.1]; exact Q.l.k1
      · rw [ch2.1.2.2.2.1]; exact Q.l.k2
      · rw [ch2.1.2.2.2.1]; exact Q.l.k3
      · rw [ch2.1.2.2.2.1]; exact Q.l.k4
      · intro i; rw [o17]; exact Q.l.bt i
    have gj2 : GJ pGa h h2 G G := GJ.of (ch2.mono fun i e => by unfold pGa; omega)
    have j2 : jp3 h2 G = jp3 h G := by unfold jp3; rw [ch2.1.2.2.2.1]
    have id := inst_n (r := r) (b := b) (by omega)
    have bx : btx u0 z.np (125 * r + b) = bt z.np (vN u0 r) b := by unfold btx; rw [id.1, id.2]
    have hx : hox u0 nu E1 E2 d1 d2 z.np (125 * r + b) ↔ allP (fun i => cnP u0 nu E1 E2 (bt z.np (vN u0 r) b) (6 * r + i)) 0 (cN u0 r) := by
      unfold hox
      rw [bx, id.1]
      exact ⟨fun h => h.2, fun h => ⟨hf, h⟩⟩
    rw [ul, fX5_gather_95F, if_neg (nI_ge hb (by omega)), if_neg (show ¬ (125 : Int32) ≤ nI b from nI_ge (b := 125) (by omega) (by decide)), oC_d (S.jt0 J), oN_v, oC_d rT, S.jr641 J, oN_v, oC_d (S.jt1 J), qc, ← ev, Q.m2, a1, oB_v, oC_d (S1.jt0 J), p1', oB2_v]
    rcases p2.cases with ⟨_, g2, g3⟩ | ⟨g1, g2⟩
    · rw [if_neg g2, oC_d (S2.jt0 J), headC W2 zo hr (by omega) B2, oB_v]
      have ll : (hoL u0 nu E1 E2 d1 d2 z.np (dn z.np (vN u0) r b)).length ≤ 4096 := by
        have := List.length_filter_le (cd (hox u0 nu E1 E2 d1 d2 z.np)) (dn z.np (vN u0) r b)
        have := dn_len (np := z.np) (v := vN u0) (r := r) (b := b) fun s hs => pow_le zo.1 (ruV Q.W.k (show s < z.nr by omega)).2.1
        unfold hoL
        omega
      obtain ⟨h3, G3, ci, cj, t1, t2, t3, t4, t5, t6, t7⟩ := list_v (x := 125 * r + b) S2 J l2 ll
      have e125 : nI r * 125 + nI b = nI (125 * r + b) := by
        rw [show (125 : Int32) = nI 125 from rfl, nI_mul, nI_add]; congr 1; omega
      have jd0 : ∀ i, ¬ (15 ≤ i ∧ i ≤ 17) → G3.jd i = G.jd i := fun i hi => by
        rcases t3.jd i with k | k
        · exact k
        · exact absurd k.1 hi
      have J3 : G3.jj = true := t3.jj.trans J
      have rl3 : G3.rl = G.rl := by obtain ⟨a, b, e⟩ := t3.ge; rw [e]; rfl
      have w3 : ∀ p, p < 5 → hA h3 (G3.jd 2) p = nI p := fun p hp => by
        rw [jd0 2 (by decide), (t3.own S2 J (show vj 2 by unfold vj; omega) (by decide) (S2.jt2 J) (by decide)).2.2.1]; exact W2.wh p hp
      have W3 := W2.gj t3 t2 w3
      have eh : hoL u0 nu E1 E2 d1 d2 z.np (dn z.np (vN u0) r (b + 1)) = hoL u0 nu E1 E2 d1 d2 z.np (dn z.np (vN u0) r b) ++ [125 * r + b] := by
        rw [dn_succ]; exact filt_y (hx.mpr g3)
      have Q3 : GSt h3 G3 z u0 nu E1 E2 E3 d1 d2 (r + 1) r (b + 1) := by
        apply GSt.mk
        · exact W3
        · rw [jd0 0 (by decide), t5 642 (by decide), o0]; exact Q.m2
        · rw [jd0 0 (by decide), t5 643 (by decide), t5 644 (by decide), o0, o0]; exact Q.m34
        · rw [eh]; exact t4
        · obtain ⟨w, w1, w2⟩ := Q.sm'
          exact ⟨w, by rw [jd0 0 (by decide), t5 651 (by decide), o0]; exact w1, w2⟩
        · intro s h1 h2
          obtain ⟨w, w1, w2⟩ := Q.bm s h1 h2
          exact ⟨w, by rw [jd0 14 (by decide), (t3.own S2 J v14 (by decide) (S2.jt14 J) (by decide)).2.2.1, o14]; exact w1, w2⟩
      obtain ⟨h4, G4, ci', cj', y1, y2, y3, y4, y5⟩ := ih (b + 1) f h3 G3 (by omega) Q3
      rw [e125, t1, oB3_v, fX5_gather_153, oL_v, e1]
      rw [jd0 0 (by decide), rl3] at y1
      rw [y1, oK3_v]
      exact ⟨h4, G4, _, _, rfl, y2, (gj2.trans (t3.mono fun i e => by unfold pGa; omega)).trans y3, by omega, by omega⟩
    · have eh : hoL u0 nu E1 E2 d1 d2 z.np (dn z.np (vN u0) r (b + 1)) = hoL u0 nu E1 E2 d1 d2 z.np (dn z.np (vN u0) r b) := by
        rw [dn_succ]; exact filt_n (fun h => g2 (hx.mp h))
      have Q3 : GSt h2 G z u0 nu E1 E2 E3 d1 d2 (r + 1) r (b + 1) := by
        apply GSt.mk
        · exact W2
        · rw [o0]; exact Q.m2
        · rw [o0, o0]; exact Q.m34
        · rw [eh]; exact l2
        · obtain ⟨w, w1, w2⟩ := Q.sm'
          exact ⟨w, by rw [o0]; exact w1, w2⟩
        · intro s h1 h2
          obtain ⟨w, w1, w2⟩ := Q.bm s h1 h2
          exact ⟨w, by rw [o14]; exact w1, w2⟩
      obtain ⟨h4, G4, ci', cj', y1, y2, y3, y4, y5⟩ := ih (b + 1) f h2 G (by omega) Q3
      rw [if_pos g1, fX5_gather_153, oL_v, e1]
      exact ⟨h4, G4, ci', cj', y1, y2, gj2.trans y3, by omega, by omega⟩
