/-! conditions under a binding -/
def tst (op c : Int32) : Prop := (op = 16 → c = 0) ∧ (op = 17 → ¬ c = 0) ∧ (op = 18 → c < 0) ∧ (op = 19 → c ≤ 0)
def cmpT (op : Int32) : Option Qq → Option Qq → Prop
  | some x, some y => tst op (cmpQ x y)
  | _, _ => False
def cnP (u0 : MS) (nu : Nat → Int32) (E1 E2 : Nat → List Tok) (β : Nat → Nat) (i : Nat) : Prop := (mA u0 51 i = 1 → pM β (mA u0 54 i) = pM β (mA u0 55 i)) ∧ (mA u0 51 i = 2 → ¬ pM β (mA u0 54 i) = pM β (mA u0 55 i)) ∧ (mA u0 51 i = 3 → cmpT (mA u0 56 i) (val β nu (E1 i)) (val β nu (E2 i)))
def vN (u : MS) (r : Nat) : Nat := (mA u 42 r).toNatClampNeg
def cN (u : MS) (r : Nat) : Nat := (mA u 41 r).toNatClampNeg
def PgC (h : PH) (u : MS) (G : Gh) (z : Sz) (r a i : Nat) (e1 e2 : List Tok) : Prop := PgE h u G z (vN u r) (hI h 261 a) (hI h 262 a) (mA u 57 i) (mA u 58 i) e1 ∧ PgE h u G z (vN u r) (hI h 262 a) (hI h 263 a) (mA u 58 i) (mA u 59 i) e2
def Mo (h : PH) (u : MS) (G : Gh) (z : Sz) (E1 : Nat → List Tok) (E2 : Nat → List Tok) (E3 : Nat → List Tok) : Prop := (∀ r k, r < z.nr → k < cN u r → mA u 51 (6 * r + k) = 3 → PgC h u G z r (G.cd r k) (6 * r + k) (E1 (6 * r + k)) (E2 (6 * r + k))) ∧ (∀ r, r < z.nr → mA u 40 r = 2 → PgE h u G z (vN u r) (hI h 261 (G.hd r)) (hI h 263 (G.hd r)) (mA u 49 r) (mA u 50 r) (E3 r))
theorem Mo.cd {h : PH} {u : MS} {G : Gh} {z : Sz} {E1 : Nat → List Tok} {E2 : Nat → List Tok} {E3 : Nat → List Tok} (X_ : Mo h u G z E1 E2 E3) : ∀ r k, r < z.nr → k < cN u r → mA u 51 (6 * r + k) = 3 → PgC h u G z r (G.cd r k) (6 * r + k) (E1 (6 * r + k)) (E2 (6 * r + k)) := X_.1
theorem Mo.hd {h : PH} {u : MS} {G : Gh} {z : Sz} {E1 : Nat → List Tok} {E2 : Nat → List Tok} {E3 : Nat → List Tok} (X_ : Mo h u G z E1 E2 E3) : ∀ r, r < z.nr → mA u 40 r = 2 → PgE h u G z (vN u r) (hI h 261 (G.hd r)) (hI h 263 (G.hd r)) (mA u 49 r) (mA u 50 r) (E3 r) := X_.2
theorem Mo.mk {h : PH} {u : MS} {G : Gh} {z : Sz} {E1 : Nat → List Tok} {E2 : Nat → List Tok} {E3 : Nat → List Tok} (cd_ : ∀ r k, r < z.nr → k < cN u r → mA u 51 (6 * r + k) = 3 → PgC h u G z r (G.cd r k) (6 * r + k) (E1 (6 * r + k)) (E2 (6 * r + k))) (hd_ : ∀ r, r < z.nr → mA u 40 r = 2 → PgE h u G z (vN u r) (hI h 261 (G.hd r)) (hI h 263 (G.hd r)) (mA u 49 r) (mA u 50 r) (E3 r)) : Mo h u G z E1 E2 E3 := ⟨cd_, hd_⟩
theorem Mo.ex {h : PH} {u : MS} {G : Gh} {z : Sz} (K : KR h u G z) : ∃ E1 E2 E3, Mo h u G z E1 E2 E3 := by
  have x1 : ∀ i, ∃ e : List Tok × List Tok, i / 6 < z.nr → i % 6 < cN u (i / 6) → mA u 51 i = 3 → PgC h u G z (i / 6) (G.cd (i / 6) (i % 6)) i e.1 e.2 := by
    intro i
    by_cases c : i / 6 < z.nr ∧ i % 6 < cN u (i / 6) ∧ mA u 51 i = 3
    · obtain ⟨c1, c2, c3⟩ := c
      obtain ⟨l, k, n, v, h1, h2, h3, h4, h5, h6, h7, h8, h9, ha, hb, hc, hd, he, hf⟩ := K.ru (i / 6) c1
      have en : cN u (i / 6) = n := by unfold cN; rw [hb, nI_clamp (by omega)]
      have ev : vN u (i / 6) = v := by unfold vN; rw [hd, nI_clamp (by omega)]
      have q := hf (i % 6) (by omega)
      rw [show 6 * (i / 6) + i % 6 = i by omega] at q
      rcases q with ⟨_, q, _⟩ | ⟨_, q, _⟩ | ⟨_, q, _⟩ | ⟨_, _, p1, p2⟩
      · rw [c3] at q; exact absurd q (by decide)
      · rw [c3] at q; exact absurd q (by decide)
      · rw [c3] at q; exact absurd q (by decide)
      · obtain ⟨e1, p1⟩ := p1.ex
        obtain ⟨e2, p2⟩ := p2.ex
        refine ⟨(e1, e2), fun _ _ _ => ?_⟩
        unfold PgC
        rw [ev]
        exact ⟨p1, p2⟩
    · exact ⟨([], []), fun a b d => absurd ⟨a, b, d⟩ c⟩
  have x2 : ∀ r, ∃ e : List Tok, r < z.nr → mA u 40 r = 2 → PgE h u G z (vN u r) (hI h 261 (G.hd r)) (hI h 263 (G.hd r)) (mA u 49 r) (mA u 50 r) e := by
    intro r
    by_cases c : r < z.nr ∧ mA u 40 r = 2
    · obtain ⟨c1, c2⟩ := c
      obtain ⟨l, k, n, v, h1, h2, h3, h4, h5, h6, h7, h8, h9, ha, hb, hc, hd, he, hf⟩ := K.ru r c1
      have ev : vN u r = v := by unfold vN; rw [hd, nI_clamp (by omega)]
      rcases he with ⟨q, _⟩ | ⟨_, _, _, _, _, _, p⟩
      · exact absurd c2 q
      · obtain ⟨e, p⟩ := p.ex
        refine ⟨e, fun _ _ => ?_⟩
        rw [ev]; exact p
    · exact ⟨[], fun a b => absurd ⟨a, b⟩ c⟩
  obtain ⟨f, hf⟩ := Classical.axiomOfChoice x1
  obtain ⟨g, hg⟩ := Classical.axiomOfChoice x2
  refine ⟨fun i => (f i).1, fun i => (f i).2, g, Mo.mk ?_ hg⟩
  intro r k hr hk hm
  obtain ⟨l, q, n, v, h1, h2, h3, h4, h5, h6, h7, h8, h9, ha, hb, hc, hd, he, _⟩ := K.ru r hr
  have en : cN u r = n := by unfold cN; rw [hb, nI_clamp (by omega)]
  have d1 : (6 * r + k) / 6 = r := by omega
  have d2 : (6 * r + k) % 6 = k := by omega
  have := hf (6 * r + k)
  rw [d1, d2] at this
  exact this hr hk hm
theorem nI_eq2 {a b : Nat} (ha : a < 2147483648) (hb : b < 2147483648) : (nI a = nI b) ↔ a = b := nI_eq ha hb
theorem TmR.n {z : Sz} {nv : Nat} {a b : Int32} (k : TmR z nv a b) : TmN z nv True a b := .inl ⟨trivial, k⟩
theorem TmR.lt {β : Nat → Nat} {nv : Nat} {z : Sz} {a b : Int32} (hb : ∀ v, v < nv → β v < z.np) (k : TmR z nv a b) : pM β b < z.np := (k.n.lt hb).1 trivial
/-- what holds decides: class -/
theorem holdsC {h0 h : PH} {u0 : MS} {G : Gh} {z : Sz} {β : Nat → Nat} {nu : Nat → Int32} {E1 E2 : Nat → List Tok} {r a i : Nat} (W : WC h G β (vN u0 r) z.np z.pc nu) (zo : z.ok) (hc : z.pc < 99000) (q : eqG h0 h G) (ei : ∀ f, hI h f a = hI h0 f a) (oa : G.ow a / 100000 ≠ 5) (ta : hT h a = 3) (k : CdR h0 u0 G z (vN u0 r) a i) (pg : mA u0 51 i = 3 → PgC h0 u0 G z r a i (E1 i) (E2 i)) (n0 : ¬ mA u0 51 i = 0) : ∃ h' x, fX6_holds h (G.jd 1) (some a) = some (h', x) ∧ Tf x (cnP u0 nu E1 E2 β i) ∧ CH G (fun i => i = 4 ∨ 100 ≤ i) h h' := by
  have S := W.s
  have J := W.j
  have l5 := zo.1
  have hb : ∀ v, v < vN u0 r → β v < z.np := fun v hv => (W.b v hv).2
  unfold fX6_holds fX6_holds_0 cnP
  rcases k with ⟨_, k2, _⟩ | ⟨k1, k2, k3, k4⟩ | ⟨k1, k2, k3, k4⟩ | ⟨k2, k3, _, _⟩
  · exact absurd k2 n0
  · have p3 := k3.lt hb
    have p4 := k4.lt hb
    simp only [oN_v, oC_v, oB_v, oB2_v, oB3_v, oB4_v, oK3_v, oK4_v, oL_v, ta, S.jY J, S.jt0 J, S.jt1 J, S.jt2 J, S.jt3 J, S.jt4 J, S.jt5 J, S.jt6 J, S.jt7 J, S.jt8 J, S.jt9 J, S.jt10 J, S.jt11 J, S.jt12 J, S.jt13 J, S.jt14 J, S.jt15 J, S.jt16 J, S.jt17 J, S.jt18 J, S.jt19 J, S.jt20 J, S.jn2 J, S.jn3 J, S.jn9 J, S.jn10 J, S.jn11 J, S.jn12 J, S.jn13 J, S.jn14 J, S.jn18 J, S.jn19 J, S.jn20 J, S.jr640 J, S.jr641 J, S.jr768 J, S.jr769 J, S.jr770 J, S.jr771 J, S.jr772 J, S.jr773 J, S.jr774 J, S.jr775 J, S.jr645 J, S.jr646 J, S.jr647 J, S.jr648 J, S.jr649 J, S.jr650 J, S.jr652 J, S.jr653 J, S.jr654 J, S.jr656 J, S.jr657 J, S.jr658 J, if_true, if_false, and_false, false_and, and_true, true_and, and_self, decide_true, decide_false, reduceCtorEq, not_false_eq_true, not_true_eq_false, Nat.reduceEqDiff, Nat.reduceAdd, Nat.reduceMul, Nat.add_zero, Nat.zero_add, ei, k1, k3.n.c W, k4.n.c W]
    simp only [nI_eq2 (show pM β (mA u0 54 i) < 2147483648 by omega) (show pM β (mA u0 55 i) < 2147483648 by omega), k2]
    by_cases c : pM β (mA u0 54 i) = pM β (mA u0 55 i)
    · rw [if_pos c]
      exact ⟨h, 1, rfl, .inl ⟨rfl, fun _ => c, fun e => absurd e (by decide), fun e => absurd e (by decide)⟩, CH.refl G _ h⟩
    · rw [if_neg c]
      exact ⟨h, 0, rfl, .inr ⟨rfl, fun e => c (e.1 trivial)⟩, CH.refl G _ h⟩
  · have p3 := k3.lt hb
    have p4 := k4.lt hb
    simp only [oN_v, oC_v, oB_v, oB2_v, oB3_v, oB4_v, oK3_v, oK4_v, oL_v, ta, S.jY J, S.jt0 J, S.jt1 J, S.jt2 J, S.jt3 J, S.jt4 J, S.jt5 J, S.jt6 J, S.jt7 J, S.jt8 J, S.jt9 J, S.jt10 J, S.jt11 J, S.jt12 J, S.jt13 J, S.jt14 J, S.jt15 J, S.jt16 J, S.jt17 J, S.jt18 J, S.jt19 J, S.jt20 J, S.jn2 J, S.jn3 J, S.jn9 J, S.jn10 J, S.jn11 J, S.jn12 J, S.jn13 J, S.jn14 J, S.jn18 J, S.jn19 J, S.jn20 J, S.jr640 J, S.jr641 J, S.jr768 J, S.jr769 J, S.jr770 J, S.jr771 J, S.jr772 J, S.jr773 J, S.jr774 J, S.jr775 J, S.jr645 J, S.jr646 J, S.jr647 J, S.jr648 J, S.jr649 J, S.jr650 J, S.jr652 J, S.jr653 J, S.jr654 J, S.jr656 J, S.jr657 J, S.jr658 J, if_true, if_false, and_false, false_and, and_true, true_and, and_self, decide_true, decide_false, reduceCtorEq, not_false_eq_true, not_true_eq_false, Nat.reduceEqDiff, Nat.reduceAdd, Nat.reduceMul, Nat.add_zero, Nat.zero_add, ei, k1, k3.n.c W, k4.n.c W]
    rw [if_neg (show ¬ (315 : Int32) = 314 by decide)]
    simp only [nI_eq2 (show pM β (mA u0 54 i) < 2147483648 by omega) (show pM β (mA u0 55 i) < 2147483648 by omega), k2]
    by_cases c : pM β (mA u0 54 i) = pM β (mA u0 55 i)
    · rw [if_pos c]
      exact ⟨h, 0, rfl, .inr ⟨rfl, fun e => e.2.1 trivial c⟩, CH.refl G _ h⟩
    · rw [if_neg c]
      exact ⟨h, 1, rfl, .inl ⟨rfl, fun e => absurd e (by decide), fun _ => c, fun e => absurd e (by decide)⟩, CH.refl G _ h⟩
  · obtain ⟨g1, g2⟩ := pg k2
    have nn : ¬ hI h0 256 a = 314 ∧ ¬ hI h0 256 a = 315 := by
      rcases k3 with ⟨e, _⟩ | ⟨e, _⟩ | ⟨e, _⟩ | ⟨e, _⟩ <;> rw [e] <;> decide
    obtain ⟨h1, w1, w2, w3, w4⟩ := g1.work W hc q
    have W1 := W.ch w2 (by omega)
    have S1 := W1.s
    obtain ⟨h2, c1, c2, n', d', f', c3⟩ := fcopy_v (S1.jt4 J) (S1.jsT J 1 (by decide)) (jd_ne S1 J (.inr ⟨by omega, by omega⟩) (.inl (by decide)) (by decide)) w3
    have C2 : CH G (fun i => i = 4 ∨ 100 ≤ i) h1 h2 := by
      rw [c3]
      exact (((CH.refl G _ h1).sL (.inl (by decide)) (.inl rfl)).sL (.inl (by decide)) (.inl rfl)).sI (.inl (by decide)) (.inl rfl)
    have C12 : CH G (fun i => i = 4 ∨ 100 ≤ i) h h2 := (w2.mono fun _ e => .inr e).trans C2
    have W2 := W.ch C12 (by omega)
    have S2 := W2.s
    have eg : eqG h0 h2 G := fun j => by rw [(C12.out S J (a := G.pg) (by rw [S.opg]; decide)).2.2.1]; exact q j
    obtain ⟨h3, x1, x2, x3, x4⟩ := g2.work W2 hc eg
    have C13 : CH G (fun i => i = 4 ∨ 100 ≤ i) h h3 := C12.trans (x2.mono fun _ e => .inr e)
    have S3 := x2.sx S2
    have f4 : FrV h3 (G.jd 4) (val β nu (E1 i)) := by
      have o := x2.own S2 J (j := 4) (.inl (by decide)) (by omega)
      exact c2.mono o.1 o.2.1
    have i1 : ∀ f, hI h1 f a = hI h0 f a := fun f => by rw [(w2.out S J oa).1 f]; exact ei f
    have i2 : ∀ f, hI h2 f a = hI h0 f a := fun f => by rw [(C12.out S J oa).1 f]; exact ei f
    have i3 : ∀ f, hI h3 f a = hI h0 f a := fun f => by rw [(C13.out S J oa).1 f]; exact ei f
    have t2 : hT h2 a = 3 := by rw [C12.1.2.2.1]; exact ta
    have t3 : hT h3 a = 3 := by rw [C13.1.2.2.1]; exact ta
    have j1 := S1.jt4 J
    have j2 := S2.jt1 J
    have j3 := S3.jt1 J
    have j4 := S3.jt4 J
    have j5 := S3.jr771 J
    have j6 := S1.jr771 J
    have j7 : hT h3 (G.jd 101) = 4 := S3.jsT J 1 (by decide)
    simp only [oN_v, oC_v, oB_v, oB2_v, oB3_v, oB4_v, oK3_v, oK4_v, oL_v, ta, S.jY J, S.jt0 J, S.jt1 J, S.jt2 J, S.jt3 J, S.jt4 J, S.jt5 J, S.jt6 J, S.jt7 J, S.jt8 J, S.jt9 J, S.jt10 J, S.jt11 J, S.jt12 J, S.jt13 J, S.jt14 J, S.jt15 J, S.jt16 J, S.jt17 J, S.jt18 J, S.jt19 J, S.jt20 J, S.jn2 J, S.jn3 J, S.jn9 J, S.jn10 J, S.jn11 J, S.jn12 J, S.jn13 J, S.jn14 J, S.jn18 J, S.jn19 J, S.jn20 J, S.jr640 J, S.jr641 J, S.jr768 J, S.jr769 J, S.jr770 J, S.jr771 J, S.jr772 J, S.jr773 J, S.jr774 J, S.jr775 J, S.jr645 J, S.jr646 J, S.jr647 J, S.jr648 J, S.jr649 J, S.jr650 J, S.jr652 J, S.jr653 J, S.jr654 J, S.jr656 J, S.jr657 J, S.jr658 J, if_true, if_false, and_false, false_and, and_true, true_and, and_self, decide_true, decide_false, reduceCtorEq, not_false_eq_true, not_true_eq_false, Nat.reduceEqDiff, Nat.reduceAdd, Nat.reduceMul, Nat.add_zero, Nat.zero_add, ei, if_neg nn.1, if_neg nn.2, w1, j1, c1, t2, j2, i2, x1, j3, j5, j4, t3, i3]
    rcases e1 : val β nu (E1 i) with _ | y1
    · rw [e1] at f4
      have z1 : hI h3 386 (G.jd 4) = 1 := f4
      rw [z1, if_neg (by decide)]
      exact ⟨h3, 0, rfl, .inr ⟨rfl, fun e => by have := e.2.2 k2; exact this⟩, C13⟩
    · rw [e1] at f4
      rw [f4.1, if_pos rfl, j7]
      rcases e2 : val β nu (E2 i) with _ | y2
      · rw [e2] at x3
        have z1 : hI h3 386 (G.jd 101) = 1 := x3
        simp only [if_true, if_false, and_false, false_and, and_true, true_and, and_self, decide_true, decide_false, reduceCtorEq, not_false_eq_true, not_true_eq_false, Nat.reduceEqDiff, Nat.reduceAdd, Nat.reduceMul, Nat.add_zero, Nat.zero_add, oN_v, oC_v, oB_v, oB2_v, oB3_v, oB4_v, oK3_v, oK4_v, oL_v, z1]
        rw [if_neg (by decide)]
        exact ⟨h3, 0, rfl, .inr ⟨rfl, fun e => by have := e.2.2 k2; exact this⟩, C13⟩
      · rw [e2] at x3
        simp only [if_true, if_false, and_false, false_and, and_true, true_and, and_self, decide_true, decide_false, reduceCtorEq, not_false_eq_true, not_true_eq_false, Nat.reduceEqDiff, Nat.reduceAdd, Nat.reduceMul, Nat.add_zero, Nat.zero_add, oN_v, oC_v, oB_v, oB2_v, oB3_v, oB4_v, oK3_v, oK4_v, oL_v, x3.1, against_v j4 j7 f4 x3]
        have tt : ∀ op, mA u0 56 i = op → ((mA u0 51 i = 1 → pM β (mA u0 54 i) = pM β (mA u0 55 i)) ∧ (mA u0 51 i = 2 → ¬ pM β (mA u0 54 i) = pM β (mA u0 55 i)) ∧ (mA u0 51 i = 3 → cmpT (mA u0 56 i) (some y1) (some y2)) ↔ tst op (cmpQ y1 y2)) := by
          intro op eo
          rw [k2, eo]
          exact ⟨fun e => e.2.2 rfl, fun e => ⟨fun z => absurd z (by decide), fun z => absurd z (by decide), fun _ => e⟩⟩
        rcases k3 with ⟨e, eo⟩ | ⟨e, eo⟩ | ⟨e, eo⟩ | ⟨e, eo⟩
        · rw [e]
          simp only [show ¬ (257 : Int32) = 60 by decide, if_false, if_true]
          by_cases c : cmpQ y1 y2 = 0
          · rw [if_pos c]
            exact ⟨h3, 1, rfl, .inl ⟨rfl, (tt 16 eo).mpr ⟨fun _ => c, fun z => absurd z (by decide), fun z => absurd z (by decide), fun z => absurd z (by decide)⟩⟩, C13⟩
          · rw [if_neg c]
            exact ⟨h3, 0, rfl, .inr ⟨rfl, fun e => c (((tt 16 eo).mp e).1 rfl)⟩, C13⟩
        · rw [e]
          simp only [show ¬ (258 : Int32) = 60 by decide, show ¬ (258 : Int32) = 257 by decide, if_false, if_true]
          by_cases c : cmpQ y1 y2 = 0
          · rw [if_pos c]
            exact ⟨h3, 0, rfl, .inr ⟨rfl, fun e => ((tt 17 eo).mp e).2.1 rfl c⟩, C13⟩
          · rw [if_neg c]
            exact ⟨h3, 1, rfl, .inl ⟨rfl, (tt 17 eo).mpr ⟨fun z => absurd z (by decide), fun _ => c, fun z => absurd z (by decide), fun z => absurd z (by decide)⟩⟩, C13⟩
        · rw [e]
          simp only [if_true]
          by_cases c : 0 ≤ cmpQ y1 y2
          · rw [if_pos c]
            exact ⟨h3, 0, rfl, .inr ⟨rfl, fun e => absurd (((tt 18 eo).mp e).2.2.1 rfl) (Int32.not_lt.mpr c)⟩, C13⟩
          · rw [if_neg c]
            exact ⟨h3, 1, rfl, .inl ⟨rfl, (tt 18 eo).mpr ⟨fun z => absurd z (by decide), fun z => absurd z (by decide), fun _ => Int32.not_le.mp c, fun z => absurd z (by decide)⟩⟩, C13⟩
        · rw [e]
          simp only [show ¬ (259 : Int32) = 60 by decide, show ¬ (259 : Int32) = 257 by decide, show ¬ (259 : Int32) = 258 by decide, if_false]
          by_cases c : 0 < cmpQ y1 y2
          · rw [if_pos c]
            exact ⟨h3, 0, rfl, .inr ⟨rfl, fun e => absurd (((tt 19 eo).mp e).2.2.2 rfl) (Int32.not_le.mpr c)⟩, C13⟩
          · rw [if_neg c]
            exact ⟨h3, 1, rfl, .inl ⟨rfl, (tt 19 eo).mpr ⟨fun z => absurd z (by decide), fun z => absurd z (by decide), fun z => absurd z (by decide), fun _ => Int32.not_lt.mp c⟩⟩, C13⟩
