/-! a formula's worth -/
def evT (β : Nat → Nat) (nu : Nat → Int32) (t : Tok) (st : List (Option Qq)) : List (Option Qq) :=
  if t.1 = 0 then low (nL t.2.1) 1 :: st
  else if t.1 = 1 then low (nL t.2.1) (nL t.2.2) :: st
  else if t.1 = 2 then low (Int32.toInt64 (nu (4 * pe β t.2.1 + t.2.2))) 1 :: st
  else if t.1 = 3 then (match st with
    | a :: s => qneg a :: s
    | [] => [])
  else match st with
    | b :: a :: s => q2 (if t.1 = 4 then fadd else if t.1 = 5 then fsub else fmul) a b :: s
    | _ => []
def evs (β : Nat → Nat) (nu : Nat → Int32) : List Tok → List (Option Qq) → List (Option Qq)
  | [], st => st
  | t :: e, st => evs β nu e (evT β nu t st)
def StV (h : PH) (G : Gh) : List (Option Qq) → Prop
  | [] => True
  | v :: st => FrV h (G.jd (100 + (st.length + 1))) v ∧ StV h G st
def okS (st : List (Option Qq)) : Prop := ∀ v, v ∈ st → okV v
theorem okS.cons {v : Option Qq} {st : List (Option Qq)} (a : okV v) (b : okS st) : okS (v :: st) := by
  intro w hw
  rcases List.mem_cons.mp hw with e | e
  · rw [e]; exact a
  · exact b w e
theorem StV.fr {h h' : PH} {G : Gh} {m : Nat} (S : SX h G) (J : G.jj = true) (c : CH G (fun i => 100 + m < i) h h') : ∀ {st : List (Option Qq)}, st.length ≤ m → st.length < 23 → StV h G st → StV h' G st
  | [], _, _, _ => trivial
  | v :: st, hm, hl, k => by
    simp only [List.length_cons] at hm hl
    have o := c.own S J (j := 100 + (st.length + 1)) (.inr ⟨by omega, by omega⟩) (by omega)
    exact ⟨k.1.mono o.1 o.2.1, StV.fr S J c (by omega) (by omega) k.2⟩
theorem okND_1 {v : Int64} (h : v.toInt.natAbs ≤ 4000000000000000000) : okND v 1 := ⟨h, by decide, by decide⟩
theorem work_push {h : PH} {G : Gh} {n E d i : Nat} {v : Int64} (S : SX h G) (J : G.jj = true) (hd : d < 20) (o : v.toInt.natAbs ≤ 4000000000000000000) : fX6_work_86 (fX6_work_9 n) h (G.jd 1) (nI E) (nI d) (nI i) v = fX6_work_9 n (hbe h (G.jd (100 + (d + 1))) v 1) (G.jd 1) (nI E) (nI (d + 1)) (nI (i + 1)) := by
  have e1 : nI d + 1 = nI (d + 1) := nI_add d 1
  have e2 : nI i + 1 = nI (i + 1) := nI_add i 1
  have q : ¬ (23 : Int32) < nI (d + 1) := nI_nlt (a := 23) (by omega) (by omega)
  have k := become_v (S.jsT J (d + 1) (by omega)) (okND_1 o)
  simp only [fX6_work_86, fX6_work_180, e1, if_neg q, oN_v, oC_v, oB_v, oB2_v, oB3_v, oB4_v, oK3_v, oK4_v, oL_v, S.jY J, S.jt0 J, S.jt1 J, S.jt2 J, S.jt3 J, S.jt4 J, S.jt5 J, S.jt6 J, S.jt7 J, S.jt8 J, S.jt9 J, S.jt10 J, S.jt11 J, S.jt12 J, S.jt13 J, S.jt14 J, S.jt15 J, S.jt16 J, S.jt17 J, S.jt18 J, S.jt19 J, S.jt20 J, S.jn2 J, S.jn3 J, S.jn9 J, S.jn10 J, S.jn11 J, S.jn12 J, S.jn13 J, S.jn14 J, S.jn18 J, S.jn19 J, S.jn20 J, S.jr640 J, S.jr641 J, S.jr768 J, S.jr769 J, S.jr770 J, S.jr771 J, S.jr772 J, S.jr773 J, S.jr774 J, S.jr775 J, S.jr645 J, S.jr646 J, S.jr647 J, S.jr648 J, S.jr649 J, S.jr650 J, S.jr652 J, S.jr653 J, S.jr654 J, S.jr656 J, S.jr657 J, S.jr658 J, if_true, if_false, and_false, false_and, and_true, true_and, and_self, decide_true, decide_false, reduceCtorEq, not_false_eq_true, not_true_eq_false, Nat.reduceEqDiff, Nat.reduceAdd, Nat.reduceMul, Nat.add_zero, Nat.zero_add, oC_t (ix_n (show d + 1 < 24 by omega) (by decide)), nI_clamp (show d + 1 < 2147483648 by omega), S.jsC J (d + 1) (by omega), S.jsT J (d + 1) (by omega), k, e2]
theorem StV.push {h : PH} {G : Gh} {v : Int64} {st : List (Option Qq)} (S : SX h G) (J : G.jj = true) (hd : st.length < 20) (k : StV h G st) : StV (hbe h (G.jd (100 + (st.length + 1))) v 1) G (low v 1 :: st) := by
  refine ⟨FrV.be, StV.fr S J (m := st.length) ?_ (Nat.le_refl _) (by omega) k⟩
  exact (CH.refl G _ h).be (.inr ⟨by omega, by omega⟩) (by omega)
theorem nI64_abs {x : Nat} (h : x < 2147483648) : (Int32.toInt64 (nI x)).toInt.natAbs = x := by
  rw [nI_64 h, nL_toInt (by omega)]
  omega
theorem i32_64 (x : Int32) : (Int32.toInt64 x).toInt = x.toInt := Int32.toInt_toInt64 x
/-- what a step of the formula leaves: work goes on -/
def WG (h : PH) (G : Gh) (E i n l : Nat) (st st' : List (Option Qq)) : Prop := ∃ h', fX6_work_9 (n + l) h (G.jd 1) (nI E) (nI st.length) (nI i) = fX6_work_9 n h' (G.jd 1) (nI E) (nI st'.length) (nI (i + l)) ∧ CH G (fun i => 100 ≤ i) h h' ∧ StV h' G st' ∧ okS st'
theorem okV_low1 {v : Int64} (o : v.toInt.natAbs ≤ 4000000000000000000) : okV (low v 1) := low_ok (okND_1 o)
theorem WG.num {h : PH} {G : Gh} {β : Nat → Nat} {nv np c n E i x : Nat} {nu : Nat → Int32} {st : List (Option Qq)} (W : WC h G β nv np c nu) (hi : i + 1 ≤ E) (hE : E ≤ c) (hx : x ≤ 999999) (e : hA h G.pg i = nI x) (hd : st.length < 20) (k : StV h G st) (ok : okS st) : WG h G E i n 1 st (low (nL x) 1 :: st) := by
  have o : (nL x).toInt.natAbs ≤ 4000000000000000000 := by rw [nL_toInt (by omega)]; omega
  refine ⟨hbe h (G.jd (100 + (st.length + 1))) (nL x) 1, ?_, (CH.refl G _ h).be (.inr ⟨by omega, by omega⟩) (by omega), k.push W.s W.j hd, okS.cons (okV_low1 o) ok⟩
  rw [work_in W (op := 0) (x := x) (by omega) hE (by omega) (by omega) (by rw [e]; congr 1; omega), if_pos (show nI 0 = 0 from rfl)]
  unfold fX6_work_68
  rw [if_pos (show nI 0 = 0 from rfl), nI_64 (by omega), work_push W.s W.j hd o]
  rfl
theorem WG.per {h : PH} {G : Gh} {β : Nat → Nat} {nv np c n E i t y : Nat} {nu : Nat → Int32} {st : List (Option Qq)} (W : WC h G β nv np c nu) (hi : i + 1 ≤ E) (hE : E ≤ c) (hk : okTm nv np t) (hy : y < 4) (e : hA h G.pg i = nI (2097152 + (4 * t + y))) (hd : st.length < 20) (k : StV h G st) (ok : okS st) : WG h G E i n 1 st (low (Int32.toInt64 (nu (4 * pe β t + y))) 1 :: st) := by
  have l := pe_lt (fun v hv => (W.b v hv).2) hk
  have p5 := W.p5
  have t8 : t < 8 := by
    have := W.n3
    rcases hk with ⟨o1, o2⟩ | ⟨o1, o2, o3⟩ <;> omega
  have o : (Int32.toInt64 (nu (4 * pe β t + y))).toInt.natAbs ≤ 4000000000000000000 := by
    have := (W.nm (4 * pe β t + y) (by omega)).2
    rw [i32_64]; omega
  have S := W.s
  have J := W.j
  refine ⟨hbe h (G.jd (100 + (st.length + 1))) (Int32.toInt64 (nu (4 * pe β t + y))) 1, ?_, (CH.refl G _ h).be (.inr ⟨by omega, by omega⟩) (by omega), k.push W.s W.j hd, okS.cons (okV_low1 o) ok⟩
  rw [work_in W (op := 2) (x := 4 * t + y) (by omega) hE (by omega) (by omega) (by rw [e]), if_neg (by decide), if_pos (show nI 2 = 2 from rfl)]
  unfold fX6_work_68
  rw [if_neg (show ¬ nI 2 = 0 by decide)]
  simp only [S.jY J, S.jt0 J, S.jt1 J, S.jt2 J, S.jt3 J, S.jt4 J, S.jt5 J, S.jt6 J, S.jt7 J, S.jt8 J, S.jt9 J, S.jt10 J, S.jt11 J, S.jt12 J, S.jt13 J, S.jt14 J, S.jt15 J, S.jt16 J, S.jt17 J, S.jt18 J, S.jt19 J, S.jt20 J, S.jn2 J, S.jn3 J, S.jn9 J, S.jn10 J, S.jn11 J, S.jn12 J, S.jn13 J, S.jn14 J, S.jn18 J, S.jn19 J, S.jn20 J, S.jr640 J, S.jr641 J, S.jr768 J, S.jr769 J, S.jr770 J, S.jr771 J, S.jr772 J, S.jr773 J, S.jr774 J, S.jr775 J, S.jr645 J, S.jr646 J, S.jr647 J, S.jr648 J, S.jr649 J, S.jr650 J, S.jr652 J, S.jr653 J, S.jr654 J, S.jr656 J, S.jr657 J, S.jr658 J, oN_v, oC_v, oB_v, oB2_v, oB3_v, oB4_v, oK3_v, oK4_v, oL_v, if_true, if_false, and_false, false_and, and_true, true_and, and_self, decide_true, decide_false, reduceCtorEq, not_false_eq_true, not_true_eq_false, Nat.reduceEqDiff, Nat.reduceAdd, Nat.reduceMul, Nat.add_zero, Nat.zero_add, numberC W hk hy, work_push S J hd o]
  rfl
theorem one64 : 1 ≤ Int64.toInt 1 ∧ Int64.toInt 1 ≤ 1000000000 := by decide
theorem WG.frac {h : PH} {G : Gh} {β : Nat → Nat} {nv np c n E i x y : Nat} {nu : Nat → Int32} {st : List (Option Qq)} (W : WC h G β nv np c nu) (hi : i + 2 ≤ E) (hE : E ≤ c) (hx : x ≤ 999999) (hy : 1 ≤ y ∧ y ≤ 999999) (e : hA h G.pg i = nI x) (e' : hA h G.pg (i + 1) = nI (1048576 + y)) (hd : st.length < 20) (k : StV h G st) (ok : okS st) : WG h G E i n 2 st (low (nL x) (nL y) :: st) := by
  obtain ⟨h1, g1, g2, g3, g4⟩ := WG.num (n := n + 1) W (by omega) hE hx e hd k ok
  have W1 := W.ch g2 (by omega)
  have S := W1.s
  have J := W1.j
  have ax : (nL x).toInt.natAbs = x := by rw [nL_toInt (by omega)]; omega
  have ay : (nL y).toInt = y := nL_toInt (by omega)
  have ox : okQ (nL x, 1) := ⟨by show (nL x).toInt.natAbs ≤ _; omega, one64.1, one64.2, by show Nat.gcd _ (Int64.toInt 1).natAbs = 1; rw [show (Int64.toInt 1).natAbs = 1 from rfl, Nat.gcd_one_right]⟩
  have oy : okQ (1, nL y) := ⟨show (Int64.toInt 1).natAbs ≤ _ by decide, by show 1 ≤ (nL y).toInt; omega, by show (nL y).toInt ≤ _; omega, by show Nat.gcd (Int64.toInt 1).natAbs _ = 1; rw [show (Int64.toInt 1).natAbs = 1 from rfl, Nat.gcd_one_left]⟩
  rw [low_self ox] at g3 g4
  have eA : hA h1 G.pg (i + 1) = nI (1048576 * 1 + y) := by
    rw [(g2.out W.s W.j (a := G.pg) (by rw [W.s.opg]; decide)).2.2.1]
    exact e'
  obtain ⟨h2, k1, k2, k3⟩ := multiply_v (n := 1) (d := Int32.toInt64 (nI y)) (f := 0) (S.jsT J (st.length + 1) (by omega)) g3.1 (y := some (1, nL y)) ⟨rfl, rfl, nI_64 (by omega)⟩ (fun q e => by cases e; exact ox) (fun q e => by cases e; exact oy)
  have ef : q2 fmul (some (nL x, 1)) (some (1, nL y)) = low (nL x) (nL y) := by
    show low (nL x * 1) (1 * nL y) = _
    rw [Int64.mul_one, Int64.one_mul]
  rw [ef] at k2
  have c2 : CH G (fun i => 100 + st.length < i) h1 h2 := by
    rcases k3 with q | ⟨a, b, q⟩ <;> subst q
    · exact (CH.refl G _ h1).sI (.inr ⟨by omega, by omega⟩) (by omega)
    · exact (CH.refl G _ h1).be (.inr ⟨by omega, by omega⟩) (by omega)
  refine ⟨h2, ?_, g2.trans (c2.mono fun _ q => by omega), ⟨k2, StV.fr S J c2 (Nat.le_refl _) (by omega) g3.2⟩, okS.cons (low_ok ⟨by omega, by omega, by omega⟩) ok⟩
  have e0 : n + 2 = (n + 1) + 1 := rfl
  have e2 : nI (i + 1) + 1 = nI (i + 2) := nI_add _ 1
  rw [e0, g1, List.length_cons, work_in W1 (op := 1) (x := y) (by omega) hE (by omega) (by omega) eA, if_neg (by decide), if_neg (by decide), if_pos (show nI 1 = 1 from rfl)]
  simp only [S.jY J, S.jt0 J, S.jt1 J, S.jt2 J, S.jt3 J, S.jt4 J, S.jt5 J, S.jt6 J, S.jt7 J, S.jt8 J, S.jt9 J, S.jt10 J, S.jt11 J, S.jt12 J, S.jt13 J, S.jt14 J, S.jt15 J, S.jt16 J, S.jt17 J, S.jt18 J, S.jt19 J, S.jt20 J, S.jn2 J, S.jn3 J, S.jn9 J, S.jn10 J, S.jn11 J, S.jn12 J, S.jn13 J, S.jn14 J, S.jn18 J, S.jn19 J, S.jn20 J, S.jr640 J, S.jr641 J, S.jr768 J, S.jr769 J, S.jr770 J, S.jr771 J, S.jr772 J, S.jr773 J, S.jr774 J, S.jr775 J, S.jr645 J, S.jr646 J, S.jr647 J, S.jr648 J, S.jr649 J, S.jr650 J, S.jr652 J, S.jr653 J, S.jr654 J, S.jr656 J, S.jr657 J, S.jr658 J, oN_v, oC_v, oB_v, oB2_v, oB3_v, oB4_v, oK3_v, oK4_v, oL_v, if_true, if_false, and_false, false_and, and_true, true_and, and_self, decide_true, decide_false, reduceCtorEq, not_false_eq_true, not_true_eq_false, Nat.reduceEqDiff, Nat.reduceAdd, Nat.reduceMul, Nat.add_zero, Nat.zero_add, oC_t (ix_n (show st.length + 1 < 24 by omega) (by decide)), nI_clamp (show st.length + 1 < 2147483648 by omega), S.jsC J (st.length + 1) (by omega), S.jsT J (st.length + 1) (by omega), k1, fX6_work_180, e2]
  rfl
