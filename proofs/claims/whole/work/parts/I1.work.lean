theorem FrV.arg {h : PH} {a : Nat} {v : Option Qq} (k : FrV h a v) : Arg (hL h 384 a) (hL h 385 a) (hI h 386 a) v := by
  cases v with
  | none => exact k
  | some q => exact ⟨k.1, k.2.1, k.2.2⟩
theorem WG.neg {h : PH} {G : Gh} {β : Nat → Nat} {nv np c n E i : Nat} {nu : Nat → Int32} {a : Option Qq} {st : List (Option Qq)} (W : WC h G β nv np c nu) (hi : i + 1 ≤ E) (hE : E ≤ c) (e : hA h G.pg i = nI 3145728) (hd : st.length < 20) (k : StV h G (a :: st)) (ok : okS (a :: st)) : WG h G E i n 1 (a :: st) (qneg a :: st) := by
  have S := W.s
  have J := W.j
  have N := negate_v (S.jsT J (st.length + 1) (by omega)) k.1
  have e2 : nI i + 1 = nI (i + 1) := nI_add _ 1
  refine ⟨_, ?_, (CH.refl G _ h).sL (f := 384) (i := 100 + (st.length + 1)) (v := -(hL h 384 (G.jd (100 + (st.length + 1))))) (.inr ⟨by omega, by omega⟩) (by omega), ⟨N.2, StV.fr S J (m := st.length) ((CH.refl G _ h).sL (.inr ⟨by omega, by omega⟩) (by omega)) (Nat.le_refl _) (by omega) k.2⟩, okS.cons (okV_neg (ok a (List.mem_cons_self ..))) fun v hv => ok v (List.mem_cons_of_mem _ hv)⟩
  rw [List.length_cons, List.length_cons, work_in W (op := 3) (x := 0) (by omega) hE (by omega) (by omega) e, if_neg (by decide), if_neg (by decide), if_neg (by decide), if_pos (show nI 3 = 3 from rfl)]
  simp only [S.jY J, S.jt0 J, S.jt1 J, S.jt2 J, S.jt3 J, S.jt4 J, S.jt5 J, S.jt6 J, S.jt7 J, S.jt8 J, S.jt9 J, S.jt10 J, S.jt11 J, S.jt12 J, S.jt13 J, S.jt14 J, S.jt15 J, S.jt16 J, S.jt17 J, S.jt18 J, S.jt19 J, S.jt20 J, S.jn2 J, S.jn3 J, S.jn9 J, S.jn10 J, S.jn11 J, S.jn12 J, S.jn13 J, S.jn14 J, S.jn18 J, S.jn19 J, S.jn20 J, S.jr640 J, S.jr641 J, S.jr768 J, S.jr769 J, S.jr770 J, S.jr771 J, S.jr772 J, S.jr773 J, S.jr774 J, S.jr775 J, S.jr645 J, S.jr646 J, S.jr647 J, S.jr648 J, S.jr649 J, S.jr650 J, S.jr652 J, S.jr653 J, S.jr654 J, S.jr656 J, S.jr657 J, S.jr658 J, oN_v, oC_v, oB_v, oB2_v, oB3_v, oB4_v, oK3_v, oK4_v, oL_v, if_true, if_false, and_false, false_and, and_true, true_and, and_self, decide_true, decide_false, reduceCtorEq, not_false_eq_true, not_true_eq_false, Nat.reduceEqDiff, Nat.reduceAdd, Nat.reduceMul, Nat.add_zero, Nat.zero_add, oC_t (ix_n (show st.length + 1 < 24 by omega) (by decide)), nI_clamp (show st.length + 1 < 2147483648 by omega), S.jsC J (st.length + 1) (by omega), S.jsT J (st.length + 1) (by omega), N.1, fX6_work_180, e2]
theorem combine_v {h : PH} {op a b : Nat} {x y : Option Qq} (ho : op = 4 ∨ op = 5 ∨ op = 6) (ta : hT h a = 4) (tb : hT h b = 4) (fx : FrV h a x) (fy : FrV h b y) (ox : okV x) (oy : okV y) (G : Gh) : ∃ h', fX6_combine h (nI op) (some a) (some b) = some h' ∧ FrV h' a (q2 (if op = 4 then fadd else if op = 5 then fsub else fmul) x y) ∧ (h' = sI h 386 a 1 ∨ ∃ n d, h' = hbe h a n d) := by
  unfold fX6_combine fX6_combine_0 fX6_combine_37
  rcases ho with e | e | e <;> subst e
  · obtain ⟨h', k1, k2, k3⟩ := fadd_v (G := G) (s := 1) ta tb fx fy ox oy (.inl rfl)
    refine ⟨h', ?_, by rw [if_pos rfl] at k2 ⊢; exact k2, k3⟩
    rw [if_neg (by decide), if_pos (show nI 4 = 4 from rfl)]
    simp only [oN_v, oC_v, oB_v, oB2_v, oB3_v, oB4_v, oK3_v, oK4_v, oL_v, ta, if_true, if_false, and_false, false_and, and_true, true_and, and_self, decide_true, decide_false, reduceCtorEq, not_false_eq_true, not_true_eq_false, Nat.reduceEqDiff, Nat.reduceAdd, Nat.reduceMul, Nat.add_zero, Nat.zero_add, k1]
  · obtain ⟨h', k1, k2, k3⟩ := fadd_v (G := G) (s := -1) ta tb fx fy ox oy (.inr rfl)
    refine ⟨h', ?_, ?_, k3⟩
    · rw [if_neg (by decide), if_neg (by decide)]
      simp only [oN_v, oC_v, oB_v, oB2_v, oB3_v, oB4_v, oK3_v, oK4_v, oL_v, ta, if_true, if_false, and_false, false_and, and_true, true_and, and_self, decide_true, decide_false, reduceCtorEq, not_false_eq_true, not_true_eq_false, Nat.reduceEqDiff, Nat.reduceAdd, Nat.reduceMul, Nat.add_zero, Nat.zero_add, k1]
    · rw [if_neg (by decide)] at k2
      rw [if_neg (by decide), if_pos rfl]
      exact k2
  · obtain ⟨h', k1, k2, k3⟩ := multiply_v ta fx fy.arg ox oy
    refine ⟨h', ?_, ?_, k3⟩
    · rw [if_pos (show nI 6 = 6 from rfl)]
      simp only [oN_v, oC_v, oB_v, oB2_v, oB3_v, oB4_v, oK3_v, oK4_v, oL_v, ta, tb, if_true, if_false, and_false, false_and, and_true, true_and, and_self, decide_true, decide_false, reduceCtorEq, not_false_eq_true, not_true_eq_false, Nat.reduceEqDiff, Nat.reduceAdd, Nat.reduceMul, Nat.add_zero, Nat.zero_add, k1]
    · rw [if_neg (by decide), if_neg (by decide)]
      exact k2
theorem WG.op {h : PH} {G : Gh} {β : Nat → Nat} {nv np c n E i op : Nat} {nu : Nat → Int32} {a b : Option Qq} {st : List (Option Qq)} (W : WC h G β nv np c nu) (hi : i + 1 ≤ E) (hE : E ≤ c) (ho : op = 4 ∨ op = 5 ∨ op = 6) (e : hA h G.pg i = nI (1048576 * op)) (hd : st.length < 20) (k : StV h G (b :: a :: st)) (ok : okS (b :: a :: st)) : WG h G E i n 1 (b :: a :: st) (q2 (if op = 4 then fadd else if op = 5 then fsub else fmul) a b :: st) := by
  have S := W.s
  have J := W.j
  have oa : okV a := ok a (List.mem_cons_of_mem _ (List.mem_cons_self ..))
  have ob : okV b := ok b (List.mem_cons_self ..)
  obtain ⟨kb, ka, ks⟩ := k
  rw [List.length_cons] at kb
  obtain ⟨h', k1, k2, k3⟩ := combine_v ho (S.jsT J (st.length + 1) (by omega)) (S.jsT J (st.length + 1 + 1) (by omega)) ka kb oa ob G
  have c2 : CH G (fun i => 100 + st.length < i) h h' := by
    rcases k3 with q | ⟨x, y, q⟩ <;> subst q
    · exact (CH.refl G _ h).sI (.inr ⟨by omega, by omega⟩) (by omega)
    · exact (CH.refl G _ h).be (.inr ⟨by omega, by omega⟩) (by omega)
  have kk : okV (q2 (if op = 4 then fadd else if op = 5 then fsub else fmul) a b) := by
    rcases ho with q | q | q <;> subst q
    · rw [if_pos rfl]; exact okV_q2 fadd_ok oa ob
    · rw [if_neg (by decide), if_pos rfl]; exact okV_q2 fsub_ok oa ob
    · rw [if_neg (by decide), if_neg (by decide)]; exact okV_q2 fmul_ok oa ob
  refine ⟨h', ?_, c2.mono fun _ q => by omega, ⟨k2, StV.fr S J c2 (Nat.le_refl _) (by omega) ks⟩, okS.cons kk fun v hv => ok v (List.mem_cons_of_mem _ (List.mem_cons_of_mem _ hv))⟩
  have e2 : nI i + 1 = nI (i + 1) := nI_add _ 1
  have e3 : nI (st.length + 1 + 1) - 1 = nI (st.length + 1) := nI_sub (b := 1) (by omega)
  have e4 : nI (st.length + 1) + 1 = nI (st.length + 1 + 1) := nI_add _ 1
  have n0 : ¬ nI op = 0 ∧ ¬ nI op = 2 ∧ ¬ nI op = 1 ∧ ¬ nI op = 3 := by
    rcases ho with q | q | q <;> subst q <;> decide
  rw [List.length_cons, List.length_cons, List.length_cons, work_in W (op := op) (x := 0) (by omega) hE (by omega) (by omega) e, if_neg n0.1, if_neg n0.2.1, if_neg n0.2.2.1, if_neg n0.2.2.2]
  simp only [e3, if_neg (nI_pos (show st.length + 1 < 2147483648 by omega)), e4, S.jY J, S.jt0 J, S.jt1 J, S.jt2 J, S.jt3 J, S.jt4 J, S.jt5 J, S.jt6 J, S.jt7 J, S.jt8 J, S.jt9 J, S.jt10 J, S.jt11 J, S.jt12 J, S.jt13 J, S.jt14 J, S.jt15 J, S.jt16 J, S.jt17 J, S.jt18 J, S.jt19 J, S.jt20 J, S.jn2 J, S.jn3 J, S.jn9 J, S.jn10 J, S.jn11 J, S.jn12 J, S.jn13 J, S.jn14 J, S.jn18 J, S.jn19 J, S.jn20 J, S.jr640 J, S.jr641 J, S.jr768 J, S.jr769 J, S.jr770 J, S.jr771 J, S.jr772 J, S.jr773 J, S.jr774 J, S.jr775 J, S.jr645 J, S.jr646 J, S.jr647 J, S.jr648 J, S.jr649 J, S.jr650 J, S.jr652 J, S.jr653 J, S.jr654 J, S.jr656 J, S.jr657 J, S.jr658 J, oN_v, oC_v, oB_v, oB2_v, oB3_v, oB4_v, oK3_v, oK4_v, oL_v, if_true, if_false, and_false, false_and, and_true, true_and, and_self, decide_true, decide_false, reduceCtorEq, not_false_eq_true, not_true_eq_false, Nat.reduceEqDiff, Nat.reduceAdd, Nat.reduceMul, Nat.add_zero, Nat.zero_add, oC_t (ix_n (show st.length + 1 < 24 by omega) (by decide)), oC_t (ix_n (show st.length + 1 + 1 < 24 by omega) (by decide)), nI_clamp (show st.length + 1 < 2147483648 by omega), nI_clamp (show st.length + 1 + 1 < 2147483648 by omega), S.jsC J (st.length + 1) (by omega), S.jsC J (st.length + 1 + 1) (by omega), k1, fX6_work_180, e2]
theorem WG.tok {h : PH} {G : Gh} {β : Nat → Nat} {nv np c n E i : Nat} {nu : Nat → Int32} {st : List (Option Qq)} {t : Tok} (W : WC h G β nv np c nu) (ok : okK nv np t) (hi : i + (ct t).length ≤ E) (hE : E ≤ c) (e : ∀ k, k < (ct t).length → hA h G.pg (i + k) = nI ((ct t).getD k 0)) (d0 : if t.1 ≤ 2 then st.length < 20 else if t.1 = 3 then 1 ≤ st.length else 2 ≤ st.length) (d1 : st.length ≤ 20) (k : StV h G st) (os : okS st) : WG h G E i n (ct t).length st (evT β nu t st) ∧ (evT β nu t st).length = dpt t st.length := by
  obtain ⟨q, x, y⟩ := t
  obtain ⟨o1, o2, o3, o4⟩ := ok
  simp only at o1 o2 o3 o4 d0
  unfold evT dpt
  rcases (show q = 0 ∨ q = 1 ∨ q = 2 ∨ q = 3 ∨ (q = 4 ∨ q = 5 ∨ q = 6) by omega) with z | z | z | z | z
  · subst z
    have := e 0 (by decide : 0 < 1)
    exact ⟨WG.num W hi hE (o2 rfl) this (by simpa using d0) k os, rfl⟩
  · subst z
    have a0 := e 0 (by decide : 0 < 2)
    have a1 := e 1 (by decide : 1 < 2)
    exact ⟨WG.frac W hi hE (o3 rfl).1 (o3 rfl).2 a0 a1 (by simpa using d0) k os, rfl⟩
  · subst z
    have := e 0 (by decide : 0 < 1)
    exact ⟨WG.per W hi hE (o4 rfl).1 (o4 rfl).2 this (by simpa using d0) k os, rfl⟩
  · subst z
    have a0 := e 0 (by decide : 0 < 1)
    cases st with
    | nil => simp at d0
    | cons a s =>
      simp only [List.length_cons] at d1
      exact ⟨WG.neg W hi hE a0 (by omega) k os, rfl⟩
  · have ec : ct (q, x, y) = [1048576 * q] := by
      unfold ct
      rw [if_neg (show ¬ q = 0 by omega), if_neg (show ¬ q = 1 by omega), if_neg (show ¬ q = 2 by omega)]
    rw [ec] at e hi ⊢
    have a0 := e 0 (by decide : 0 < 1)
    rw [if_neg (by omega), if_neg (by omega)] at d0
    simp only [if_neg (show ¬ q = 0 by omega), if_neg (show ¬ q = 1 by omega), if_neg (show ¬ q = 2 by omega), if_neg (show ¬ q = 3 by omega), if_neg (show ¬ q ≤ 2 by omega)]
    cases st with
    | nil => simp at d0
    | cons b s =>
      cases s with
      | nil => simp at d0
      | cons a s =>
        simp only [List.length_cons] at d1
        exact ⟨WG.op W hi hE z a0 (by omega) k os, rfl⟩
theorem okD.le : ∀ {e : List Tok} {d d' : Nat}, okD e d d' → d' ≤ 20 → d ≤ 20 → d ≤ 20
  | _, _, _, _, _, h => h
theorem dpt_le {t : Tok} {d : Nat} (d0 : if t.1 ≤ 2 then d < 20 else if t.1 = 3 then 1 ≤ d else 2 ≤ d) (h : d ≤ 20) : dpt t d ≤ 20 := by
  unfold dpt
  by_cases a : t.1 ≤ 2
  · rw [if_pos a] at d0 ⊢; omega
  · rw [if_neg a] at d0 ⊢
    split <;> omega
theorem getD_app_l {l m : List Nat} {k : Nat} (h : k < l.length) : (l ++ m).getD k 0 = l.getD k 0 := by
  rw [List.getD_eq_getElem?_getD, List.getD_eq_getElem?_getD, List.getElem?_append_left h]
theorem getD_app_r {l m : List Nat} {k : Nat} : (l ++ m).getD (l.length + k) 0 = m.getD k 0 := by
  rw [List.getD_eq_getElem?_getD, List.getD_eq_getElem?_getD, List.getElem?_append_right (by omega), show l.length + k - l.length = k by omega]
theorem WG.all {G : Gh} {β : Nat → Nat} {nv np c n E : Nat} {nu : Nat → Int32} (hE : E ≤ c) : ∀ (e : List Tok) (h : PH) (st : List (Option Qq)) (i d' : Nat), WC h G β nv np c nu → (∀ t, t ∈ e → okK nv np t) → okD e st.length d' → i + (cc e).length ≤ E → (∀ k, k < (cc e).length → hA h G.pg (i + k) = nI ((cc e).getD k 0)) → st.length ≤ 20 → StV h G st → okS st → WG h G E i n (cc e).length st (evs β nu e st) ∧ (evs β nu e st).length = d'
  | [], h, st, i, d', W, _, od, _, _, _, k, os => ⟨⟨h, rfl, CH.refl G _ h, k, os⟩, od⟩
  | t :: e, h, st, i, d', W, ok, od, hi, ec, hl, k, os => by
    have ecc : cc (t :: e) = ct t ++ cc e := rfl
    rw [ecc] at hi ec ⊢
    rw [List.length_append] at hi ec ⊢
    obtain ⟨⟨h1, a1, a2, a3, a4⟩, a5⟩ := WG.tok (n := n + (cc e).length) W (ok t (List.mem_cons_self ..)) (show i + (ct t).length ≤ E by omega) hE (fun q hq => by rw [ec q (by omega), getD_app_l hq]) od.1 hl k os
    have W1 := W.ch a2 (by omega)
    have eA := (a2.out W.s W.j (a := G.pg) (by rw [W.s.opg]; decide)).2.2.1
    obtain ⟨⟨h2, b1, b2, b3, b4⟩, b5⟩ := WG.all hE e h1 (evT β nu t st) (i + (ct t).length) d' W1 (fun t' ht => ok t' (List.mem_cons_of_mem _ ht)) (by rw [a5]; exact od.2) (by omega) (fun q hq => by rw [eA, Nat.add_assoc, ec _ (by omega), getD_app_r]) (by rw [a5]; exact dpt_le od.1 hl) a3 a4
    refine ⟨⟨h2, ?_, a2.trans b2, b3, b4⟩, b5⟩
    rw [show n + ((ct t).length + (cc e).length) = (n + (cc e).length) + (ct t).length by omega, a1, b1, show i + (ct t).length + (cc e).length = i + ((ct t).length + (cc e).length) by omega]
    rfl
/-- the class's worth of a formula -/
theorem work_v {h : PH} {G : Gh} {β : Nat → Nat} {nv np c i : Nat} {nu : Nat → Int32} {e : List Tok} (W : WC h G β nv np c nu) (hc : c < 99000) (ok : okE nv np e) (hi : i + (cc e).length ≤ c) (ec : ∀ k, k < (cc e).length → hA h G.pg (i + k) = nI ((cc e).getD k 0)) : ∃ h' v, fX6_work h (G.jd 1) (nI i) (nI (i + (cc e).length)) = some (h', some (G.jd 101)) ∧ CH G (fun i => 100 ≤ i) h h' ∧ FrV h' (G.jd 101) v ∧ okV v ∧ evs β nu e [] = [v] := by
  obtain ⟨n, hn⟩ : ∃ n, FU = (n + 1) + (cc e).length := ⟨FU - 1 - (cc e).length, by have : FU = 100000 := rfl; omega⟩
  obtain ⟨⟨h1, a1, a2, a3, a4⟩, a5⟩ := WG.all (n := n + 1) (E := i + (cc e).length) hi e h [] i 1 W ok.1 ok.2 (Nat.le_refl _) ec (by decide) trivial (fun v hv => by cases hv)
  have S := a2.sx W.s
  have J := W.j
  rcases ev : evs β nu e [] with _ | ⟨v, _ | ⟨_, _⟩⟩
  · rw [ev] at a5; simp at a5
  · rw [ev] at a1 a3 a4
    refine ⟨h1, v, ?_, a2, a3.1, a4 v (List.mem_cons_self ..), rfl⟩
    have e0 : (if 0 < nI i then nI i else 0) = nI i := by
      by_cases z : i = 0
      · subst z; rfl
      · rw [if_pos (by rw [show (0 : Int32) = nI 0 from rfl]; exact nI_lt (by omega) (by omega))]
    unfold fX6_work fX6_work_0
    rw [oL_v, e0, hn, show (0 : Int32) = nI ([] : List (Option Qq)).length from rfl, a1]
    show fX6_work_9F (fX6_work_9 n) h1 (G.jd 1) _ _ _ = _
    unfold fX6_work_9F fX6_work_186
    rw [if_pos (Int32.le_refl _)]
    simp only [S.jY J, S.jt0 J, S.jt1 J, S.jt2 J, S.jt3 J, S.jt4 J, S.jt5 J, S.jt6 J, S.jt7 J, S.jt8 J, S.jt9 J, S.jt10 J, S.jt11 J, S.jt12 J, S.jt13 J, S.jt14 J, S.jt15 J, S.jt16 J, S.jt17 J, S.jt18 J, S.jt19 J, S.jt20 J, S.jn2 J, S.jn3 J, S.jn9 J, S.jn10 J, S.jn11 J, S.jn12 J, S.jn13 J, S.jn14 J, S.jn18 J, S.jn19 J, S.jn20 J, S.jr640 J, S.jr641 J, S.jr768 J, S.jr769 J, S.jr770 J, S.jr771 J, S.jr772 J, S.jr773 J, S.jr774 J, S.jr775 J, S.jr645 J, S.jr646 J, S.jr647 J, S.jr648 J, S.jr649 J, S.jr650 J, S.jr652 J, S.jr653 J, S.jr654 J, S.jr656 J, S.jr657 J, S.jr658 J, oN_v, oC_v, oB_v, oB2_v, oB3_v, oB4_v, oK3_v, oK4_v, oL_v, if_true, if_false, and_false, false_and, and_true, true_and, and_self, decide_true, decide_false, reduceCtorEq, not_false_eq_true, not_true_eq_false, Nat.reduceEqDiff, Nat.reduceAdd, Nat.reduceMul, Nat.add_zero, Nat.zero_add, List.length_cons, List.length_nil, oC_t (ix_n (show 1 < 24 by decide) (by decide)), nI_clamp (show 1 < 2147483648 by decide), S.jsC J 1 (by decide)]
  · rw [ev] at a5; simp at a5
