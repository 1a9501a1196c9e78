/-- the class's conditions -/
theorem plainC {h0 : PH} {u0 : MS} {G : Gh} {z : Sz} {β : Nat → Nat} {nu : Nat → Int32} {E1 E2 E3 : Nat → List Tok} {r : Nat} (mo : Mo h0 u0 G z E1 E2 E3) (S0 : SX h0 G) (J : G.jj = true) (K : KR h0 u0 G z) (zo : z.ok) (hc : z.pc < 99000) (hr : r < z.nr) : ∀ m k f h, k + m = cN u0 r → WC h G β (vN u0 r) z.np z.pc nu → Ag (gr (hZ h0) G 3) h0 h → ∃ h' x, fX5_plainConditionsHold_2 (f + (m + 1)) h (G.jd 0) (some (G.rl r)) (nI k) = some (h', x) ∧ Tf x (allP (fun i => cnP u0 nu E1 E2 β (6 * r + i)) k (cN u0 r)) ∧ CH G (fun i => i = 4 ∨ 100 ≤ i) h h' := by
  have kn := K.nrG
  obtain ⟨l, kk, n, v, h1, h2, h3, h4, h5, h6, h7, h8, h9, ha, hb, hc', hd, he, hf⟩ := K.ru r hr
  have en : cN u0 r = n := by unfold cN; rw [hb, nI_clamp (by omega)]
  have ev : vN u0 r = v := by unfold vN; rw [hd, nI_clamp (by omega)]
  have nr := zo.2.2.2.2.1
  have r30 := S0.nr30
  have grl : gr (hZ h0) G 3 (G.rl r) := ⟨lt_T S0.fr (S0.rlT r (by omega)) (by omega), by rw [S0.rlo r (by omega)]; omega⟩
  have gpg : gr (hZ h0) G 3 G.pg := ⟨lt_T S0.fr S0.tpg (by omega), by rw [S0.opg]⟩
  have gcd : ∀ k, k < n → gr (hZ h0) G 3 (G.cd r k) := fun k hk => ⟨lt_T S0.fr (S0.cdT r (by omega) k (by omega)) (by omega), by rw [S0.cdo r (by omega) k (by omega)]; omega⟩
  rw [en]
  intro m
  induction m with
  | zero =>
    intro k f h ek W g
    have S := W.s
    have t := S.rlT r (by omega)
    have e27 : hI h 1027 (G.rl r) = nI n := by rw [(g _ grl).1]; exact ha
    refine ⟨h, 1, ?_, .inl ⟨rfl, allP.end' (by omega)⟩, CH.refl G _ h⟩
    show fX5_plainConditionsHold_2F (fX5_plainConditionsHold_2 f) h (G.jd 0) (some (G.rl r)) (nI k) = _
    unfold fX5_plainConditionsHold_2F
    simp only [oN_v, oC_v, oB_v, oB2_v, oB3_v, oB4_v, oK3_v, oK4_v, oL_v, t, if_true, if_false, and_false, false_and, and_true, true_and, and_self, decide_true, decide_false, reduceCtorEq, not_false_eq_true, not_true_eq_false, Nat.reduceEqDiff, Nat.reduceAdd, Nat.reduceMul, Nat.add_zero, Nat.zero_add, e27]
    rw [if_pos (nI_le (by omega) (by omega))]
  | succ m ih =>
    intro k f h ek W g
    have S := W.s
    have t := S.rlT r (by omega)
    have t2 := S.caT r (by omega)
    have t3 := S.caR r (by omega)
    have t4 := S.caN r (by omega)
    have t5 := S.cdC r (by omega) k (by omega)
    have t6 := S.cdT r (by omega) k (by omega)
    have e27 : hI h 1027 (G.rl r) = nI n := by rw [(g _ grl).1]; exact ha
    have ei : ∀ f, hI h f (G.cd r k) = hI h0 f (G.cd r k) := (g _ (gcd k (by omega))).1
    have e1 : nI k + 1 = nI (k + 1) := nI_add _ 1
    have q := hf k (by omega)
    rw [← ev] at q
    show ∃ h' x, fX5_plainConditionsHold_2F (fX5_plainConditionsHold_2 (f + (m + 1))) h (G.jd 0) (some (G.rl r)) (nI k) = some (h', x) ∧ _
    unfold fX5_plainConditionsHold_2F fX5_plainConditionsHold_44
    simp only [oN_v, oC_v, oB_v, oB2_v, oB3_v, oB4_v, oK3_v, oK4_v, oL_v, t, t2, t3, t4, t5, t6, S.jY J, S.jt0 J, S.jt1 J, S.jt2 J, S.jt3 J, S.jt4 J, S.jt5 J, S.jt6 J, S.jt7 J, S.jt8 J, S.jt9 J, S.jt10 J, S.jt11 J, S.jt12 J, S.jt13 J, S.jt14 J, S.jt15 J, S.jt16 J, S.jt17 J, S.jt18 J, S.jt19 J, S.jt20 J, S.jn2 J, S.jn3 J, S.jn9 J, S.jn10 J, S.jn11 J, S.jn12 J, S.jn13 J, S.jn14 J, S.jn18 J, S.jn19 J, S.jn20 J, S.jr640 J, S.jr641 J, S.jr768 J, S.jr769 J, S.jr770 J, S.jr771 J, S.jr772 J, S.jr773 J, S.jr774 J, S.jr775 J, S.jr645 J, S.jr646 J, S.jr647 J, S.jr648 J, S.jr649 J, S.jr650 J, S.jr652 J, S.jr653 J, S.jr654 J, S.jr656 J, S.jr657 J, S.jr658 J, if_true, if_false, and_false, false_and, and_true, true_and, and_self, decide_true, decide_false, reduceCtorEq, not_false_eq_true, not_true_eq_false, Nat.reduceEqDiff, Nat.reduceAdd, Nat.reduceMul, Nat.add_zero, Nat.zero_add, e27, if_neg (nI_ge (show k < n by omega) (show n < 2147483648 by omega)), oC_t (ix_n (show k < 6 by omega) (by decide)), nI_clamp (show k < 2147483648 by omega), ei, e1]
    by_cases c0 : mA u0 51 (6 * r + k) = 0
    · have c1 : hI h0 256 (G.cd r k) = 260 := by
        rcases q with ⟨q, _⟩ | ⟨_, q, _⟩ | ⟨_, q, _⟩ | ⟨q, _⟩
        · exact q
        · rw [c0] at q; exact absurd q (by decide)
        · rw [c0] at q; exact absurd q (by decide)
        · rw [c0] at q; exact absurd q (by decide)
      rw [if_pos c1]
      obtain ⟨h', x, q1, q2, q3⟩ := ih (k + 1) f h (by omega) W g
      exact ⟨h', x, q1, q2.iff (allP.iff (by omega) ⟨fun e => absurd (c0.symm.trans e) (by decide), fun e => absurd (c0.symm.trans e) (by decide), fun e => absurd (c0.symm.trans e) (by decide)⟩), q3⟩
    · have c1 : ¬ hI h0 256 (G.cd r k) = 260 := by
        rcases q with ⟨_, q, _⟩ | ⟨q, _⟩ | ⟨q, _⟩ | ⟨_, q, _⟩
        · exact absurd q c0
        · rw [q]; decide
        · rw [q]; decide
        · rcases q with ⟨q, _⟩ | ⟨q, _⟩ | ⟨q, _⟩ | ⟨q, _⟩ <;> rw [q] <;> decide
      rw [if_neg c1]
      obtain ⟨h1, x, a1, a2, a3⟩ := holdsC (r := r) W zo hc (fun i => (g _ gpg).2.2.1 i) ei (by rw [S.cdo r (by omega) k (by omega)]; omega) t6 q (fun e => mo.cd r k hr (by rw [en]; omega) e) c0
      rw [a1, oB2_v]
      rcases a2 with ⟨e, c⟩ | ⟨e, c⟩
      · rw [e, if_neg (show ¬ (1 : Int32) = 0 by decide)]
        have g1 : Ag (gr (hZ h0) G 3) h0 h1 := g.trans (fun a ga => a3.out S J (by have := ga.2; omega))
        obtain ⟨h', y, q1, q2, q3⟩ := ih (k + 1) f h1 (by omega) (W.ch a3 (by omega)) g1
        exact ⟨h', y, q1, q2.iff (allP.iff (by omega) c), a3.trans q3⟩
      · rw [e, if_pos (show (0 : Int32) = 0 from rfl)]
        exact ⟨h1, 0, rfl, .inr ⟨rfl, fun a => c (a k (Nat.le_refl _) (by omega))⟩, a3⟩
