/-! the class reckons: one formula taken -/
theorem opCH {h h' : PH} {G : Gh} {i : Nat} (w : vj i) (k : h' = sI h 386 (G.jd i) 1 ∨ ∃ n d, h' = hbe h (G.jd i) n d) : CH G (fun j => j = i) h h' := by
  rcases k with k | ⟨n, d, k⟩
  · rw [k]; exact (CH.refl G (fun j => j = i) h).sI w rfl
  · rw [k]; exact (CH.refl G (fun j => j = i) h).be w rfl
theorem cpCH {h h' : PH} {G : Gh} {i : Nat} (w : vj i) (k : ∃ n d f, h' = sI (sL (sL h 384 (G.jd i) n) 385 (G.jd i) d) 386 (G.jd i) f) : CH G (fun j => j = i) h h' := by
  obtain ⟨n, d, f, k⟩ := k
  rw [k]; exact (((CH.refl G (fun j => j = i) h).sL w rfl).sL w rfl).sI w rfl
def capC (h : PH) (G : Gh) (i f : Nat) : Option Qq → Prop
  | none => hI h f (G.jd 1) = 0
  | some q => hI h f (G.jd 1) = 1 ∧ FrV h (G.jd i) (some q)
def CKs (h : PH) (G : Gh) (s : Option SSm) : Prop :=
  match s with
  | none => ∃ vs vp, FrV h (G.jd 5) vs ∧ okV vs ∧ FrV h (G.jd 6) vp ∧ okV vp ∧ (vs = none ∨ vp = none)
  | some (a, m, c, f) => FrV h (G.jd 5) (some a) ∧ FrV h (G.jd 6) (some m) ∧ capC h G 7 776 c ∧ capC h G 8 777 f
theorem capC.ch {h h' : PH} {G : Gh} {i f : Nat} {c : Option Qq} (k : capC h G i f c) (e1 : hI h' f (G.jd 1) = hI h f (G.jd 1)) (e2 : ∀ f, hI h' f (G.jd i) = hI h f (G.jd i)) (e3 : ∀ f, hL h' f (G.jd i) = hL h f (G.jd i)) : capC h' G i f c := by
  cases c with
  | none => exact e1.trans k
  | some q => exact ⟨e1.trans k.1, k.2.mono e2 e3⟩
theorem FrV.ch {h h' : PH} {G : Gh} {P : Nat → Prop} {i : Nat} {v : Option Qq} (k : FrV h (G.jd i) v) (c : CH G P h h') (S : SX h G) (J : G.jj = true) (w : vj i) (n : ¬ P i) : FrV h' (G.jd i) v := k.mono (c.own S J w n).1 (c.own S J w n).2.1
theorem CKs.ch {h h' : PH} {G : Gh} {P : Nat → Prop} {s : Option SSm} (k : CKs h G s) (c : CH G P h h') (S : SX h G) (J : G.jj = true) (n : ∀ i, i = 1 ∨ i = 5 ∨ i = 6 ∨ i = 7 ∨ i = 8 → ¬ P i) : CKs h' G s := by
  have v1 : vj 1 := by unfold vj; omega
  have v5 : vj 5 := by unfold vj; omega
  have v6 : vj 6 := by unfold vj; omega
  have v7 : vj 7 := by unfold vj; omega
  have v8 : vj 8 := by unfold vj; omega
  rcases s with _ | ⟨a, m, cp, fl⟩
  · obtain ⟨vs, vp, k1, k2, k3, k4, k5⟩ := k
    exact ⟨vs, vp, k1.ch c S J v5 (n 5 (by omega)), k2, k3.ch c S J v6 (n 6 (by omega)), k4, k5⟩
  · obtain ⟨k1, k2, k3, k4⟩ := k
    have o1 := (c.own S J v1 (n 1 (by omega))).1
    have o7 := c.own S J v7 (n 7 (by omega))
    have o8 := c.own S J v8 (n 8 (by omega))
    exact ⟨k1.ch c S J v5 (n 5 (by omega)), k2.ch c S J v6 (n 6 (by omega)), k3.ch (o1 _) o7.1 o7.2.1, k4.ch (o1 _) o8.1 o8.2.1⟩
theorem against_any {h : PH} {a b : Nat} (ta : hT h a = 4) (tb : hT h b = 4) : ∃ r, fX3_against h a (some b) = some r := by
  simp only [fX3_against, fX3_against_0, ta, tb, oN_v, oC_v, oB_v, oB2_v, oB3_v, oB4_v, oK3_v, oK4_v, oL_v, if_true, if_false, and_false, false_and, and_true, true_and, and_self, decide_true, decide_false, reduceCtorEq, not_false_eq_true, not_true_eq_false, Nat.reduceEqDiff, Nat.reduceAdd, Nat.reduceMul, Nat.add_zero, Nat.zero_add, compare_v]
  exact ⟨_, rfl⟩
theorem cmp_m1 (a b : Qq) : (cmpQ a b * (-1) ≤ 0) ↔ 0 ≤ cmpQ a b := by
  unfold cmpQ
  rcases lc_3 (a.1 * b.2) (b.1 * a.2) with e | e | e <;> rw [e] <;> decide
theorem cmp_1 (a b : Qq) : (cmpQ a b * 1 ≤ 0) ↔ cmpQ a b ≤ 0 := by
  unfold cmpQ
  rcases lc_3 (a.1 * b.2) (b.1 * a.2) with e | e | e <;> rw [e] <;> decide
/-- what a limit does -/
def pTk (i : Nat) : Prop := i = 1 ∨ i = 5 ∨ i = 6 ∨ i = 7 ∨ i = 8
theorem limitC {h : PH} {G : Gh} {v : Option Qq} {i : Nat} {fl sg : Int32} (S : SX h G) (J : G.jj = true) (hi : i = 7 ∨ i = 8) (fv : FrV h (G.jd 101) v) : ∃ h', fX6_limit h (G.jd 1) (some (G.jd i)) (some (G.jd 101)) fl sg = some h' ∧ (match v with | none => h' = sI h 386 (G.jd 5) 1 | some q => CH G (fun j => j = i) h h' ∧ (fl = 0 → FrV h' (G.jd i) (some q)) ∧ ∀ c, FrV h (G.jd i) (some c) → ¬ fl = 0 → FrV h' (G.jd i) (some (if cmpQ q c * sg ≤ 0 then c else q))) := by
  have vi : vj i := by unfold vj; omega
  have t101 : hT h (G.jd 101) = 4 := S.jsT J 1 (by decide)
  have ti : hT h (G.jd i) = 4 := by
    rcases hi with e | e <;> rw [e]
    · exact S.jt7 J
    · exact S.jt8 J
  have ne : G.jd 101 ≠ G.jd i := jd_ne S J (show vj 101 by unfold vj; omega) vi (by omega)
  cases v with
  | none =>
    have f1 : hI h 386 (G.jd 101) = 1 := fv
    refine ⟨sI h 386 (G.jd 5) 1, ?_, rfl⟩
    rw [fX6_limit, fX6_limit_0, oN_v, oC_d t101, f1, if_neg (by decide), oC_d (S.jt1 J), S.jr772 J, oN_v, oC_d (S.jt5 J), oL_v]
  | some q =>
    obtain ⟨h1, a1, a2, a3⟩ := fcopy_v ti t101 ne fv
    have c1 := cpCH vi a3
    have e33 : fX6_limit_33 h (some (G.jd i)) (some (G.jd 101)) = some h1 := by
      rw [fX6_limit_33, oN_v, oC_d ti, a1, oB_v]
    rw [fX6_limit, fX6_limit_0, oN_v, oC_d t101, fv.1, if_pos rfl]
    by_cases z : fl = 0
    · rw [if_pos z, e33]
      exact ⟨h1, rfl, c1, fun _ => a2, fun c _ n => absurd z n⟩
    · obtain ⟨r, hr⟩ := against_any t101 ti
      rw [if_neg z, hr, oB_v]
      by_cases d : r * sg ≤ 0
      · rw [if_pos d]
        refine ⟨h, rfl, CH.refl G _ h, fun n => absurd n z, fun c fc _ => ?_⟩
        have := against_v t101 ti fv fc
        rw [hr] at this
        rw [← Option.some.inj this, if_pos d]; exact fc
      · rw [if_neg d, e33]
        refine ⟨h1, rfl, c1, fun _ => a2, fun c fc _ => ?_⟩
        have := against_v t101 ti fv fc
        rw [hr] at this
        rw [← Option.some.inj this, if_neg d]; exact a2
theorem stpS_k {k : Int32} {a m q : Qq} {c f : Option Qq} : stpS k (some q) (some (a, m, c, f)) = if k = 0 then (fadd a q).map (fun a' => (a', m, c, f)) else if k = 1 then (fmul m q).map (fun m' => (a, m', c, f)) else if k = 2 then some (a, m, some (capQ q c), f) else some (a, m, c, some (flrQ q f)) := rfl
theorem stpS_0 {a m q : Qq} {c f : Option Qq} : stpS 0 (some q) (some (a, m, c, f)) = (fadd a q).map (fun a' => (a', m, c, f)) := by rw [stpS_k, if_pos rfl]
theorem stpS_1 {a m q : Qq} {c f : Option Qq} : stpS 1 (some q) (some (a, m, c, f)) = (fmul m q).map (fun m' => (a, m', c, f)) := by rw [stpS_k, if_neg (by decide), if_pos rfl]
theorem stpS_2 {a m q : Qq} {c f : Option Qq} : stpS 2 (some q) (some (a, m, c, f)) = some (a, m, some (capQ q c), f) := by rw [stpS_k, if_neg (by decide), if_neg (by decide), if_pos rfl]
theorem stpS_3 {a m q : Qq} {c f : Option Qq} : stpS 3 (some q) (some (a, m, c, f)) = some (a, m, c, some (flrQ q f)) := by rw [stpS_k, if_neg (by decide), if_neg (by decide), if_neg (by decide)]
theorem takeC {h : PH} {G : Gh} {z : Sz} {u0 : MS} {nu : Nat → Int32} {E1 E2 E3 : Nat → List Tok} {β : Nat → Nat} {r : Nat} {s : Option SSm} (W : CEv h G z u0 nu E1 E2 E3) (hc : z.pc < 99000) (B : WC h G β (vN u0 r) z.np z.pc nu) (hr : r < z.nr) (k2 : mA u0 40 r = 2) (K : CKs h G s) (os : okSm s) : ∃ h', fX6_take h (G.jd 1) (some (G.hd r)) = some h' ∧ CH G (fun i => pTk i ∨ 100 ≤ i) h h' ∧ CKs h' G (stpS (mA u0 48 r) (val β nu (E3 r)) s) ∧ okV (val β nu (E3 r)) := by
  have S := W.s
  have J := W.j
  have kn := W.k.nrG
  have n30 := S.nr30
  have v1 : vj 1 := by unfold vj; omega
  have v5 : vj 5 := by unfold vj; omega
  have v6 : vj 6 := by unfold vj; omega
  have v7 : vj 7 := by unfold vj; omega
  have v8 : vj 8 := by unfold vj; omega
  have v101 : vj 101 := by unfold vj; omega
  obtain ⟨h1, a1, a2, a3, a4⟩ := (W.mo.hd r hr k2).work B hc (fun _ => rfl)
  have S1 := a2.sx S
  have K1 := K.ch a2 S J (fun i hi => by omega)
  have hdT := S.hdT r (show r < G.nr by omega)
  have hd1 := (a2.out S J (a := G.hd r) (by rw [S.hdo r (by omega)]; omega)).1
  have t101 : hT h1 (G.jd 101) = 4 := S1.jsT J 1 (by decide)
  have c0 : CH G (fun i => pTk i ∨ 100 ≤ i) h h1 := a2.mono fun i e => .inr e
  obtain ⟨l', kk, n, v, _, _, _, _, _, _, _, _, _, _, _, _, _, qe, qf⟩ := W.k.ru r hr
  have kd : (hI h 256 (G.hd r) = 43 ∧ mA u0 48 r = 0) ∨ (hI h 256 (G.hd r) = 42 ∧ mA u0 48 r = 1) ∨ (hI h 256 (G.hd r) = 312 ∧ mA u0 48 r = 2) ∨ (hI h 256 (G.hd r) = 313 ∧ mA u0 48 r = 3) := by
    rcases qe with q | q
    · exact absurd k2 q.1
    · exact q.2.2.2.2.2.1
  have hdT1 : hT h1 (G.hd r) = 3 := S1.hdT r (by omega)
  have ar : Arg (hL h1 384 (G.jd 101)) (hL h1 385 (G.jd 101)) (hI h1 386 (G.jd 101)) (val β nu (E3 r)) := by
    cases hv : val β nu (E3 r) with
    | none => rw [hv] at a3; exact a3
    | some q => rw [hv] at a3; exact a3
  rw [fX6_take, fX6_take_0, oN_v, oC_d hdT, oC_d (S.jt1 J), a1, oB2_v, oC_d hdT1, oL_v, hd1]
  generalize val β nu (E3 r) = vv at a3 a4 ar ⊢
  rcases kd with ⟨y, k⟩ | ⟨y, k⟩ | ⟨y, k⟩ | ⟨y, k⟩
  · rw [y, k, if_neg (by decide), if_pos rfl, oC_d (S1.jt1 J), S1.jr772 J, oN_v, oC_d (S1.jt5 J)]
    rcases s with _ | ⟨a, m, cp, fl⟩
    · obtain ⟨vs, vp, k1, k2', k3, k4, k5⟩ := K1
      obtain ⟨h2, b1, b2, b3⟩ := fadd_v (G := G) (s := 1) (S1.jt5 J) t101 k1 a3 k2' a4 (.inl rfl)
      have c2 := opCH v5 b3
      rw [if_pos rfl] at b2
      refine ⟨h2, by rw [b1, oB_v], c0.trans (c2.mono fun i e => .inl (by unfold pTk; omega)), ?_, a4⟩
      refine ⟨q2 fadd vs vv, vp, b2, okV_q2 fadd_ok k2' a4, k3.ch c2 S1 J v6 (by decide), k4, ?_⟩
      rcases k5 with k5 | k5
      · rw [k5]; exact .inl rfl
      · exact .inr k5
    · obtain ⟨k1, k2', k3, k4⟩ := K1
      obtain ⟨o1, o2, o3, o4⟩ := os _ rfl
      obtain ⟨h2, b1, b2, b3⟩ := fadd_v (G := G) (s := 1) (S1.jt5 J) t101 k1 a3 (okV_some o1) a4 (.inl rfl)
      have c2 := opCH v5 b3
      rw [if_pos rfl] at b2
      have p1 := (c2.own S1 J v1 (by decide)).1
      have p7 := c2.own S1 J v7 (by decide)
      have p8 := c2.own S1 J v8 (by decide)
      refine ⟨h2, by rw [b1, oB_v], c0.trans (c2.mono fun i e => .inl (by unfold pTk; omega)), ?_, a4⟩
      cases vv with
      | none => exact ⟨none, some m, b2, okV_none, k2'.ch c2 S1 J v6 (by decide), okV_some o2, .inl rfl⟩
      | some q =>
        rw [stpS_0]
        have b2' : FrV h2 (G.jd 5) (fadd a q) := b2
        cases hf : fadd a q with
        | none => rw [hf] at b2'; exact ⟨none, some m, b2', okV_none, k2'.ch c2 S1 J v6 (by decide), okV_some o2, .inl rfl⟩
        | some t => rw [hf] at b2'; exact ⟨b2', k2'.ch c2 S1 J v6 (by decide), k3.ch (p1 _) p7.1 p7.2.1, k4.ch (p1 _) p8.1 p8.2.1⟩
  · rw [y, k, if_pos rfl, oC_d (S1.jt1 J), oN_v, oC_d t101, S1.jr773 J, oN_v, oC_d (S1.jt6 J)]
    rcases s with _ | ⟨a, m, cp, fl⟩
    · obtain ⟨vs, vp, k1, k2', k3, k4, k5⟩ := K1
      obtain ⟨h2, b1, b2, b3⟩ := multiply_v (S1.jt6 J) k3 ar k4 a4
      have c2 := opCH v6 b3
      refine ⟨h2, by rw [b1, oB_v], c0.trans (c2.mono fun i e => .inl (by unfold pTk; omega)), ?_, a4⟩
      refine ⟨vs, q2 fmul vp vv, k1.ch c2 S1 J v5 (by decide), k2', b2, okV_q2 fmul_ok k4 a4, ?_⟩
      rcases k5 with k5 | k5
      · exact .inl k5
      · rw [k5]; exact .inr rfl
    · obtain ⟨k1, k2', k3, k4⟩ := K1
      obtain ⟨o1, o2, o3, o4⟩ := os _ rfl
      obtain ⟨h2, b1, b2, b3⟩ := multiply_v (S1.jt6 J) k2' ar (okV_some o2) a4
      have c2 := opCH v6 b3
      have p1 := (c2.own S1 J v1 (by decide)).1
      have p7 := c2.own S1 J v7 (by decide)
      have p8 := c2.own S1 J v8 (by decide)
      refine ⟨h2, by rw [b1, oB_v], c0.trans (c2.mono fun i e => .inl (by unfold pTk; omega)), ?_, a4⟩
      cases vv with
      | none => exact ⟨some a, none, k1.ch c2 S1 J v5 (by decide), okV_some o1, b2, okV_none, .inr rfl⟩
      | some q =>
        rw [stpS_1]
        have b2' : FrV h2 (G.jd 6) (fmul m q) := b2
        cases hf : fmul m q with
        | none => rw [hf] at b2'; exact ⟨some a, none, k1.ch c2 S1 J v5 (by decide), okV_some o1, b2', okV_none, .inr rfl⟩
        | some t => rw [hf] at b2'; exact ⟨k1.ch c2 S1 J v5 (by decide), b2', k3.ch (p1 _) p7.1 p7.2.1, k4.ch (p1 _) p8.1 p8.2.1⟩
  · rw [y, k, if_neg (by decide), if_neg (by decide), if_pos rfl, oC_d (S1.jt1 J), S1.jr774 J]
    obtain ⟨h2, b1, b2⟩ := limitC (i := 7) (fl := hI h1 776 (G.jd 1)) (sg := -1) S1 J (.inl rfl) a3
    rw [b1, oB_v]
    cases vv with
    | none =>
      have e2 : h2 = sI h1 386 (G.jd 5) 1 := b2
      have c2 : CH G (fun j => j = 5) h1 h2 := by rw [e2]; exact (CH.refl G (fun j => j = 5) h1).sI v5 rfl
      have S2 := c2.sx S1
      have c3 : CH G (fun j => j = 1) h2 (sI h2 776 (G.jd 1) 1) := (CH.refl G (fun j => j = 1) h2).sI v1 rfl
      have f5 : FrV h2 (G.jd 5) none := by rw [e2]; show hI _ 386 _ = 1; simp only [z_hI_sI, z_hL_sI, z_hR_sI, z_hA_sI, z_hB_sI, z_hC_sI, z_hT_sI, z_hN_sI, z_hZ_sI, z_hI_sL, z_hL_sL, z_hR_sL, z_hA_sL, z_hB_sL, z_hC_sL, z_hT_sL, z_hN_sL, z_hZ_sL, z_hI_sR, z_hL_sR, z_hR_sR, z_hA_sR, z_hB_sR, z_hC_sR, z_hT_sR, z_hN_sR, z_hZ_sR, z_hI_sA, z_hL_sA, z_hR_sA, z_hA_sA, z_hB_sA, z_hC_sA, z_hT_sA, z_hN_sA, z_hZ_sA, z_hI_sB, z_hL_sB, z_hR_sB, z_hA_sB, z_hB_sB, z_hC_sB, z_hT_sB, z_hN_sB, z_hZ_sB, z_hI_sC, z_hL_sC, z_hR_sC, z_hA_sC, z_hB_sC, z_hC_sC, z_hT_sC, z_hN_sC, z_hZ_sC, z_hI_sY, z_hL_sY, z_hR_sY, z_hA_sY, z_hB_sY, z_hC_sY, z_hT_sY, z_hN_sY, z_hZ_sY, z_hI_nO, z_hL_nO, z_hR_nO, z_hA_nO, z_hB_nO, z_hC_nO, z_hT_nO, z_hN_nO, z_hZ_nO, z_hI_nA, z_hL_nA, z_hR_nA, z_hA_nA, z_hB_nA, z_hC_nA, z_hT_nA, z_hN_nA, z_hZ_nA, if_true, if_false, and_false, false_and, and_true, true_and, and_self, decide_true, decide_false, reduceCtorEq, not_false_eq_true, not_true_eq_false, Nat.reduceEqDiff, Nat.reduceAdd, Nat.reduceMul, Nat.add_zero, Nat.zero_add]
      have fin : ∀ vp, FrV h1 (G.jd 6) vp → okV vp → CKs (sI h2 776 (G.jd 1) 1) G none := fun vp f6 o6 => ⟨none, vp, f5.ch c3 S2 J v5 (by decide), okV_none, (f6.ch c2 S1 J v6 (by decide)).ch c3 S2 J v6 (by decide), o6, .inl rfl⟩
      rw [oC_d (S2.jt1 J), oL_v]
      refine ⟨_, rfl, (c0.trans (c2.mono fun i e => .inl (by unfold pTk; omega))).trans (c3.mono fun i e => .inl (by unfold pTk; omega)), ?_, okV_none⟩
      rcases s with _ | ⟨a, m, cp, fl⟩
      · obtain ⟨vs, vp, k1, k2', k3, k4, k5⟩ := K1
        exact fin vp k3 k4
      · obtain ⟨o1, o2, o3, o4⟩ := os _ rfl
        exact fin (some m) K1.2.1 (okV_some o2)
    | some q =>
      obtain ⟨c2, l1, l2⟩ := b2
      have S2 := c2.sx S1
      have c3 : CH G (fun j => j = 1) h2 (sI h2 776 (G.jd 1) 1) := (CH.refl G (fun j => j = 1) h2).sI v1 rfl
      rw [oC_d (S2.jt1 J), oL_v]
      refine ⟨_, rfl, (c0.trans (c2.mono fun i e => .inl (by unfold pTk; omega))).trans (c3.mono fun i e => .inl (by unfold pTk; omega)), ?_, a4⟩
      rcases s with _ | ⟨a, m, cp, fl⟩
      · obtain ⟨vs, vp, k1, k2', k3, k4, k5⟩ := K1
        exact ⟨vs, vp, (k1.ch c2 S1 J v5 (by decide)).ch c3 S2 J v5 (by decide), k2', (k3.ch c2 S1 J v6 (by decide)).ch c3 S2 J v6 (by decide), k4, k5⟩
      · obtain ⟨k1, k2', k3, k4⟩ := K1
        rw [stpS_2]
        have p8 := c2.own S1 J v8 (by decide)
        have p1 := (c2.own S1 J v1 (by decide)).1
        have r8 := c3.own S2 J v8 (by decide)
        refine ⟨(k1.ch c2 S1 J v5 (by decide)).ch c3 S2 J v5 (by decide), (k2'.ch c2 S1 J v6 (by decide)).ch c3 S2 J v6 (by decide), ⟨by simp only [z_hI_sI, z_hL_sI, z_hR_sI, z_hA_sI, z_hB_sI, z_hC_sI, z_hT_sI, z_hN_sI, z_hZ_sI, z_hI_sL, z_hL_sL, z_hR_sL, z_hA_sL, z_hB_sL, z_hC_sL, z_hT_sL, z_hN_sL, z_hZ_sL, z_hI_sR, z_hL_sR, z_hR_sR, z_hA_sR, z_hB_sR, z_hC_sR, z_hT_sR, z_hN_sR, z_hZ_sR, z_hI_sA, z_hL_sA, z_hR_sA, z_hA_sA, z_hB_sA, z_hC_sA, z_hT_sA, z_hN_sA, z_hZ_sA, z_hI_sB, z_hL_sB, z_hR_sB, z_hA_sB, z_hB_sB, z_hC_sB, z_hT_sB, z_hN_sB, z_hZ_sB, z_hI_sC, z_hL_sC, z_hR_sC, z_hA_sC, z_hB_sC, z_hC_sC, z_hT_sC, z_hN_sC, z_hZ_sC, z_hI_sY, z_hL_sY, z_hR_sY, z_hA_sY, z_hB_sY, z_hC_sY, z_hT_sY, z_hN_sY, z_hZ_sY, z_hI_nO, z_hL_nO, z_hR_nO, z_hA_nO, z_hB_nO, z_hC_nO, z_hT_nO, z_hN_nO, z_hZ_nO, z_hI_nA, z_hL_nA, z_hR_nA, z_hA_nA, z_hB_nA, z_hC_nA, z_hT_nA, z_hN_nA, z_hZ_nA, if_true, if_false, and_false, false_and, and_true, true_and, and_self, decide_true, decide_false, reduceCtorEq, not_false_eq_true, not_true_eq_false, Nat.reduceEqDiff, Nat.reduceAdd, Nat.reduceMul, Nat.add_zero, Nat.zero_add], ?_⟩, ?_⟩
        · refine FrV.ch ?_ c3 S2 J v7 (by decide)
          cases cp with
          | none => exact l1 k3
          | some c =>
            have := l2 c k3.2 (by rw [k3.1]; decide)
            unfold capQ
            simp only
            by_cases d : 0 ≤ cmpQ q c
            · rw [if_pos d]; rw [if_pos ((cmp_m1 q c).mpr d)] at this; exact this
            · rw [if_neg d]; rw [if_neg (fun e => d ((cmp_m1 q c).mp e))] at this; exact this
        · refine (k4.ch (p1 _) p8.1 p8.2.1).ch ?_ r8.1 r8.2.1
          simp only [z_hI_sI, z_hL_sI, z_hR_sI, z_hA_sI, z_hB_sI, z_hC_sI, z_hT_sI, z_hN_sI, z_hZ_sI, z_hI_sL, z_hL_sL, z_hR_sL, z_hA_sL, z_hB_sL, z_hC_sL, z_hT_sL, z_hN_sL, z_hZ_sL, z_hI_sR, z_hL_sR, z_hR_sR, z_hA_sR, z_hB_sR, z_hC_sR, z_hT_sR, z_hN_sR, z_hZ_sR, z_hI_sA, z_hL_sA, z_hR_sA, z_hA_sA, z_hB_sA, z_hC_sA, z_hT_sA, z_hN_sA, z_hZ_sA, z_hI_sB, z_hL_sB, z_hR_sB, z_hA_sB, z_hB_sB, z_hC_sB, z_hT_sB, z_hN_sB, z_hZ_sB, z_hI_sC, z_hL_sC, z_hR_sC, z_hA_sC, z_hB_sC, z_hC_sC, z_hT_sC, z_hN_sC, z_hZ_sC, z_hI_sY, z_hL_sY, z_hR_sY, z_hA_sY, z_hB_sY, z_hC_sY, z_hT_sY, z_hN_sY, z_hZ_sY, z_hI_nO, z_hL_nO, z_hR_nO, z_hA_nO, z_hB_nO, z_hC_nO, z_hT_nO, z_hN_nO, z_hZ_nO, z_hI_nA, z_hL_nA, z_hR_nA, z_hA_nA, z_hB_nA, z_hC_nA, z_hT_nA, z_hN_nA, z_hZ_nA, if_true, if_false, and_false, false_and, and_true, true_and, and_self, decide_true, decide_false, reduceCtorEq, not_false_eq_true, not_true_eq_false, Nat.reduceEqDiff, Nat.reduceAdd, Nat.reduceMul, Nat.add_zero, Nat.zero_add]
  · rw [y, k, if_neg (by decide), if_neg (by decide), if_neg (by decide), oC_d (S1.jt1 J), S1.jr775 J]
    obtain ⟨h2, b1, b2⟩ := limitC (i := 8) (fl := hI h1 777 (G.jd 1)) (sg := 1) S1 J (.inr rfl) a3
    rw [b1, oB_v]
    cases vv with
    | none =>
      have e2 : h2 = sI h1 386 (G.jd 5) 1 := b2
      have c2 : CH G (fun j => j = 5) h1 h2 := by rw [e2]; exact (CH.refl G (fun j => j = 5) h1).sI v5 rfl
      have S2 := c2.sx S1
      have c3 : CH G (fun j => j = 1) h2 (sI h2 777 (G.jd 1) 1) := (CH.refl G (fun j => j = 1) h2).sI v1 rfl
      have f5 : FrV h2 (G.jd 5) none := by rw [e2]; show hI _ 386 _ = 1; simp only [z_hI_sI, z_hL_sI, z_hR_sI, z_hA_sI, z_hB_sI, z_hC_sI, z_hT_sI, z_hN_sI, z_hZ_sI, z_hI_sL, z_hL_sL, z_hR_sL, z_hA_sL, z_hB_sL, z_hC_sL, z_hT_sL, z_hN_sL, z_hZ_sL, z_hI_sR, z_hL_sR, z_hR_sR, z_hA_sR, z_hB_sR, z_hC_sR, z_hT_sR, z_hN_sR, z_hZ_sR, z_hI_sA, z_hL_sA, z_hR_sA, z_hA_sA, z_hB_sA, z_hC_sA, z_hT_sA, z_hN_sA, z_hZ_sA, z_hI_sB, z_hL_sB, z_hR_sB, z_hA_sB, z_hB_sB, z_hC_sB, z_hT_sB, z_hN_sB, z_hZ_sB, z_hI_sC, z_hL_sC, z_hR_sC, z_hA_sC, z_hB_sC, z_hC_sC, z_hT_sC, z_hN_sC, z_hZ_sC, z_hI_sY, z_hL_sY, z_hR_sY, z_hA_sY, z_hB_sY, z_hC_sY, z_hT_sY, z_hN_sY, z_hZ_sY, z_hI_nO, z_hL_nO, z_hR_nO, z_hA_nO, z_hB_nO, z_hC_nO, z_hT_nO, z_hN_nO, z_hZ_nO, z_hI_nA, z_hL_nA, z_hR_nA, z_hA_nA, z_hB_nA, z_hC_nA, z_hT_nA, z_hN_nA, z_hZ_nA, if_true, if_false, and_false, false_and, and_true, true_and, and_self, decide_true, decide_false, reduceCtorEq, not_false_eq_true, not_true_eq_false, Nat.reduceEqDiff, Nat.reduceAdd, Nat.reduceMul, Nat.add_zero, Nat.zero_add]
      have fin : ∀ vp, FrV h1 (G.jd 6) vp → okV vp → CKs (sI h2 777 (G.jd 1) 1) G none := fun vp f6 o6 => ⟨none, vp, f5.ch c3 S2 J v5 (by decide), okV_none, (f6.ch c2 S1 J v6 (by decide)).ch c3 S2 J v6 (by decide), o6, .inl rfl⟩
      rw [oC_d (S2.jt1 J), oL_v]
      refine ⟨_, rfl, (c0.trans (c2.mono fun i e => .inl (by unfold pTk; omega))).trans (c3.mono fun i e => .inl (by unfold pTk; omega)), ?_, okV_none⟩
      rcases s with _ | ⟨a, m, cp, fl⟩
      · obtain ⟨vs, vp, k1, k2', k3, k4, k5⟩ := K1
        exact fin vp k3 k4
      · obtain ⟨o1, o2, o3, o4⟩ := os _ rfl
        exact fin (some m) K1.2.1 (okV_some o2)
    | some q =>
      obtain ⟨c2, l1, l2⟩ := b2
      have S2 := c2.sx S1
      have c3 : CH G (fun j => j = 1) h2 (sI h2 777 (G.jd 1) 1) := (CH.refl G (fun j => j = 1) h2).sI v1 rfl
      rw [oC_d (S2.jt1 J), oL_v]
      refine ⟨_, rfl, (c0.trans (c2.mono fun i e => .inl (by unfold pTk; omega))).trans (c3.mono fun i e => .inl (by unfold pTk; omega)), ?_, a4⟩
      rcases s with _ | ⟨a, m, cp, fl⟩
      · obtain ⟨vs, vp, k1, k2', k3, k4, k5⟩ := K1
        exact ⟨vs, vp, (k1.ch c2 S1 J v5 (by decide)).ch c3 S2 J v5 (by decide), k2', (k3.ch c2 S1 J v6 (by decide)).ch c3 S2 J v6 (by decide), k4, k5⟩
      · obtain ⟨k1, k2', k3, k4⟩ := K1
        rw [stpS_3]
        have p7 := c2.own S1 J v7 (by decide)
        have p1 := (c2.own S1 J v1 (by decide)).1
        have r7 := c3.own S2 J v7 (by decide)
        refine ⟨(k1.ch c2 S1 J v5 (by decide)).ch c3 S2 J v5 (by decide), (k2'.ch c2 S1 J v6 (by decide)).ch c3 S2 J v6 (by decide), ?_, ⟨by simp only [z_hI_sI, z_hL_sI, z_hR_sI, z_hA_sI, z_hB_sI, z_hC_sI, z_hT_sI, z_hN_sI, z_hZ_sI, z_hI_sL, z_hL_sL, z_hR_sL, z_hA_sL, z_hB_sL, z_hC_sL, z_hT_sL, z_hN_sL, z_hZ_sL, z_hI_sR, z_hL_sR, z_hR_sR, z_hA_sR, z_hB_sR, z_hC_sR, z_hT_sR, z_hN_sR, z_hZ_sR, z_hI_sA, z_hL_sA, z_hR_sA, z_hA_sA, z_hB_sA, z_hC_sA, z_hT_sA, z_hN_sA, z_hZ_sA, z_hI_sB, z_hL_sB, z_hR_sB, z_hA_sB, z_hB_sB, z_hC_sB, z_hT_sB, z_hN_sB, z_hZ_sB, z_hI_sC, z_hL_sC, z_hR_sC, z_hA_sC, z_hB_sC, z_hC_sC, z_hT_sC, z_hN_sC, z_hZ_sC, z_hI_sY, z_hL_sY, z_hR_sY, z_hA_sY, z_hB_sY, z_hC_sY, z_hT_sY, z_hN_sY, z_hZ_sY, z_hI_nO, z_hL_nO, z_hR_nO, z_hA_nO, z_hB_nO, z_hC_nO, z_hT_nO, z_hN_nO, z_hZ_nO, z_hI_nA, z_hL_nA, z_hR_nA, z_hA_nA, z_hB_nA, z_hC_nA, z_hT_nA, z_hN_nA, z_hZ_nA, if_true, if_false, and_false, false_and, and_true, true_and, and_self, decide_true, decide_false, reduceCtorEq, not_false_eq_true, not_true_eq_false, Nat.reduceEqDiff, Nat.reduceAdd, Nat.reduceMul, Nat.add_zero, Nat.zero_add], ?_⟩⟩
        · refine (k3.ch (p1 _) p7.1 p7.2.1).ch ?_ r7.1 r7.2.1
          simp only [z_hI_sI, z_hL_sI, z_hR_sI, z_hA_sI, z_hB_sI, z_hC_sI, z_hT_sI, z_hN_sI, z_hZ_sI, z_hI_sL, z_hL_sL, z_hR_sL, z_hA_sL, z_hB_sL, z_hC_sL, z_hT_sL, z_hN_sL, z_hZ_sL, z_hI_sR, z_hL_sR, z_hR_sR, z_hA_sR, z_hB_sR, z_hC_sR, z_hT_sR, z_hN_sR, z_hZ_sR, z_hI_sA, z_hL_sA, z_hR_sA, z_hA_sA, z_hB_sA, z_hC_sA, z_hT_sA, z_hN_sA, z_hZ_sA, z_hI_sB, z_hL_sB, z_hR_sB, z_hA_sB, z_hB_sB, z_hC_sB, z_hT_sB, z_hN_sB, z_hZ_sB, z_hI_sC, z_hL_sC, z_hR_sC, z_hA_sC, z_hB_sC, z_hC_sC, z_hT_sC, z_hN_sC, z_hZ_sC, z_hI_sY, z_hL_sY, z_hR_sY, z_hA_sY, z_hB_sY, z_hC_sY, z_hT_sY, z_hN_sY, z_hZ_sY, z_hI_nO, z_hL_nO, z_hR_nO, z_hA_nO, z_hB_nO, z_hC_nO, z_hT_nO, z_hN_nO, z_hZ_nO, z_hI_nA, z_hL_nA, z_hR_nA, z_hA_nA, z_hB_nA, z_hC_nA, z_hT_nA, z_hN_nA, z_hZ_nA, if_true, if_false, and_false, false_and, and_true, true_and, and_self, decide_true, decide_false, reduceCtorEq, not_false_eq_true, not_true_eq_false, Nat.reduceEqDiff, Nat.reduceAdd, Nat.reduceMul, Nat.add_zero, Nat.zero_add]
        · refine FrV.ch ?_ c3 S2 J v8 (by decide)
          cases fl with
          | none => exact l1 k4
          | some c =>
            have := l2 c k4.2 (by rw [k4.1]; decide)
            unfold flrQ
            simp only
            by_cases d : cmpQ q c ≤ 0
            · rw [if_pos d]; rw [if_pos ((cmp_1 q c).mpr d)] at this; exact this
            · rw [if_neg d]; rw [if_neg (fun e => d ((cmp_1 q c).mp e))] at this; exact this
