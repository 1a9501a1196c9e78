/-- a sum told in the class -/
def SmC (h : PH) (G : Gh) (k n : Nat) : Option Qq → Prop
  | none => hA h (G.jd 19) k = nI n ∧ hB h (G.jd 20) (2 * k) = 0 ∧ hB h (G.jd 20) (2 * k + 1) = 0
  | some q => hA h (G.jd 19) k = nI n ∧ hB h (G.jd 20) (2 * k) = q.1 ∧ hB h (G.jd 20) (2 * k + 1) = q.2
def pRk (i : Nat) : Prop := i = 1 ∨ i = 2 ∨ (5 ≤ i ∧ i ≤ 8) ∨ i = 19 ∨ i = 20 ∨ 100 ≤ i
noncomputable def flT (u : MS) (np : Nat) (A : Nat → Prop) (k : Nat) (l : List Nat) : List Nat := l.filter (cd fun x => hdx u np x = 600 + k ∧ A x)
theorem hd_kind {h0 : PH} {u0 : MS} {G : Gh} {z : Sz} {r b k : Nat} (K : KR h0 u0 G z) (zo : z.ok) (hr : r < z.nr) (hb : b < z.np ^ vN u0 r) (e : hdx u0 z.np (125 * r + b) = 600 + k) : mA u0 40 r = 2 ∧ k / 5 < z.ns ∧ k % 5 < z.np := by
  obtain ⟨m42, v3, m41, c6⟩ := ruV K hr
  have h125 := pow_le zo.1 v3
  have np := zo.1
  obtain ⟨l', kk, n, v, q1, q2, q3, q4, q5, q6, q7, q8, q9, qa, qb, qc, qd, qe, qf⟩ := K.ru r hr
  have ev : vN u0 r = v := by unfold vN; rw [qd, nI_clamp (by omega)]
  have bl' : ∀ j, j < v → bt z.np (vN u0 r) b j < z.np := fun j hj => bt_lt (by rcases pow_pos' hb with c | c <;> omega)
  rw [hdx_v (by omega)] at e
  rcases qe with q | q
  · rw [if_neg q.1] at e
    have := (q.2.lit (β := bt z.np (vN u0 r) b) zo bl').2
    omega
  · obtain ⟨c2, ⟨s, s1, s2, s3⟩, _, _, ⟨t, t1, t2, t3⟩, _⟩ := q
    have ns := zo.2.2.1
    rw [if_pos c2, s3, nI_clamp (by omega), t3, pM_tm t1] at e
    have := pe_lt bl' t1
    exact ⟨c2, by omega, by omega⟩
theorem rk16 {h0 : PH} {G : Gh} {z : Sz} {u0 : MS} {nu : Nat → Int32} {E1 E2 E3 : Nat → List Tok} {d1 d2 : Int32} {L : List Nat} {A : Nat → Prop} {k : Nat} (zo : z.ok) (hc : z.pc < 99000) (Q : CSt h0 G z u0 nu E1 E2 E3 d1 d2 L) (k20 : k < 20) (ts : ∀ i, i < L.length → (hA h0 (G.jd 17) i = 1 ↔ A (L.getD i 0))) : ∀ m i f h, i + m = L.length → CH G pRk h0 h → CEv h G z u0 nu E1 E2 E3 → CKs h G (smS (kdx u0) (vlx u0 z.np nu E3) (flT u0 z.np A k (L.take i))) → okSm (smS (kdx u0) (vlx u0 z.np nu E3) (flT u0 z.np A k (L.take i))) → hA h (G.jd 19) k = nI (flT u0 z.np A k (L.take i)).length → (∀ q, q ≠ k → hA h (G.jd 19) q = hA h0 (G.jd 19) q) → (∀ q, hB h (G.jd 20) q = hB h0 (G.jd 20) q) → ∃ h', fX5_reckon_16 (f + (m + 1)) h (G.jd 0) (nI k) (nI i) = some h' ∧ CH G pRk h0 h' ∧ CEv h' G z u0 nu E1 E2 E3 ∧ SmC h' G k (flT u0 z.np A k L).length (finS (smS (kdx u0) (vlx u0 z.np nu E3) (flT u0 z.np A k L))) ∧ (∀ q, q ≠ k → hA h' (G.jd 19) q = hA h0 (G.jd 19) q) ∧ ∀ q, q ≠ 2 * k → q ≠ 2 * k + 1 → hB h' (G.jd 20) q = hB h0 (G.jd 20) q := by
  have S0 := Q.W.s
  have J := Q.W.j
  have v0 : vj 0 := by unfold vj; omega
  have v5 : vj 5 := by unfold vj; omega
  have v15 : vj 15 := by unfold vj; omega
  have v16 : vj 16 := by unfold vj; omega
  have v17 : vj 17 := by unfold vj; omega
  have v19 : vj 19 := by unfold vj; omega
  have v20 : vj 20 := by unfold vj; omega
  have k4 := Q.k4
  have le := Q.le
  intro m
  induction m with
  | zero =>
    intro i f h e c W K o n19 o19 o20
    have ei : i = L.length := e
    subst ei
    rw [List.take_length] at K o n19
    have S := W.s
    have nn := (c.own S0 J v0 (by unfold pRk; omega)).1 655
    have ul : fX5_reckon_16 (f + (0 + 1)) h (G.jd 0) (nI k) (nI L.length) = fX5_reckon_16F (fX5_reckon_16 f) h (G.jd 0) (nI k) (nI L.length) := rfl
    obtain ⟨h1, a1, a2, a3⟩ := finishC S J K o
    have S1 := a2.sx S
    have p19 := (a2.own S J v19 (by decide)).2.2.1
    have p20 := (a2.own S J v20 (by decide)).2.2.2
    have e2 : nI k * 2 = nI (2 * k) := by rw [show (2 : Int32) = nI 2 from rfl, nI_mul]; congr 1; omega
    have e3 : nI (2 * k) + 1 = nI (2 * k + 1) := nI_add _ 1
    have x0 : ix (nI (2 * k)) 40 = true := ix_n (show 2 * k < 40 by omega) (by decide)
    have x1 : ix (nI (2 * k + 1)) 40 = true := ix_n (show 2 * k + 1 < 40 by omega) (by decide)
    have y0 : Int32.toNatClampNeg (nI (2 * k)) = 2 * k := nI_clamp (by omega)
    have y1 : Int32.toNatClampNeg (nI (2 * k + 1)) = 2 * k + 1 := nI_clamp (by omega)
    have fin : ∀ n d : Int64, (fX5_reckon_120 h1 (G.jd 0) (nI k) (some (G.jd 5)) n (nI k * 2) (hR h1 658 (G.jd 0)) = some (sB (sB h1 (G.jd 20) (2 * k) n) (G.jd 20) (2 * k + 1) d)) → ∃ h', fX5_reckon_120 h1 (G.jd 0) (nI k) (some (G.jd 5)) n (nI k * 2) (hR h1 658 (G.jd 0)) = some h' ∧ CH G pRk h0 h' ∧ CEv h' G z u0 nu E1 E2 E3 ∧ (hA h' (G.jd 19) k = nI (flT u0 z.np A k L).length ∧ hB h' (G.jd 20) (2 * k) = n ∧ hB h' (G.jd 20) (2 * k + 1) = d) ∧ (∀ q, q ≠ k → hA h' (G.jd 19) q = hA h0 (G.jd 19) q) ∧ ∀ q, q ≠ 2 * k → q ≠ 2 * k + 1 → hB h' (G.jd 20) q = hB h0 (G.jd 20) q := by
      intro n d he
      have cB : CH G (fun j => j = 20) h1 (sB (sB h1 (G.jd 20) (2 * k) n) (G.jd 20) (2 * k + 1) d) := ((CH.refl G (fun j => j = 20) h1).sB v20 rfl).sB v20 rfl
      have c2 : CH G (fun j => j = 5 ∨ j = 20) h (sB (sB h1 (G.jd 20) (2 * k) n) (G.jd 20) (2 * k + 1) d) := (a2.mono fun j e => .inl e).trans (cB.mono fun j e => .inr e)
      refine ⟨_, he, c.trans (c2.mono fun j e => by unfold pRk; omega), W.ch2 c2 (by decide), ⟨?_, ?_, ?_⟩, fun q hq => ?_, fun q h1 h2 => ?_⟩
      · simp only [z_hI_sI, z_hL_sI, z_hR_sI, z_hA_sI, z_hB_sI, z_hC_sI, z_hT_sI, z_hN_sI, z_hZ_sI, z_hI_sL, z_hL_sL, z_hR_sL, z_hA_sL, z_hB_sL, z_hC_sL, z_hT_sL, z_hN_sL, z_hZ_sL, z_hI_sR, z_hL_sR, z_hR_sR, z_hA_sR, z_hB_sR, z_hC_sR, z_hT_sR, z_hN_sR, z_hZ_sR, z_hI_sA, z_hL_sA, z_hR_sA, z_hA_sA, z_hB_sA, z_hC_sA, z_hT_sA, z_hN_sA, z_hZ_sA, z_hI_sB, z_hL_sB, z_hR_sB, z_hA_sB, z_hB_sB, z_hC_sB, z_hT_sB, z_hN_sB, z_hZ_sB, z_hI_sC, z_hL_sC, z_hR_sC, z_hA_sC, z_hB_sC, z_hC_sC, z_hT_sC, z_hN_sC, z_hZ_sC, z_hI_sY, z_hL_sY, z_hR_sY, z_hA_sY, z_hB_sY, z_hC_sY, z_hT_sY, z_hN_sY, z_hZ_sY, z_hI_nO, z_hL_nO, z_hR_nO, z_hA_nO, z_hB_nO, z_hC_nO, z_hT_nO, z_hN_nO, z_hZ_nO, z_hI_nA, z_hL_nA, z_hR_nA, z_hA_nA, z_hB_nA, z_hC_nA, z_hT_nA, z_hN_nA, z_hZ_nA]; rw [p19]; exact n19
      · simp only [z_hI_sI, z_hL_sI, z_hR_sI, z_hA_sI, z_hB_sI, z_hC_sI, z_hT_sI, z_hN_sI, z_hZ_sI, z_hI_sL, z_hL_sL, z_hR_sL, z_hA_sL, z_hB_sL, z_hC_sL, z_hT_sL, z_hN_sL, z_hZ_sL, z_hI_sR, z_hL_sR, z_hR_sR, z_hA_sR, z_hB_sR, z_hC_sR, z_hT_sR, z_hN_sR, z_hZ_sR, z_hI_sA, z_hL_sA, z_hR_sA, z_hA_sA, z_hB_sA, z_hC_sA, z_hT_sA, z_hN_sA, z_hZ_sA, z_hI_sB, z_hL_sB, z_hR_sB, z_hA_sB, z_hB_sB, z_hC_sB, z_hT_sB, z_hN_sB, z_hZ_sB, z_hI_sC, z_hL_sC, z_hR_sC, z_hA_sC, z_hB_sC, z_hC_sC, z_hT_sC, z_hN_sC, z_hZ_sC, z_hI_sY, z_hL_sY, z_hR_sY, z_hA_sY, z_hB_sY, z_hC_sY, z_hT_sY, z_hN_sY, z_hZ_sY, z_hI_nO, z_hL_nO, z_hR_nO, z_hA_nO, z_hB_nO, z_hC_nO, z_hT_nO, z_hN_nO, z_hZ_nO, z_hI_nA, z_hL_nA, z_hR_nA, z_hA_nA, z_hB_nA, z_hC_nA, z_hT_nA, z_hN_nA, z_hZ_nA, if_true, if_false, and_false, false_and, and_true, true_and, and_self, decide_true, decide_false, reduceCtorEq, not_false_eq_true, not_true_eq_false, Nat.reduceEqDiff, Nat.reduceAdd, Nat.reduceMul, Nat.add_zero, Nat.zero_add]
        rw [if_neg (by omega)]
      · simp only [z_hI_sI, z_hL_sI, z_hR_sI, z_hA_sI, z_hB_sI, z_hC_sI, z_hT_sI, z_hN_sI, z_hZ_sI, z_hI_sL, z_hL_sL, z_hR_sL, z_hA_sL, z_hB_sL, z_hC_sL, z_hT_sL, z_hN_sL, z_hZ_sL, z_hI_sR, z_hL_sR, z_hR_sR, z_hA_sR, z_hB_sR, z_hC_sR, z_hT_sR, z_hN_sR, z_hZ_sR, z_hI_sA, z_hL_sA, z_hR_sA, z_hA_sA, z_hB_sA, z_hC_sA, z_hT_sA, z_hN_sA, z_hZ_sA, z_hI_sB, z_hL_sB, z_hR_sB, z_hA_sB, z_hB_sB, z_hC_sB, z_hT_sB, z_hN_sB, z_hZ_sB, z_hI_sC, z_hL_sC, z_hR_sC, z_hA_sC, z_hB_sC, z_hC_sC, z_hT_sC, z_hN_sC, z_hZ_sC, z_hI_sY, z_hL_sY, z_hR_sY, z_hA_sY, z_hB_sY, z_hC_sY, z_hT_sY, z_hN_sY, z_hZ_sY, z_hI_nO, z_hL_nO, z_hR_nO, z_hA_nO, z_hB_nO, z_hC_nO, z_hT_nO, z_hN_nO, z_hZ_nO, z_hI_nA, z_hL_nA, z_hR_nA, z_hA_nA, z_hB_nA, z_hC_nA, z_hT_nA, z_hN_nA, z_hZ_nA, if_true, if_false, and_false, false_and, and_true, true_and, and_self, decide_true, decide_false, reduceCtorEq, not_false_eq_true, not_true_eq_false, Nat.reduceEqDiff, Nat.reduceAdd, Nat.reduceMul, Nat.add_zero, Nat.zero_add]
      · simp only [z_hI_sI, z_hL_sI, z_hR_sI, z_hA_sI, z_hB_sI, z_hC_sI, z_hT_sI, z_hN_sI, z_hZ_sI, z_hI_sL, z_hL_sL, z_hR_sL, z_hA_sL, z_hB_sL, z_hC_sL, z_hT_sL, z_hN_sL, z_hZ_sL, z_hI_sR, z_hL_sR, z_hR_sR, z_hA_sR, z_hB_sR, z_hC_sR, z_hT_sR, z_hN_sR, z_hZ_sR, z_hI_sA, z_hL_sA, z_hR_sA, z_hA_sA, z_hB_sA, z_hC_sA, z_hT_sA, z_hN_sA, z_hZ_sA, z_hI_sB, z_hL_sB, z_hR_sB, z_hA_sB, z_hB_sB, z_hC_sB, z_hT_sB, z_hN_sB, z_hZ_sB, z_hI_sC, z_hL_sC, z_hR_sC, z_hA_sC, z_hB_sC, z_hC_sC, z_hT_sC, z_hN_sC, z_hZ_sC, z_hI_sY, z_hL_sY, z_hR_sY, z_hA_sY, z_hB_sY, z_hC_sY, z_hT_sY, z_hN_sY, z_hZ_sY, z_hI_nO, z_hL_nO, z_hR_nO, z_hA_nO, z_hB_nO, z_hC_nO, z_hT_nO, z_hN_nO, z_hZ_nO, z_hI_nA, z_hL_nA, z_hR_nA, z_hA_nA, z_hB_nA, z_hC_nA, z_hT_nA, z_hN_nA, z_hZ_nA]; rw [p19]; exact o19 q hq
      · simp only [z_hI_sI, z_hL_sI, z_hR_sI, z_hA_sI, z_hB_sI, z_hC_sI, z_hT_sI, z_hN_sI, z_hZ_sI, z_hI_sL, z_hL_sL, z_hR_sL, z_hA_sL, z_hB_sL, z_hC_sL, z_hT_sL, z_hN_sL, z_hZ_sL, z_hI_sR, z_hL_sR, z_hR_sR, z_hA_sR, z_hB_sR, z_hC_sR, z_hT_sR, z_hN_sR, z_hZ_sR, z_hI_sA, z_hL_sA, z_hR_sA, z_hA_sA, z_hB_sA, z_hC_sA, z_hT_sA, z_hN_sA, z_hZ_sA, z_hI_sB, z_hL_sB, z_hR_sB, z_hA_sB, z_hB_sB, z_hC_sB, z_hT_sB, z_hN_sB, z_hZ_sB, z_hI_sC, z_hL_sC, z_hR_sC, z_hA_sC, z_hB_sC, z_hC_sC, z_hT_sC, z_hN_sC, z_hZ_sC, z_hI_sY, z_hL_sY, z_hR_sY, z_hA_sY, z_hB_sY, z_hC_sY, z_hT_sY, z_hN_sY, z_hZ_sY, z_hI_nO, z_hL_nO, z_hR_nO, z_hA_nO, z_hB_nO, z_hC_nO, z_hT_nO, z_hN_nO, z_hZ_nO, z_hI_nA, z_hL_nA, z_hR_nA, z_hA_nA, z_hB_nA, z_hC_nA, z_hT_nA, z_hN_nA, z_hZ_nA, if_true, if_false, and_false, false_and, and_true, true_and, and_self, decide_true, decide_false, reduceCtorEq, not_false_eq_true, not_true_eq_false, Nat.reduceEqDiff, Nat.reduceAdd, Nat.reduceMul, Nat.add_zero, Nat.zero_add]
        rw [if_neg h2, if_neg h1, p20]; exact o20 q
    have tail : ∀ n : Int64, fX5_reckon_120 h1 (G.jd 0) (nI k) (some (G.jd 5)) n (nI k * 2) (hR h1 658 (G.jd 0)) = some (sB (sB h1 (G.jd 20) (2 * k) n) (G.jd 20) (2 * k + 1) (if hI h1 386 (G.jd 5) = 0 then hL h1 385 (G.jd 5) else 0)) := by
      intro n
      have S2 : SX (sB h1 (G.jd 20) (2 * k) n) G := S1
      have t5 : hT (sB h1 (G.jd 20) (2 * k) n) (G.jd 5) = 4 := S1.jt5 J
      have i5 : hI (sB h1 (G.jd 20) (2 * k) n) 386 (G.jd 5) = hI h1 386 (G.jd 5) := rfl
      have l5 : hL (sB h1 (G.jd 20) (2 * k) n) 385 (G.jd 5) = hL h1 385 (G.jd 5) := rfl
      rw [fX5_reckon_120, S1.jr658 J, oN_v, oC_d (S1.jt20 J), S1.jn20 J, e2, oC_t x0, y0, oL_v, oC_d (S2.jt0 J), oN_v, oC_d t5, i5, l5, S2.jr658 J, e3]
      by_cases z0 : hI h1 386 (G.jd 5) = 0
      · rw [if_pos z0, if_pos z0, fX5_reckon_145, oN_v, oC_d (S2.jt20 J), S2.jn20 J, oC_t x1, y1, oL_v]
      · rw [if_neg z0, if_neg z0, fX5_reckon_145, oN_v, oC_d (S2.jt20 J), S2.jn20 J, oC_t x1, y1, oL_v]
    rw [ul, fX5_reckon_16F, oC_d (S.jt0 J), nn, Q.n, if_pos (Int32.le_refl _), S.jr641 J, oN_v, oC_d (S.jt1 J), a1, oB2_v, oC_d (S1.jt0 J), oN_v, oC_d (S1.jt5 J)]
    cases ht : finS (smS (kdx u0) (vlx u0 z.np nu E3) (flT u0 z.np A k L)) with
    | none =>
      rw [ht] at a3
      have f1 : hI h1 386 (G.jd 5) = 1 := a3
      have := tail 0
      rw [f1, if_neg (by decide)] at this
      rw [f1, if_neg (by decide)]
      exact fin 0 0 this
    | some q =>
      rw [ht] at a3
      obtain ⟨f1, f2, f3⟩ := a3
      have := tail (hL h1 384 (G.jd 5))
      rw [f1, if_pos rfl, f3] at this
      rw [f1, if_pos rfl]
      rw [f2] at this ⊢
      exact fin q.1 q.2 this
  | succ m ih =>
    intro i f h e c W K o n19 o19 o20
    have hi : i < L.length := by omega
    have S := W.s
    have nn := (c.own S0 J v0 (by unfold pRk; omega)).1
    have o15 := (c.own S0 J v15 (by unfold pRk; omega)).2.2.1
    have o16 := (c.own S0 J v16 (by unfold pRk; omega)).2.2.1
    have o17 := (c.own S0 J v17 (by unfold pRk; omega)).2.2.1
    have eN : hN h = hN h0 := c.1.2.2.2.1
    have x5 : ix (nI i) (hN h0 (G.jd 15)) = true := ix_n (show i < hN h0 (G.jd 15) by omega) (by omega)
    have ci : Int32.toNatClampNeg (nI i) = i := nI_clamp (by omega)
    have e1 : nI i + 1 = nI (i + 1) := nI_add i 1
    have ul : fX5_reckon_16 (f + (m + 1 + 1)) h (G.jd 0) (nI k) (nI i) = fX5_reckon_16F (fX5_reckon_16 (f + (m + 1))) h (G.jd 0) (nI k) (nI i) := rfl
    obtain ⟨r, b, hr, hb, ex⟩ := mem_insL.mp (Q.li i hi)
    have kn := W.k.nrG
    have nr := zo.2.2.2.2.1
    have h125 := pow_le zo.1 (ruV W.k hr).2.1
    have hdl : hdx u0 z.np (L.getD i 0) < 2147483648 := by
      rw [ex]
      by_cases q : hdx u0 z.np (125 * r + b) < 600
      · omega
      · obtain ⟨k', hk⟩ : ∃ k', hdx u0 z.np (125 * r + b) = 600 + k' := ⟨hdx u0 z.np (125 * r + b) - 600, by omega⟩
        have := hd_kind W.k zo hr hb hk
        have := zo.2.2.1
        omega
    have sk : ¬ (hdx u0 z.np (L.getD i 0) = 600 + k ∧ A (L.getD i 0)) → ∃ h', fX5_reckon_84 (fX5_reckon_16 (f + (m + 1))) h (G.jd 0) (nI k) (nI i) = some h' ∧ CH G pRk h0 h' ∧ CEv h' G z u0 nu E1 E2 E3 ∧ SmC h' G k (flT u0 z.np A k L).length (finS (smS (kdx u0) (vlx u0 z.np nu E3) (flT u0 z.np A k L))) ∧ (∀ q, q ≠ k → hA h' (G.jd 19) q = hA h0 (G.jd 19) q) ∧ ∀ q, q ≠ 2 * k → q ≠ 2 * k + 1 → hB h' (G.jd 20) q = hB h0 (G.jd 20) q := by
      intro hn
      have el : flT u0 z.np A k (L.take (i + 1)) = flT u0 z.np A k (L.take i) := by
        rw [take_s hi]; exact filt_n (P := fun x => hdx u0 z.np x = 600 + k ∧ A x) hn
      rw [fX5_reckon_84, oL_v, e1]
      exact ih (i + 1) f h (by omega) c W (by rw [el]; exact K) (by rw [el]; exact o) (by rw [el]; exact n19) o19 o20
    rw [ul, fX5_reckon_16F, oC_d (S.jt0 J), nn 655, Q.n, if_neg (nI_ge hi (by omega)), S.jr653 J, oN_v, oC_d (S.jt16 J), eN, Q.k1, oC_t x5, ci, o16, Q.a6 i hi, show (600 : Int32) + nI k = nI (600 + k) from nI_add 600 k]
    by_cases hk : hdx u0 z.np (L.getD i 0) = 600 + k
    · rw [hk, if_pos rfl, S.jr654 J, oN_v, oC_d (S.jt17 J), Q.k2, oC_t x5, o17]
      by_cases s1 : hA h0 (G.jd 17) i = 1
      · have Ax := (ts i hi).mp s1
        have kd := hd_kind W.k zo hr hb (by rw [← ex]; exact hk)
        have el : flT u0 z.np A k (L.take (i + 1)) = flT u0 z.np A k (L.take i) ++ [L.getD i 0] := by
          rw [take_s hi]; exact filt_y (P := fun x => hdx u0 z.np x = 600 + k ∧ A x) ⟨hk, Ax⟩
        obtain ⟨h1, a1, a2, a3, a4⟩ := boundC W zo (by rw [nn 642]; exact Q.m2) hr hb
        have S1 := a3.s
        have K1 := K.ch a2 S J (fun i hi => by omega)
        obtain ⟨h2, b1, b2, b3, b4⟩ := takeC a3 hc a4 hr kd.1 K1 o
        have S2 := b2.sx S1
        have p19 : ∀ q, hA h2 (G.jd 19) q = hA h (G.jd 19) q := fun q => ((b2.own S1 J v19 (by unfold pTk; omega)).2.2.1 q).trans ((a2.own S J v19 (by decide)).2.2.1 q)
        have p20 : ∀ q, hB h2 (G.jd 20) q = hB h (G.jd 20) q := fun q => ((b2.own S1 J v20 (by unfold pTk; omega)).2.2.2 q).trans ((a2.own S J v20 (by decide)).2.2.2 q)
        have cA : CH G (fun j => j = 19) h2 (sA h2 (G.jd 19) k (nI (flT u0 z.np A k (L.take i)).length + 1)) := (CH.refl G (fun j => j = 19) h2).sA v19 rfl
        have W2 : CEv h2 G z u0 nu E1 E2 E3 := a3.ch2 b2 (by unfold pTk; omega)
        have n94 : G.jd 20 ≠ G.jd 19 := jd_ne S J v20 v19 (by decide)
        have id := inst_n (r := r) (b := b) (by omega)
        have bx : btx u0 z.np (L.getD i 0) = bt z.np (vN u0 r) b := by unfold btx; rw [ex, id.1, id.2]
        have es : smS (kdx u0) (vlx u0 z.np nu E3) (flT u0 z.np A k (L.take (i + 1))) = stpS (mA u0 48 r) (val (bt z.np (vN u0 r) b) nu (E3 r)) (smS (kdx u0) (vlx u0 z.np nu E3) (flT u0 z.np A k (L.take i))) := by
          rw [el, smS_app]
          unfold kdx vlx
          rw [bx, ex, id.1]
        have n' : hN h2 (G.jd 19) = 20 := S2.jn19 J
        have x20 : ix (nI k) 20 = true := ix_n k20 (by decide)
        have ck : Int32.toNatClampNeg (nI k) = k := nI_clamp (by omega)
        obtain ⟨h3, z1, z2⟩ := ih (i + 1) f (sA h2 (G.jd 19) k (nI (flT u0 z.np A k (L.take i)).length + 1)) (by omega) (((c.trans (a2.mono fun j e => by unfold pRk; omega)).trans (b2.mono fun j e => by unfold pTk at e; unfold pRk; omega)).trans (cA.mono fun j e => by unfold pRk; omega)) (W2.ch2 cA (by decide)) (by rw [es]; exact b3.ch cA S2 J (fun i hi => by omega)) (by rw [es]; exact stpS_ok o b4) (by
          simp only [z_hI_sI, z_hL_sI, z_hR_sI, z_hA_sI, z_hB_sI, z_hC_sI, z_hT_sI, z_hN_sI, z_hZ_sI, z_hI_sL, z_hL_sL, z_hR_sL, z_hA_sL, z_hB_sL, z_hC_sL, z_hT_sL, z_hN_sL, z_hZ_sL, z_hI_sR, z_hL_sR, z_hR_sR, z_hA_sR, z_hB_sR, z_hC_sR, z_hT_sR, z_hN_sR, z_hZ_sR, z_hI_sA, z_hL_sA, z_hR_sA, z_hA_sA, z_hB_sA, z_hC_sA, z_hT_sA, z_hN_sA, z_hZ_sA, z_hI_sB, z_hL_sB, z_hR_sB, z_hA_sB, z_hB_sB, z_hC_sB, z_hT_sB, z_hN_sB, z_hZ_sB, z_hI_sC, z_hL_sC, z_hR_sC, z_hA_sC, z_hB_sC, z_hC_sC, z_hT_sC, z_hN_sC, z_hZ_sC, z_hI_sY, z_hL_sY, z_hR_sY, z_hA_sY, z_hB_sY, z_hC_sY, z_hT_sY, z_hN_sY, z_hZ_sY, z_hI_nO, z_hL_nO, z_hR_nO, z_hA_nO, z_hB_nO, z_hC_nO, z_hT_nO, z_hN_nO, z_hZ_nO, z_hI_nA, z_hL_nA, z_hR_nA, z_hA_nA, z_hB_nA, z_hC_nA, z_hT_nA, z_hN_nA, z_hZ_nA, if_true, if_false, and_false, false_and, and_true, true_and, and_self, decide_true, decide_false, reduceCtorEq, not_false_eq_true, not_true_eq_false, Nat.reduceEqDiff, Nat.reduceAdd, Nat.reduceMul, Nat.add_zero, Nat.zero_add]
          rw [el, List.length_append]
          exact nI_add _ 1) (fun q hq => by
          simp only [z_hI_sI, z_hL_sI, z_hR_sI, z_hA_sI, z_hB_sI, z_hC_sI, z_hT_sI, z_hN_sI, z_hZ_sI, z_hI_sL, z_hL_sL, z_hR_sL, z_hA_sL, z_hB_sL, z_hC_sL, z_hT_sL, z_hN_sL, z_hZ_sL, z_hI_sR, z_hL_sR, z_hR_sR, z_hA_sR, z_hB_sR, z_hC_sR, z_hT_sR, z_hN_sR, z_hZ_sR, z_hI_sA, z_hL_sA, z_hR_sA, z_hA_sA, z_hB_sA, z_hC_sA, z_hT_sA, z_hN_sA, z_hZ_sA, z_hI_sB, z_hL_sB, z_hR_sB, z_hA_sB, z_hB_sB, z_hC_sB, z_hT_sB, z_hN_sB, z_hZ_sB, z_hI_sC, z_hL_sC, z_hR_sC, z_hA_sC, z_hB_sC, z_hC_sC, z_hT_sC, z_hN_sC, z_hZ_sC, z_hI_sY, z_hL_sY, z_hR_sY, z_hA_sY, z_hB_sY, z_hC_sY, z_hT_sY, z_hN_sY, z_hZ_sY, z_hI_nO, z_hL_nO, z_hR_nO, z_hA_nO, z_hB_nO, z_hC_nO, z_hT_nO, z_hN_nO, z_hZ_nO, z_hI_nA, z_hL_nA, z_hR_nA, z_hA_nA, z_hB_nA, z_hC_nA, z_hT_nA, z_hN_nA, z_hZ_nA, if_true, if_false, and_false, false_and, and_true, true_and, and_self, decide_true, decide_false, reduceCtorEq, not_false_eq_true, not_true_eq_false, Nat.reduceEqDiff, Nat.reduceAdd, Nat.reduceMul, Nat.add_zero, Nat.zero_add]
          rw [if_neg hq, p19]; exact o19 q hq) (fun q => by
          simp only [z_hI_sI, z_hL_sI, z_hR_sI, z_hA_sI, z_hB_sI, z_hC_sI, z_hT_sI, z_hN_sI, z_hZ_sI, z_hI_sL, z_hL_sL, z_hR_sL, z_hA_sL, z_hB_sL, z_hC_sL, z_hT_sL, z_hN_sL, z_hZ_sL, z_hI_sR, z_hL_sR, z_hR_sR, z_hA_sR, z_hB_sR, z_hC_sR, z_hT_sR, z_hN_sR, z_hZ_sR, z_hI_sA, z_hL_sA, z_hR_sA, z_hA_sA, z_hB_sA, z_hC_sA, z_hT_sA, z_hN_sA, z_hZ_sA, z_hI_sB, z_hL_sB, z_hR_sB, z_hA_sB, z_hB_sB, z_hC_sB, z_hT_sB, z_hN_sB, z_hZ_sB, z_hI_sC, z_hL_sC, z_hR_sC, z_hA_sC, z_hB_sC, z_hC_sC, z_hT_sC, z_hN_sC, z_hZ_sC, z_hI_sY, z_hL_sY, z_hR_sY, z_hA_sY, z_hB_sY, z_hC_sY, z_hT_sY, z_hN_sY, z_hZ_sY, z_hI_nO, z_hL_nO, z_hR_nO, z_hA_nO, z_hB_nO, z_hC_nO, z_hT_nO, z_hN_nO, z_hZ_nO, z_hI_nA, z_hL_nA, z_hR_nA, z_hA_nA, z_hB_nA, z_hC_nA, z_hT_nA, z_hN_nA, z_hZ_nA]
          rw [p20]; exact o20 q)
        refine ⟨h3, ?_, z2⟩
        have m19 : hA h2 (G.jd 19) k = nI (flT u0 z.np A k (L.take i)).length := by rw [p19]; exact n19
        rw [if_pos s1, S.jr652 J, oN_v, oC_d (S.jt15 J), oC_t x5, o15, Q.a5 i hi, ex, a1, oB2_v, if_neg (by simp), oC_d (S1.jt0 J), oN_v, oC_d (S1.rlT r (by omega)), S1.jr641 J, oN_v, oC_d (S1.jt1 J), S1.hdR r (by omega), b1, oB_v, oC_d (S2.jt0 J), S2.jr657 J, oN_v, oC_d (S2.jt19 J), n', oC_t x20, oC_t x20, ck, m19, oL_v, fX5_reckon_84, oL_v, e1]
        exact z1
      · rw [if_neg s1]
        exact sk fun h => s1 ((ts i hi).mpr h.2)
    · rw [if_neg (by rw [nI_eq hdl (by omega)]; exact hk)]
      exact sk fun h => hk h.1
theorem reckonC {h : PH} {G : Gh} {z : Sz} {u0 : MS} {nu : Nat → Int32} {E1 E2 E3 : Nat → List Tok} {d1 d2 : Int32} {L : List Nat} {A : Nat → Prop} {k : Nat} (zo : z.ok) (hc : z.pc < 99000) (Q : CSt h G z u0 nu E1 E2 E3 d1 d2 L) (ll : L.length ≤ 3750) (k20 : k < 20) (ts : ∀ i, i < L.length → (hA h (G.jd 17) i = 1 ↔ A (L.getD i 0))) : ∃ h', fX5_reckon h (G.jd 0) (nI k) = some h' ∧ CH G pRk h h' ∧ CEv h' G z u0 nu E1 E2 E3 ∧ SmC h' G k (flT u0 z.np A k L).length (finS (smS (kdx u0) (vlx u0 z.np nu E3) (flT u0 z.np A k L))) ∧ (∀ q, q ≠ k → hA h' (G.jd 19) q = hA h (G.jd 19) q) ∧ ∀ q, q ≠ 2 * k → q ≠ 2 * k + 1 → hB h' (G.jd 20) q = hB h (G.jd 20) q := by
  have S := Q.W.s
  have J := Q.W.j
  have v17 : vj 17 := by unfold vj; omega
  have v19 : vj 19 := by unfold vj; omega
  have v20 : vj 20 := by unfold vj; omega
  obtain ⟨h1, a1, a2, a3⟩ := beginSumC S J
  have S1 := a2.sx S
  have cA : CH G (fun j => j = 19) h1 (sA h1 (G.jd 19) k 0) := (CH.refl G (fun j => j = 19) h1).sA v19 rfl
  have cc : CH G (fun j => pTk j ∨ j = 19) h (sA h1 (G.jd 19) k 0) := (a2.mono fun j e => .inl e).trans (cA.mono fun j e => .inr e)
  have W1 := Q.W.ch2 cc (by unfold pTk; omega)
  have p19 := (a2.own S J v19 (by unfold pTk; omega)).2.2.1
  have p20 := (a2.own S J v20 (by unfold pTk; omega)).2.2.2
  have nil : flT u0 z.np A k (L.take 0) = [] := by rw [List.take_zero]; rfl
  obtain ⟨f, hf⟩ : ∃ f', FU = f' + (L.length + 1) := ⟨FU - (L.length + 1), by have : FU = 100000 := rfl; omega⟩
  have n' : hN h1 (G.jd 19) = 20 := S1.jn19 J
  have z1' : smS (kdx u0) (vlx u0 z.np nu E3) [] = sS := rfl
  obtain ⟨h2, z1, z2, z3, z4, z5, z6⟩ := rk16 (A := A) zo hc Q k20 ts L.length 0 f (sA h1 (G.jd 19) k 0) (by omega) (cc.mono fun j e => by unfold pTk at e; unfold pRk; omega) W1 (by rw [nil, z1']; exact a3.ch cA S1 J (fun i hi => by omega)) (by rw [nil, z1']; exact okSm_s) (by rw [nil]; simp only [z_hI_sI, z_hL_sI, z_hR_sI, z_hA_sI, z_hB_sI, z_hC_sI, z_hT_sI, z_hN_sI, z_hZ_sI, z_hI_sL, z_hL_sL, z_hR_sL, z_hA_sL, z_hB_sL, z_hC_sL, z_hT_sL, z_hN_sL, z_hZ_sL, z_hI_sR, z_hL_sR, z_hR_sR, z_hA_sR, z_hB_sR, z_hC_sR, z_hT_sR, z_hN_sR, z_hZ_sR, z_hI_sA, z_hL_sA, z_hR_sA, z_hA_sA, z_hB_sA, z_hC_sA, z_hT_sA, z_hN_sA, z_hZ_sA, z_hI_sB, z_hL_sB, z_hR_sB, z_hA_sB, z_hB_sB, z_hC_sB, z_hT_sB, z_hN_sB, z_hZ_sB, z_hI_sC, z_hL_sC, z_hR_sC, z_hA_sC, z_hB_sC, z_hC_sC, z_hT_sC, z_hN_sC, z_hZ_sC, z_hI_sY, z_hL_sY, z_hR_sY, z_hA_sY, z_hB_sY, z_hC_sY, z_hT_sY, z_hN_sY, z_hZ_sY, z_hI_nO, z_hL_nO, z_hR_nO, z_hA_nO, z_hB_nO, z_hC_nO, z_hT_nO, z_hN_nO, z_hZ_nO, z_hI_nA, z_hL_nA, z_hR_nA, z_hA_nA, z_hB_nA, z_hC_nA, z_hT_nA, z_hN_nA, z_hZ_nA, if_true, if_false, and_false, false_and, and_true, true_and, and_self, decide_true, decide_false, reduceCtorEq, not_false_eq_true, not_true_eq_false, Nat.reduceEqDiff, Nat.reduceAdd, Nat.reduceMul, Nat.add_zero, Nat.zero_add]; rfl) (fun q hq => by simp only [z_hI_sI, z_hL_sI, z_hR_sI, z_hA_sI, z_hB_sI, z_hC_sI, z_hT_sI, z_hN_sI, z_hZ_sI, z_hI_sL, z_hL_sL, z_hR_sL, z_hA_sL, z_hB_sL, z_hC_sL, z_hT_sL, z_hN_sL, z_hZ_sL, z_hI_sR, z_hL_sR, z_hR_sR, z_hA_sR, z_hB_sR, z_hC_sR, z_hT_sR, z_hN_sR, z_hZ_sR, z_hI_sA, z_hL_sA, z_hR_sA, z_hA_sA, z_hB_sA, z_hC_sA, z_hT_sA, z_hN_sA, z_hZ_sA, z_hI_sB, z_hL_sB, z_hR_sB, z_hA_sB, z_hB_sB, z_hC_sB, z_hT_sB, z_hN_sB, z_hZ_sB, z_hI_sC, z_hL_sC, z_hR_sC, z_hA_sC, z_hB_sC, z_hC_sC, z_hT_sC, z_hN_sC, z_hZ_sC, z_hI_sY, z_hL_sY, z_hR_sY, z_hA_sY, z_hB_sY, z_hC_sY, z_hT_sY, z_hN_sY, z_hZ_sY, z_hI_nO, z_hL_nO, z_hR_nO, z_hA_nO, z_hB_nO, z_hC_nO, z_hT_nO, z_hN_nO, z_hZ_nO, z_hI_nA, z_hL_nA, z_hR_nA, z_hA_nA, z_hB_nA, z_hC_nA, z_hT_nA, z_hN_nA, z_hZ_nA, if_true, if_false, and_false, false_and, and_true, true_and, and_self, decide_true, decide_false, reduceCtorEq, not_false_eq_true, not_true_eq_false, Nat.reduceEqDiff, Nat.reduceAdd, Nat.reduceMul, Nat.add_zero, Nat.zero_add]; rw [if_neg hq, p19]) (fun q => by simp only [z_hI_sI, z_hL_sI, z_hR_sI, z_hA_sI, z_hB_sI, z_hC_sI, z_hT_sI, z_hN_sI, z_hZ_sI, z_hI_sL, z_hL_sL, z_hR_sL, z_hA_sL, z_hB_sL, z_hC_sL, z_hT_sL, z_hN_sL, z_hZ_sL, z_hI_sR, z_hL_sR, z_hR_sR, z_hA_sR, z_hB_sR, z_hC_sR, z_hT_sR, z_hN_sR, z_hZ_sR, z_hI_sA, z_hL_sA, z_hR_sA, z_hA_sA, z_hB_sA, z_hC_sA, z_hT_sA, z_hN_sA, z_hZ_sA, z_hI_sB, z_hL_sB, z_hR_sB, z_hA_sB, z_hB_sB, z_hC_sB, z_hT_sB, z_hN_sB, z_hZ_sB, z_hI_sC, z_hL_sC, z_hR_sC, z_hA_sC, z_hB_sC, z_hC_sC, z_hT_sC, z_hN_sC, z_hZ_sC, z_hI_sY, z_hL_sY, z_hR_sY, z_hA_sY, z_hB_sY, z_hC_sY, z_hT_sY, z_hN_sY, z_hZ_sY, z_hI_nO, z_hL_nO, z_hR_nO, z_hA_nO, z_hB_nO, z_hC_nO, z_hT_nO, z_hN_nO, z_hZ_nO, z_hI_nA, z_hL_nA, z_hR_nA, z_hA_nA, z_hB_nA, z_hC_nA, z_hT_nA, z_hN_nA, z_hZ_nA]; rw [p20])
  refine ⟨h2, ?_, z2, z3, z4, z5, z6⟩
  rw [fX5_reckon, fX5_reckon_0, oC_d (S.jt0 J), S.jr641 J, oN_v, oC_d (S.jt1 J), a1, oB_v, oC_d (S1.jt0 J), S1.jr657 J, oN_v, oC_d (S1.jt19 J), n', oC_t (ix_n k20 (by decide)), nI_clamp (show k < 2147483648 by omega), oL_v, hf]
  exact z1
