/-- the class while it settles: what stays -/
def CSt (h : PH) (G : Gh) (z : Sz) (u0 : MS) (nu : Nat → Int32) (E1 : Nat → List Tok) (E2 : Nat → List Tok) (E3 : Nat → List Tok) (d1 : Int32) (d2 : Int32) (L : List Nat) : Prop := (CEv h G z u0 nu E1 E2 E3) ∧ (hI h 642 (G.jd 0) = nI z.np) ∧ (hI h 655 (G.jd 0) = nI L.length) ∧ (∀ i, i < L.length → hA h (G.jd 15) i = nI (L.getD i 0)) ∧ (∀ i, i < L.length → hA h (G.jd 16) i = nI (hdx u0 z.np (L.getD i 0))) ∧ (L.length ≤ hN h (G.jd 15)) ∧ (hN h (G.jd 16) = hN h (G.jd 15)) ∧ (hN h (G.jd 17) = hN h (G.jd 15)) ∧ (hN h (G.jd 15) ≤ 8192) ∧ (∃ m, hI h 651 (G.jd 0) = nI m ∧ m < 2 ^ 30 ∧ ∀ t, Nat.testBit m t = true ↔ t < z.nr ∧ inf u0 d1 d2 t ∧ mA u0 40 t = 0) ∧ (∀ s, s < z.nr → inf u0 d1 d2 s → ∃ m, hA h (G.jd 14) s = nI m ∧ m < 2 ^ 30 ∧ ∀ t, Nat.testBit m t = true ↔ t < z.nr ∧ hix u0 (125 * t) (125 * s)) ∧ (∀ i, i < L.length → L.getD i 0 ∈ insL z.nr z.np (vN u0))
theorem CSt.W {h : PH} {G : Gh} {z : Sz} {u0 : MS} {nu : Nat → Int32} {E1 : Nat → List Tok} {E2 : Nat → List Tok} {E3 : Nat → List Tok} {d1 : Int32} {d2 : Int32} {L : List Nat} (X_ : CSt h G z u0 nu E1 E2 E3 d1 d2 L) : CEv h G z u0 nu E1 E2 E3 := X_.1
theorem CSt.m2 {h : PH} {G : Gh} {z : Sz} {u0 : MS} {nu : Nat → Int32} {E1 : Nat → List Tok} {E2 : Nat → List Tok} {E3 : Nat → List Tok} {d1 : Int32} {d2 : Int32} {L : List Nat} (X_ : CSt h G z u0 nu E1 E2 E3 d1 d2 L) : hI h 642 (G.jd 0) = nI z.np := X_.2.1
theorem CSt.n {h : PH} {G : Gh} {z : Sz} {u0 : MS} {nu : Nat → Int32} {E1 : Nat → List Tok} {E2 : Nat → List Tok} {E3 : Nat → List Tok} {d1 : Int32} {d2 : Int32} {L : List Nat} (X_ : CSt h G z u0 nu E1 E2 E3 d1 d2 L) : hI h 655 (G.jd 0) = nI L.length := X_.2.2.1
theorem CSt.a5 {h : PH} {G : Gh} {z : Sz} {u0 : MS} {nu : Nat → Int32} {E1 : Nat → List Tok} {E2 : Nat → List Tok} {E3 : Nat → List Tok} {d1 : Int32} {d2 : Int32} {L : List Nat} (X_ : CSt h G z u0 nu E1 E2 E3 d1 d2 L) : ∀ i, i < L.length → hA h (G.jd 15) i = nI (L.getD i 0) := X_.2.2.2.1
theorem CSt.a6 {h : PH} {G : Gh} {z : Sz} {u0 : MS} {nu : Nat → Int32} {E1 : Nat → List Tok} {E2 : Nat → List Tok} {E3 : Nat → List Tok} {d1 : Int32} {d2 : Int32} {L : List Nat} (X_ : CSt h G z u0 nu E1 E2 E3 d1 d2 L) : ∀ i, i < L.length → hA h (G.jd 16) i = nI (hdx u0 z.np (L.getD i 0)) := X_.2.2.2.2.1
theorem CSt.le {h : PH} {G : Gh} {z : Sz} {u0 : MS} {nu : Nat → Int32} {E1 : Nat → List Tok} {E2 : Nat → List Tok} {E3 : Nat → List Tok} {d1 : Int32} {d2 : Int32} {L : List Nat} (X_ : CSt h G z u0 nu E1 E2 E3 d1 d2 L) : L.length ≤ hN h (G.jd 15) := X_.2.2.2.2.2.1
theorem CSt.k1 {h : PH} {G : Gh} {z : Sz} {u0 : MS} {nu : Nat → Int32} {E1 : Nat → List Tok} {E2 : Nat → List Tok} {E3 : Nat → List Tok} {d1 : Int32} {d2 : Int32} {L : List Nat} (X_ : CSt h G z u0 nu E1 E2 E3 d1 d2 L) : hN h (G.jd 16) = hN h (G.jd 15) := X_.2.2.2.2.2.2.1
theorem CSt.k2 {h : PH} {G : Gh} {z : Sz} {u0 : MS} {nu : Nat → Int32} {E1 : Nat → List Tok} {E2 : Nat → List Tok} {E3 : Nat → List Tok} {d1 : Int32} {d2 : Int32} {L : List Nat} (X_ : CSt h G z u0 nu E1 E2 E3 d1 d2 L) : hN h (G.jd 17) = hN h (G.jd 15) := X_.2.2.2.2.2.2.2.1
theorem CSt.k4 {h : PH} {G : Gh} {z : Sz} {u0 : MS} {nu : Nat → Int32} {E1 : Nat → List Tok} {E2 : Nat → List Tok} {E3 : Nat → List Tok} {d1 : Int32} {d2 : Int32} {L : List Nat} (X_ : CSt h G z u0 nu E1 E2 E3 d1 d2 L) : hN h (G.jd 15) ≤ 8192 := X_.2.2.2.2.2.2.2.2.1
theorem CSt.sm' {h : PH} {G : Gh} {z : Sz} {u0 : MS} {nu : Nat → Int32} {E1 : Nat → List Tok} {E2 : Nat → List Tok} {E3 : Nat → List Tok} {d1 : Int32} {d2 : Int32} {L : List Nat} (X_ : CSt h G z u0 nu E1 E2 E3 d1 d2 L) : ∃ m, hI h 651 (G.jd 0) = nI m ∧ m < 2 ^ 30 ∧ ∀ t, Nat.testBit m t = true ↔ t < z.nr ∧ inf u0 d1 d2 t ∧ mA u0 40 t = 0 := X_.2.2.2.2.2.2.2.2.2.1
theorem CSt.bm {h : PH} {G : Gh} {z : Sz} {u0 : MS} {nu : Nat → Int32} {E1 : Nat → List Tok} {E2 : Nat → List Tok} {E3 : Nat → List Tok} {d1 : Int32} {d2 : Int32} {L : List Nat} (X_ : CSt h G z u0 nu E1 E2 E3 d1 d2 L) : ∀ s, s < z.nr → inf u0 d1 d2 s → ∃ m, hA h (G.jd 14) s = nI m ∧ m < 2 ^ 30 ∧ ∀ t, Nat.testBit m t = true ↔ t < z.nr ∧ hix u0 (125 * t) (125 * s) := X_.2.2.2.2.2.2.2.2.2.2.1
theorem CSt.li {h : PH} {G : Gh} {z : Sz} {u0 : MS} {nu : Nat → Int32} {E1 : Nat → List Tok} {E2 : Nat → List Tok} {E3 : Nat → List Tok} {d1 : Int32} {d2 : Int32} {L : List Nat} (X_ : CSt h G z u0 nu E1 E2 E3 d1 d2 L) : ∀ i, i < L.length → L.getD i 0 ∈ insL z.nr z.np (vN u0) := X_.2.2.2.2.2.2.2.2.2.2.2
theorem CSt.mk {h : PH} {G : Gh} {z : Sz} {u0 : MS} {nu : Nat → Int32} {E1 : Nat → List Tok} {E2 : Nat → List Tok} {E3 : Nat → List Tok} {d1 : Int32} {d2 : Int32} {L : List Nat} (W_ : CEv h G z u0 nu E1 E2 E3) (m2_ : hI h 642 (G.jd 0) = nI z.np) (n_ : hI h 655 (G.jd 0) = nI L.length) (a5_ : ∀ i, i < L.length → hA h (G.jd 15) i = nI (L.getD i 0)) (a6_ : ∀ i, i < L.length → hA h (G.jd 16) i = nI (hdx u0 z.np (L.getD i 0))) (le_ : L.length ≤ hN h (G.jd 15)) (k1_ : hN h (G.jd 16) = hN h (G.jd 15)) (k2_ : hN h (G.jd 17) = hN h (G.jd 15)) (k4_ : hN h (G.jd 15) ≤ 8192) (sm'_ : ∃ m, hI h 651 (G.jd 0) = nI m ∧ m < 2 ^ 30 ∧ ∀ t, Nat.testBit m t = true ↔ t < z.nr ∧ inf u0 d1 d2 t ∧ mA u0 40 t = 0) (bm_ : ∀ s, s < z.nr → inf u0 d1 d2 s → ∃ m, hA h (G.jd 14) s = nI m ∧ m < 2 ^ 30 ∧ ∀ t, Nat.testBit m t = true ↔ t < z.nr ∧ hix u0 (125 * t) (125 * s)) (li_ : ∀ i, i < L.length → L.getD i 0 ∈ insL z.nr z.np (vN u0)) : CSt h G z u0 nu E1 E2 E3 d1 d2 L := ⟨W_, m2_, n_, a5_, a6_, le_, k1_, k2_, k4_, sm'_, bm_, li_⟩
theorem CSt.ch {h h' : PH} {G : Gh} {P : Nat → Prop} {z : Sz} {u0 : MS} {nu : Nat → Int32} {E1 E2 E3 : Nat → List Tok} {d1 d2 : Int32} {L : List Nat} (Q : CSt h G z u0 nu E1 E2 E3 d1 d2 L) (c : CH G P h h') (n : ∀ i, i = 0 ∨ i = 14 ∨ i = 15 ∨ i = 16 → ¬ P i) (W' : CEv h' G z u0 nu E1 E2 E3) : CSt h' G z u0 nu E1 E2 E3 d1 d2 L := by
  have S := Q.W.s
  have J := Q.W.j
  have o0 := (c.own S J (show vj 0 by unfold vj; omega) (n 0 (by omega))).1
  have o14 := (c.own S J (show vj 14 by unfold vj; omega) (n 14 (by omega))).2.2.1
  have o15 := (c.own S J (show vj 15 by unfold vj; omega) (n 15 (by omega))).2.2.1
  have o16 := (c.own S J (show vj 16 by unfold vj; omega) (n 16 (by omega))).2.2.1
  apply CSt.mk
  · exact W'
  · rw [o0]; exact Q.m2
  · rw [o0]; exact Q.n
  · intro i hi; rw [o15]; exact Q.a5 i hi
  · intro i hi; rw [o16]; exact Q.a6 i hi
  · rw [c.1.2.2.2.1]; exact Q.le
  · rw [c.1.2.2.2.1]; exact Q.k1
  · rw [c.1.2.2.2.1]; exact Q.k2
  · rw [c.1.2.2.2.1]; exact Q.k4
  · rw [o0]; exact Q.sm'
  · intro s h1 h2; rw [o14]; exact Q.bm s h1 h2
  · exact Q.li
/-- the masks of the first i instances -/
def MkI (h : PH) (G : Gh) (L : List Nat) (hd : Nat → Nat) (ap bl : Nat → Prop) (i : Nat) : Prop := ∀ p, p < 600 → (∃ m, hA h (G.jd 13) p = nI m ∧ m < 2 ^ 30 ∧ ∀ t, Nat.testBit m t = true ↔ ∃ j, j < i ∧ hd (L.getD j 0) = p ∧ ¬ bl (L.getD j 0) ∧ L.getD j 0 / 125 = t) ∧ ∃ m, hA h (G.jd 12) p = nI m ∧ m < 2 ^ 30 ∧ ∀ t, Nat.testBit m t = true ↔ ∃ j, j < i ∧ hd (L.getD j 0) = p ∧ ap (L.getD j 0) ∧ L.getD j 0 / 125 = t
/-- an instance's state -/
def T3 (s : Int32) (a b : Prop) : Prop := (s = 2 ∧ b ∧ ¬ a) ∨ (s = 1 ∧ a ∧ ¬ b) ∨ (s = 0 ∧ ¬ a ∧ ¬ b)
theorem exj {i : Nat} {P : Nat → Prop} : (∃ j, j < i + 1 ∧ P j) ↔ (∃ j, j < i ∧ P j) ∨ P i := by
  constructor
  · rintro ⟨j, h1, h2⟩
    by_cases c : j = i
    · rw [c] at h2; exact .inr h2
    · exact .inl ⟨j, by omega, h2⟩
  · rintro (⟨j, h1, h2⟩ | h)
    · exact ⟨j, by omega, h2⟩
    · exact ⟨i, by omega, h⟩
theorem se52 {h : PH} {G : Gh} {z : Sz} {u0 : MS} {nu : Nat → Int32} {E1 E2 E3 : Nat → List Tok} {d1 d2 : Int32} {L : List Nat} {ap bl : Nat → Prop} {i : Nat} {k18 : PH → Nat → Int32 → Option PH} (Q : CSt h G z u0 nu E1 E2 E3 d1 d2 L) (zo : z.ok) (hi : i < L.length) (ts : T3 (hA h (G.jd 17) i) (ap (L.getD i 0)) (bl (L.getD i 0))) (M : MkI h G L (hdx u0 z.np) ap bl i) : ∃ h', fX5_settleInstances_52 k18 h (G.jd 0) (nI i) = k18 h' (G.jd 0) (nI (i + 1)) ∧ CH G (fun k => k = 12 ∨ k = 13) h h' ∧ MkI h' G L (hdx u0 z.np) ap bl (i + 1) := by
  have S := Q.W.s
  have J := Q.W.j
  have k4 := Q.k4
  have le := Q.le
  have v12 : vj 12 := by unfold vj; omega
  have v13 : vj 13 := by unfold vj; omega
  have v17 : vj 17 := by unfold vj; omega
  have n23 := jd_ne S J v12 v13 (by decide)
  have n32 := jd_ne S J v13 v12 (by decide)
  have n73 := jd_ne S J v17 v13 (by decide)
  have x5 : ix (nI i) (hN h (G.jd 15)) = true := ix_n (show i < hN h (G.jd 15) by omega) (by omega)
  have ci : Int32.toNatClampNeg (nI i) = i := nI_clamp (by omega)
  have e1 : nI i + 1 = nI (i + 1) := nI_add i 1
  obtain ⟨r, b, hr, hb, ex⟩ := mem_insL.mp (Q.li i hi)
  obtain ⟨m42, v3, m41, c6⟩ := ruV Q.W.k hr
  have h125 := pow_le zo.1 v3
  have nr := zo.2.2.2.2.1
  have a6 := Q.a6 i hi
  have a5 := Q.a5 i hi
  obtain ⟨x, hx⟩ : ∃ x, x = L.getD i 0 := ⟨_, rfl⟩
  rw [← hx] at ex ts a5 a6
  have x125 : x / 125 = r := by omega
  have hdl : hdx u0 z.np x < 2147483648 := by
    obtain ⟨l', kk, n, v, q1, q2, q3, q4, q5, q6, q7, q8, q9, qa, qb, qc, qd, qe, qf⟩ := Q.W.k.ru r hr
    have ev : vN u0 r = v := by unfold vN; rw [qd, nI_clamp (by omega)]
    have bl' : ∀ j, j < v → bt z.np (vN u0 r) b j < z.np := fun j hj => bt_lt (by rcases pow_pos' hb with c | c <;> omega)
    rw [ex, hdx_v (by omega)]
    rcases qe with q | q
    · rw [if_neg q.1]
      have := (q.2.lit (β := bt z.np (vN u0 r) b) zo bl').2
      omega
    · obtain ⟨c2, ⟨s, s1, s2, s3⟩, _, _, ⟨t, t1, t2, t3⟩, _⟩ := q
      rw [if_pos c2, s3, nI_clamp (by have := zo.2.2.1; omega), t3, pM_tm t1]
      have := pe_lt bl' t1
      have := zo.1
      have := zo.2.2.1
      omega
  have same : ∀ h' : PH, (∀ p, p < 600 → hA h' (G.jd 13) p = hA h (G.jd 13) p) → (∀ p, p < 600 → hA h' (G.jd 12) p = hA h (G.jd 12) p) → (∀ p, p < 600 → ¬ (hdx u0 z.np x = p ∧ ¬ bl x)) → (∀ p, p < 600 → ¬ (hdx u0 z.np x = p ∧ ap x)) → MkI h' G L (hdx u0 z.np) ap bl (i + 1) := by
    intro h' f3 f2 nb na p hp
    obtain ⟨⟨m, m1, m2, m3⟩, ⟨n, n1, n2, n3⟩⟩ := M p hp
    refine ⟨⟨m, by rw [f3 p hp]; exact m1, m2, fun t => (m3 t).trans ?_⟩, ⟨n, by rw [f2 p hp]; exact n1, n2, fun t => (n3 t).trans ?_⟩⟩
    · rw [exj]
      refine ⟨fun a => .inl a, fun a => ?_⟩
      rcases a with a | a
      · exact a
      · rw [← hx] at a; exact absurd ⟨a.1, a.2.1⟩ (nb p hp)
    · rw [exj]
      refine ⟨fun a => .inl a, fun a => ?_⟩
      rcases a with a | a
      · exact a
      · rw [← hx] at a; exact absurd ⟨a.1, a.2.1⟩ (na p hp)
  rw [fX5_settleInstances_52, oC_d (S.jt0 J), S.jr653 J, oN_v, oC_d (S.jt16 J), Q.k1, oC_t x5, ci, a6, oL_v, if_neg (nI_pos hdl)]
  by_cases c6' : hdx u0 z.np x < 600
  · have xp : ix (nI (hdx u0 z.np x)) 600 = true := ix_n c6' (by decide)
    have cp : Int32.toNatClampNeg (nI (hdx u0 z.np x)) = hdx u0 z.np x := nI_clamp hdl
    rw [if_neg (show ¬ (600 : Int32) ≤ nI (hdx u0 z.np x) from nI_ge (b := 600) c6' (by decide)), S.jr654 J, oN_v, oC_d (S.jt17 J), Q.k2, oC_t x5]
    rcases ts with ⟨s2, tb, ta⟩ | ts
    · rw [if_pos s2, fX5_settleInstances_126, oL_v, e1]
      exact ⟨h, rfl, CH.refl G _ h, same h (fun _ _ => rfl) (fun _ _ => rfl) (fun p _ a => a.2 tb) (fun p _ a => ta a.2)⟩
    · have nb : ¬ bl x := by rcases ts with a | a <;> exact a.2.2
      have s2 : ¬ hA h (G.jd 17) i = 2 := by rcases ts with a | a <;> rw [a.1] <;> decide
      obtain ⟨⟨m, m1, m2, m3⟩, ⟨n, n1, n2, n3⟩⟩ := M (hdx u0 z.np x) c6'
      have r30 : 2 ^ r < 2 ^ 30 := Nat.pow_lt_pow_right (by decide) (show r < 30 by omega)
      have o3 : nI m ||| nI (2 ^ r) = nI (m ||| 2 ^ r) := nI_or (lt30 m2) (lt30 r30)
      rw [if_neg s2, S.jr652 J, oN_v, oC_d (S.jt15 J), oC_t x5, a5, nI_d125 (by omega), x125, nI_shl1 r (by omega), oL_v, S.jr649 J, oN_v, oC_d (S.jt13 J), S.jn13 J, oC_t xp, oC_t xp, cp, m1, o3, oL_v]
      have S1 : SX (sA h (G.jd 13) (hdx u0 z.np x) (nI (m ||| 2 ^ r))) G := S
      have st1 : hA (sA h (G.jd 13) (hdx u0 z.np x) (nI (m ||| 2 ^ r))) (G.jd 17) i = hA h (G.jd 17) i := by simp only [z_hI_sI, z_hL_sI, z_hR_sI, z_hA_sI, z_hB_sI, z_hC_sI, z_hT_sI, z_hN_sI, z_hZ_sI, z_hI_sL, z_hL_sL, z_hR_sL, z_hA_sL, z_hB_sL, z_hC_sL, z_hT_sL, z_hN_sL, z_hZ_sL, z_hI_sR, z_hL_sR, z_hR_sR, z_hA_sR, z_hB_sR, z_hC_sR, z_hT_sR, z_hN_sR, z_hZ_sR, z_hI_sA, z_hL_sA, z_hR_sA, z_hA_sA, z_hB_sA, z_hC_sA, z_hT_sA, z_hN_sA, z_hZ_sA, z_hI_sB, z_hL_sB, z_hR_sB, z_hA_sB, z_hB_sB, z_hC_sB, z_hT_sB, z_hN_sB, z_hZ_sB, z_hI_sC, z_hL_sC, z_hR_sC, z_hA_sC, z_hB_sC, z_hC_sC, z_hT_sC, z_hN_sC, z_hZ_sC, z_hI_sY, z_hL_sY, z_hR_sY, z_hA_sY, z_hB_sY, z_hC_sY, z_hT_sY, z_hN_sY, z_hZ_sY, z_hI_nO, z_hL_nO, z_hR_nO, z_hA_nO, z_hB_nO, z_hC_nO, z_hT_nO, z_hN_nO, z_hZ_nO, z_hI_nA, z_hL_nA, z_hR_nA, z_hA_nA, z_hB_nA, z_hC_nA, z_hT_nA, z_hN_nA, z_hZ_nA, if_true, if_false, and_false, false_and, and_true, true_and, and_self, decide_true, decide_false, reduceCtorEq, not_false_eq_true, not_true_eq_false, Nat.reduceEqDiff, Nat.reduceAdd, Nat.reduceMul, Nat.add_zero, Nat.zero_add, n73]
      have p1 : hA (sA h (G.jd 13) (hdx u0 z.np x) (nI (m ||| 2 ^ r))) (G.jd 12) (hdx u0 z.np x) = nI n := by simp only [z_hI_sI, z_hL_sI, z_hR_sI, z_hA_sI, z_hB_sI, z_hC_sI, z_hT_sI, z_hN_sI, z_hZ_sI, z_hI_sL, z_hL_sL, z_hR_sL, z_hA_sL, z_hB_sL, z_hC_sL, z_hT_sL, z_hN_sL, z_hZ_sL, z_hI_sR, z_hL_sR, z_hR_sR, z_hA_sR, z_hB_sR, z_hC_sR, z_hT_sR, z_hN_sR, z_hZ_sR, z_hI_sA, z_hL_sA, z_hR_sA, z_hA_sA, z_hB_sA, z_hC_sA, z_hT_sA, z_hN_sA, z_hZ_sA, z_hI_sB, z_hL_sB, z_hR_sB, z_hA_sB, z_hB_sB, z_hC_sB, z_hT_sB, z_hN_sB, z_hZ_sB, z_hI_sC, z_hL_sC, z_hR_sC, z_hA_sC, z_hB_sC, z_hC_sC, z_hT_sC, z_hN_sC, z_hZ_sC, z_hI_sY, z_hL_sY, z_hR_sY, z_hA_sY, z_hB_sY, z_hC_sY, z_hT_sY, z_hN_sY, z_hZ_sY, z_hI_nO, z_hL_nO, z_hR_nO, z_hA_nO, z_hB_nO, z_hC_nO, z_hT_nO, z_hN_nO, z_hZ_nO, z_hI_nA, z_hL_nA, z_hR_nA, z_hA_nA, z_hB_nA, z_hC_nA, z_hT_nA, z_hN_nA, z_hZ_nA, if_true, if_false, and_false, false_and, and_true, true_and, and_self, decide_true, decide_false, reduceCtorEq, not_false_eq_true, not_true_eq_false, Nat.reduceEqDiff, Nat.reduceAdd, Nat.reduceMul, Nat.add_zero, Nat.zero_add, n23]; exact n1
      have k2' : hN (sA h (G.jd 13) (hdx u0 z.np x) (nI (m ||| 2 ^ r))) (G.jd 17) = hN h (G.jd 15) := Q.k2
      have jn : hN (sA h (G.jd 13) (hdx u0 z.np x) (nI (m ||| 2 ^ r))) (G.jd 12) = 600 := S.jn12 J
      rw [S1.jr648 J, oN_v, oC_d (S1.jt12 J), jn, oC_t xp, S1.jr654 J, oN_v, oC_d (S1.jt17 J), k2', oC_t x5, st1, p1]
      have fin : ∀ w : Nat, w < 2 ^ 30 → (∀ t, Nat.testBit w t = true ↔ Nat.testBit n t = true ∨ (ap x ∧ t = r)) → ∃ h', fX5_settleInstances_126 k18 (sA (sA h (G.jd 13) (hdx u0 z.np x) (nI (m ||| 2 ^ r))) (G.jd 12) (hdx u0 z.np x) (nI w)) (G.jd 0) (nI i) = k18 h' (G.jd 0) (nI (i + 1)) ∧ CH G (fun k => k = 12 ∨ k = 13) h h' ∧ MkI h' G L (hdx u0 z.np) ap bl (i + 1) := by
        intro w w1 w2
        rw [fX5_settleInstances_126, oL_v, e1]
        refine ⟨_, rfl, ((CH.refl G (fun k => k = 12 ∨ k = 13) h).sA v13 (.inr rfl)).sA v12 (.inl rfl), ?_⟩
        intro p hp
        simp only [z_hI_sI, z_hL_sI, z_hR_sI, z_hA_sI, z_hB_sI, z_hC_sI, z_hT_sI, z_hN_sI, z_hZ_sI, z_hI_sL, z_hL_sL, z_hR_sL, z_hA_sL, z_hB_sL, z_hC_sL, z_hT_sL, z_hN_sL, z_hZ_sL, z_hI_sR, z_hL_sR, z_hR_sR, z_hA_sR, z_hB_sR, z_hC_sR, z_hT_sR, z_hN_sR, z_hZ_sR, z_hI_sA, z_hL_sA, z_hR_sA, z_hA_sA, z_hB_sA, z_hC_sA, z_hT_sA, z_hN_sA, z_hZ_sA, z_hI_sB, z_hL_sB, z_hR_sB, z_hA_sB, z_hB_sB, z_hC_sB, z_hT_sB, z_hN_sB, z_hZ_sB, z_hI_sC, z_hL_sC, z_hR_sC, z_hA_sC, z_hB_sC, z_hC_sC, z_hT_sC, z_hN_sC, z_hZ_sC, z_hI_sY, z_hL_sY, z_hR_sY, z_hA_sY, z_hB_sY, z_hC_sY, z_hT_sY, z_hN_sY, z_hZ_sY, z_hI_nO, z_hL_nO, z_hR_nO, z_hA_nO, z_hB_nO, z_hC_nO, z_hT_nO, z_hN_nO, z_hZ_nO, z_hI_nA, z_hL_nA, z_hR_nA, z_hA_nA, z_hB_nA, z_hC_nA, z_hT_nA, z_hN_nA, z_hZ_nA, if_true, if_false, and_false, false_and, and_true, true_and, and_self, decide_true, decide_false, reduceCtorEq, not_false_eq_true, not_true_eq_false, Nat.reduceEqDiff, Nat.reduceAdd, Nat.reduceMul, Nat.add_zero, Nat.zero_add, n23, n32]
        by_cases c : p = hdx u0 z.np x
        · rw [if_pos c, if_pos c]
          refine ⟨⟨m ||| 2 ^ r, rfl, or_lt2 m2 (by omega), fun t => or_bit.trans ?_⟩, ⟨w, rfl, w1, fun t => (w2 t).trans ?_⟩⟩
          · rw [m3 t, exj, ← hx, c]
            exact or_congr Iff.rfl ⟨fun a => ⟨rfl, nb, by omega⟩, fun a => by omega⟩
          · rw [n3 t, exj, ← hx, c]
            exact or_congr Iff.rfl ⟨fun a => ⟨rfl, a.1, by omega⟩, fun a => ⟨a.2.1, by omega⟩⟩
        · rw [if_neg c, if_neg c]
          obtain ⟨⟨m', a1, a2, a3⟩, ⟨n', b1, b2, b3⟩⟩ := M p hp
          refine ⟨⟨m', a1, a2, fun t => (a3 t).trans ?_⟩, ⟨n', b1, b2, fun t => (b3 t).trans ?_⟩⟩
          · rw [exj, ← hx]
            exact ⟨fun a => .inl a, fun a => a.elim id fun a => absurd a.1.symm c⟩
          · rw [exj, ← hx]
            exact ⟨fun a => .inl a, fun a => a.elim id fun a => absurd a.1.symm c⟩
      have tl : ∀ s0 : Int32, fX5_settleInstances_124 k18 (sA h (G.jd 13) (hdx u0 z.np x) (nI (m ||| 2 ^ r))) (G.jd 0) (nI i) s0 (nI n) (nI (hdx u0 z.np x)) (some (G.jd 12)) = fX5_settleInstances_126 k18 (sA (sA h (G.jd 13) (hdx u0 z.np x) (nI (m ||| 2 ^ r))) (G.jd 12) (hdx u0 z.np x) (nI n ||| s0)) (G.jd 0) (nI i) := fun s0 => by
        rw [fX5_settleInstances_124, oN_v, oC_d (S1.jt12 J), jn, oC_t xp, cp, oL_v]
      rcases ts with ⟨t1, t2, t3⟩ | ⟨t1, t2, t3⟩
      · rw [if_pos t1, tl, nI_or (lt30 n2) (lt30 r30)]
        exact fin (n ||| 2 ^ r) (or_lt2 n2 (by omega)) fun t => or_bit.trans (or_congr Iff.rfl ⟨fun a => ⟨t2, a⟩, fun a => a.2⟩)
      · rw [if_neg (by rw [t1]; decide), tl, show (0 : Int32) = nI 0 from rfl, nI_or (lt30 n2) (by decide), Nat.or_zero]
        exact fin n n2 fun t => ⟨fun a => .inl a, fun a => a.elim id fun a => absurd a.1 t2⟩
  · rw [if_pos (show (600 : Int32) ≤ nI (hdx u0 z.np x) from nI_le (a := 600) (by omega) hdl), fX5_settleInstances_126, oL_v, e1]
    exact ⟨h, rfl, CH.refl G _ h, same h (fun _ _ => rfl) (fun _ _ => rfl) (fun p hp a => by omega) (fun p hp a => by omega)⟩
