theorem hearC {h : PH} {G : Gh} {u0 : MS} {z : Sz} {d1 d2 : Int32} {k p w : Nat} (S : SX h G) (J : G.jj = true) (hk : k < G.nt) (hp : p < 600) (e0 : hI h 1152 (G.te k) = nI p) (e1 : hI h 1153 (G.te k) = mA u0 76 k) (e2 : hI h 1154 (G.te k) = mA u0 77 k) (e3 : hI h 1155 (G.te k) = nI w) (e4 : hI h 1156 (G.te k) = mA u0 74 k) : ∃ h', fX5_hear h (G.jd 0) (some (G.te k)) d1 d2 = some h' ∧ CH G (fun i => i = 9) h h' ∧ ∀ q, hA h' (G.jd 9) q = if cnt u0 d1 d2 k ∧ q = p then hA h (G.jd 9) q + nI w else hA h (G.jd 9) q := by
  have tt := S.teT k hk
  have v9 : vj 9 := by unfold vj; omega
  rw [fX5_hear, fX5_hear_0, if_neg (by simp), oN_v, oC_d tt, fX9_counts, fX9_counts_0, oC_d tt, e4, e1, e2]
  by_cases c1 : d1 < mA u0 74 k
  · rw [if_pos c1, oB_v, if_pos rfl]
    exact ⟨h, rfl, CH.refl G _ h, fun q => by rw [if_neg (fun a => a.1.1 c1)]⟩
  rw [if_neg c1]
  by_cases c2 : d2 < mA u0 76 k
  · rw [if_pos c2, oB_v, if_pos rfl]
    exact ⟨h, rfl, CH.refl G _ h, fun q => by rw [if_neg (fun a => a.1.2.1 c2)]⟩
  rw [if_neg c2]
  by_cases c3 : mA u0 77 k ≤ d2
  · rw [if_pos c3, oB_v, if_pos rfl]
    exact ⟨h, rfl, CH.refl G _ h, fun q => by rw [if_neg (fun a => a.1.2.2 c3)]⟩
  rw [if_neg c3, oB_v, if_neg (by decide), oC_d (S.jt0 J), S.jr645 J, oN_v, oC_d (S.jt9 J), e0, S.jn9 J, oC_t (ix_n hp (by decide)), oC_t (ix_n hp (by decide)), nI_clamp (show p < 2147483648 by omega), e3, oL_v]
  refine ⟨_, rfl, (CH.refl G _ h).sA v9 rfl, fun q => ?_⟩
  simp only [z_hI_sI, z_hL_sI, z_hR_sI, z_hA_sI, z_hB_sI, z_hC_sI, z_hT_sI, z_hN_sI, z_hZ_sI, z_hI_sL, z_hL_sL, z_hR_sL, z_hA_sL, z_hB_sL, z_hC_sL, z_hT_sL, z_hN_sL, z_hZ_sL, z_hI_sR, z_hL_sR, z_hR_sR, z_hA_sR, z_hB_sR, z_hC_sR, z_hT_sR, z_hN_sR, z_hZ_sR, z_hI_sA, z_hL_sA, z_hR_sA, z_hA_sA, z_hB_sA, z_hC_sA, z_hT_sA, z_hN_sA, z_hZ_sA, z_hI_sB, z_hL_sB, z_hR_sB, z_hA_sB, z_hB_sB, z_hC_sB, z_hT_sB, z_hN_sB, z_hZ_sB, z_hI_sC, z_hL_sC, z_hR_sC, z_hA_sC, z_hB_sC, z_hC_sC, z_hT_sC, z_hN_sC, z_hZ_sC, z_hI_sY, z_hL_sY, z_hR_sY, z_hA_sY, z_hB_sY, z_hC_sY, z_hT_sY, z_hN_sY, z_hZ_sY, z_hI_nO, z_hL_nO, z_hR_nO, z_hA_nO, z_hB_nO, z_hC_nO, z_hT_nO, z_hN_nO, z_hZ_nO, z_hI_nA, z_hL_nA, z_hR_nA, z_hA_nA, z_hB_nA, z_hC_nA, z_hT_nA, z_hN_nA, z_hZ_nA, if_true, if_false, and_false, false_and, and_true, true_and, and_self, decide_true, decide_false, reduceCtorEq, not_false_eq_true, not_true_eq_false, Nat.reduceEqDiff, Nat.reduceAdd, Nat.reduceMul, Nat.add_zero, Nat.zero_add]
  by_cases e : q = p
  · rw [if_pos e, if_pos ⟨⟨c1, c2, c3⟩, e⟩, e]
  · rw [if_neg e, if_neg (fun a => e a.2)]
theorem hearL {G : Gh} {u0 : MS} {z : Sz} {d1 d2 : Int32} (J : G.jj = true) : ∀ m k f h, k + m = G.nt → SX h G → TeR h u0 G z → (∀ q, q < 600 → hA h (G.jd 9) q = nI (tly u0 d1 d2 k q)) → ∃ h', fX11_judge_54 (f + (m + 1)) h 0 d1 d2 (some (G.jd 0)) (nI k) = (oB (fX5_findFacts h' (G.jd 0)) (fun h47 => fX11_judge_89 FU h47 0 d1 d2 (some (G.jd 0)) 0)) ∧ CH G (fun i => i = 9) h h' ∧ ∀ q, q < 600 → hA h' (G.jd 9) q = nI (tly u0 d1 d2 G.nt q)
  | 0, k, f, h, e, S, T, hz => by
    have ek : k = G.nt := e
    subst ek
    have ul : fX11_judge_54 (f + (0 + 1)) h 0 d1 d2 (some (G.jd 0)) (nI G.nt) = fX11_judge_54F (fX11_judge_54 f) h 0 d1 d2 (some (G.jd 0)) (nI G.nt) := rfl
    refine ⟨h, ?_, CH.refl G _ h, hz⟩
    rw [ul, fX11_judge_54F, oC_d S.t0, T.n1, if_pos (Int32.le_refl _), oN_v, oC_d (S.jt0 J)]
  | m + 1, k, f, h, e, S, T, hz => by
    have n100 := S.nt100
    have hk : k < G.nt := by omega
    have ul : fX11_judge_54 (f + (m + 1 + 1)) h 0 d1 d2 (some (G.jd 0)) (nI k) = fX11_judge_54F (fX11_judge_54 (f + (m + 1))) h 0 d1 d2 (some (G.jd 0)) (nI k) := rfl
    obtain ⟨p, w, hp, hl, hw, t1, t2, t3, t4, t5, t6, t7⟩ := T.te k hk
    obtain ⟨h1, a1, a2, a3⟩ := hearC (u0 := u0) (z := z) (d1 := d1) (d2 := d2) S J hk hp t1 t3 t4 t5 t7
    have S1 := a2.sx S
    have T1 : TeR h1 u0 G z := T.fr S ((a2.out S J (a := 0) (by rw [S.o0]; omega)).1 _) (a2.gr S J (by decide)) (MAg.refl u0) (fun _ _ => rfl)
    obtain ⟨h2, b1, b2, b3⟩ := hearL J m (k + 1) f h1 (by omega) S1 T1 (fun q hq => by
      rw [a3, hz q hq]
      show _ = nI (tly u0 d1 d2 k q + if cnt u0 d1 d2 k ∧ (mA u0 75 k).toNatClampNeg = q then (mA u0 78 k).toNatClampNeg else 0)
      rw [t2, t6, nI_clamp (show p < 2147483648 by omega), nI_clamp (show w < 2147483648 by omega)]
      by_cases c : cnt u0 d1 d2 k ∧ q = p
      · rw [if_pos c, if_pos ⟨c.1, c.2.symm⟩, nI_add]
      · rw [if_neg c, if_neg (fun a => c ⟨a.1, a.2.symm⟩), Nat.add_zero])
    refine ⟨h2, ?_, a2.trans b2, b3⟩
    rw [ul, fX11_judge_54F, oC_d S.t0, T.n1, if_neg (nI_ge hk (by omega)), S.r1412_0, oN_v, oC_d S.t31, S.n31, oC_t (ix_n (show k < 100 by omega) (by decide)), oN_v, oC_d (S.jt0 J), nI_clamp (show k < 2147483648 by omega), S.teC k hk, a1, oB_v, oL_v, show nI k + 1 = nI (k + 1) from nI_add k 1]
    exact b1
/-- the facts marked, below p -/
def MkF (h0 h : PH) (G : Gh) (T : Nat → Nat) (p : Nat) : Prop := ∀ q, q < 600 → ((q < p ∧ 3 ≤ T q ∧ T (q ^^^ 1) < T q) → hA h (G.jd 10) q = 1 ∧ hA h (G.jd 11) q = -2) ∧ ((q ^^^ 1 < p ∧ 3 ≤ T (q ^^^ 1) ∧ T q < T (q ^^^ 1)) → hA h (G.jd 10) q = 0 ∧ hA h (G.jd 11) q = -2) ∧ (¬ (q < p ∧ 3 ≤ T q ∧ T (q ^^^ 1) < T q) → ¬ (q ^^^ 1 < p ∧ 3 ≤ T (q ^^^ 1) ∧ T q < T (q ^^^ 1)) → hA h (G.jd 10) q = hA h0 (G.jd 10) q ∧ hA h (G.jd 11) q = hA h0 (G.jd 11) q)
theorem bs_1 : Int8.toInt32 (Int32.toInt8 1) = 1 := by decide
theorem bs_0 : Int8.toInt32 (Int32.toInt8 0) = 0 := by decide
theorem factsL {h0 : PH} {G : Gh} {T : Nat → Nat} (J : G.jj = true) (hT' : ∀ q, q < 600 → T q ≤ 900) : ∀ m p f h, p + m = 600 → SX h G → (∀ q, q < 600 → hA h (G.jd 9) q = nI (T q)) → MkF h0 h G T p → ∃ h', fX5_findFacts_2 (f + (m + 1)) h (G.jd 0) (nI p) = some h' ∧ CH G (fun i => i = 10 ∨ i = 11) h h' ∧ MkF h0 h' G T 600
  | 0, p, f, h, e, S, a9, F => by
    have ep : p = 600 := e
    subst ep
    have ul : fX5_findFacts_2 (f + (0 + 1)) h (G.jd 0) (nI 600) = fX5_findFacts_2F (fX5_findFacts_2 f) h (G.jd 0) (nI 600) := rfl
    exact ⟨h, by rw [ul, fX5_findFacts_2F, if_pos (show (600 : Int32) ≤ nI 600 from Int32.le_refl _)], CH.refl G _ h, F⟩
  | m + 1, p, f, h, e, S, a9, F => by
    have hp : p < 600 := by omega
    have hq := xor1_lt hp
    have t1 := hT' p hp
    have t2 := hT' _ hq
    have xx := xor1_xor hp
    have v9 : vj 9 := by unfold vj; omega
    have v10 : vj 10 := by unfold vj; omega
    have v11 : vj 11 := by unfold vj; omega
    have ul : fX5_findFacts_2 (f + (m + 1 + 1)) h (G.jd 0) (nI p) = fX5_findFacts_2F (fX5_findFacts_2 (f + (m + 1))) h (G.jd 0) (nI p) := rfl
    have e1 : nI p + 1 = nI (p + 1) := nI_add p 1
    have xp : ix (nI p) 600 = true := ix_n hp (by decide)
    have xq : ix (nI (p ^^^ 1)) 600 = true := ix_n hq (by decide)
    have cp : Int32.toNatClampNeg (nI p) = p := nI_clamp (by omega)
    have cq : Int32.toNatClampNeg (nI (p ^^^ 1)) = p ^^^ 1 := nI_clamp (by omega)
    have skip : ¬ (3 ≤ T p ∧ T (p ^^^ 1) < T p) → ∃ h', fX5_findFacts_70 (fX5_findFacts_2 (f + (m + 1))) h (G.jd 0) (nI p) = some h' ∧ CH G (fun i => i = 10 ∨ i = 11) h h' ∧ MkF h0 h' G T 600 := by
      intro hn
      rw [fX5_findFacts_70, oL_v, e1]
      refine factsL J hT' m (p + 1) f h (by omega) S a9 (fun q hq' => ?_)
      obtain ⟨f1, f2, f3⟩ := F q hq'
      have k1 : (q < p + 1 ∧ 3 ≤ T q ∧ T (q ^^^ 1) < T q) ↔ (q < p ∧ 3 ≤ T q ∧ T (q ^^^ 1) < T q) := by
        constructor
        · rintro ⟨a, b⟩
          by_cases c : q = p
          · rw [c] at b; exact absurd b hn
          · exact ⟨by omega, b⟩
        · rintro ⟨a, b⟩; exact ⟨by omega, b⟩
      have k2 : (q ^^^ 1 < p + 1 ∧ 3 ≤ T (q ^^^ 1) ∧ T q < T (q ^^^ 1)) ↔ (q ^^^ 1 < p ∧ 3 ≤ T (q ^^^ 1) ∧ T q < T (q ^^^ 1)) := by
        constructor
        · rintro ⟨a, b⟩
          by_cases c : q ^^^ 1 = p
          · have : q = p ^^^ 1 := by rw [← c, xor1_xor hq']
            rw [c, this] at b; exact absurd b hn
          · exact ⟨by omega, b⟩
        · rintro ⟨a, b⟩; exact ⟨by omega, b⟩
      rw [k1, k2]
      exact ⟨f1, f2, f3⟩
    rw [ul, fX5_findFacts_2F, if_neg (show ¬ (600 : Int32) ≤ nI p from nI_ge (b := 600) hp (by decide)), oC_d (S.jt0 J), S.jr645 J, oN_v, oC_d (S.jt9 J), S.jn9 J, oC_t xp, cp, a9 p hp]
    by_cases c : T p < 3
    · rw [if_pos (show nI (T p) < 3 from nI_lt (b := 3) c (by decide))]
      exact skip fun h => by omega
    rw [if_neg (show ¬ nI (T p) < 3 from nI_nlt (b := 3) (by omega) (by omega)), oC_t xp, nI_xor1 hp, oC_t xq, cq, a9 _ hq]
    by_cases d : T p ≤ T (p ^^^ 1)
    · rw [if_pos (nI_le d (by omega))]
      exact skip fun h => by omega
    have n01 := jd_ne S J v10 v11 (by decide)
    have n10 := jd_ne S J v11 v10 (by decide)
    have c1 : CH G (fun i => i = 10 ∨ i = 11) h (sA (sA (sA (sA h (G.jd 10) p 1) (G.jd 10) (p ^^^ 1) 0) (G.jd 11) p (-2)) (G.jd 11) (p ^^^ 1) (-2)) := ((((CH.refl G _ h).sA v10 (.inl rfl)).sA v10 (.inl rfl)).sA v11 (.inr rfl)).sA v11 (.inr rfl)
    have pq : ¬ p = p ^^^ 1 := by rw [xor1 p hp]; split <;> omega
    have V10 : ∀ q, hA (sA (sA (sA (sA h (G.jd 10) p 1) (G.jd 10) (p ^^^ 1) 0) (G.jd 11) p (-2)) (G.jd 11) (p ^^^ 1) (-2)) (G.jd 10) q = if q = p ^^^ 1 then 0 else if q = p then 1 else hA h (G.jd 10) q := fun q => by
      simp only [z_hI_sI, z_hL_sI, z_hR_sI, z_hA_sI, z_hB_sI, z_hC_sI, z_hT_sI, z_hN_sI, z_hZ_sI, z_hI_sL, z_hL_sL, z_hR_sL, z_hA_sL, z_hB_sL, z_hC_sL, z_hT_sL, z_hN_sL, z_hZ_sL, z_hI_sR, z_hL_sR, z_hR_sR, z_hA_sR, z_hB_sR, z_hC_sR, z_hT_sR, z_hN_sR, z_hZ_sR, z_hI_sA, z_hL_sA, z_hR_sA, z_hA_sA, z_hB_sA, z_hC_sA, z_hT_sA, z_hN_sA, z_hZ_sA, z_hI_sB, z_hL_sB, z_hR_sB, z_hA_sB, z_hB_sB, z_hC_sB, z_hT_sB, z_hN_sB, z_hZ_sB, z_hI_sC, z_hL_sC, z_hR_sC, z_hA_sC, z_hB_sC, z_hC_sC, z_hT_sC, z_hN_sC, z_hZ_sC, z_hI_sY, z_hL_sY, z_hR_sY, z_hA_sY, z_hB_sY, z_hC_sY, z_hT_sY, z_hN_sY, z_hZ_sY, z_hI_nO, z_hL_nO, z_hR_nO, z_hA_nO, z_hB_nO, z_hC_nO, z_hT_nO, z_hN_nO, z_hZ_nO, z_hI_nA, z_hL_nA, z_hR_nA, z_hA_nA, z_hB_nA, z_hC_nA, z_hT_nA, z_hN_nA, z_hZ_nA, if_true, if_false, and_false, false_and, and_true, true_and, and_self, decide_true, decide_false, reduceCtorEq, not_false_eq_true, not_true_eq_false, Nat.reduceEqDiff, Nat.reduceAdd, Nat.reduceMul, Nat.add_zero, Nat.zero_add, n01]
    have V11 : ∀ q, hA (sA (sA (sA (sA h (G.jd 10) p 1) (G.jd 10) (p ^^^ 1) 0) (G.jd 11) p (-2)) (G.jd 11) (p ^^^ 1) (-2)) (G.jd 11) q = if q = p ^^^ 1 then -2 else if q = p then -2 else hA h (G.jd 11) q := fun q => by
      simp only [z_hI_sI, z_hL_sI, z_hR_sI, z_hA_sI, z_hB_sI, z_hC_sI, z_hT_sI, z_hN_sI, z_hZ_sI, z_hI_sL, z_hL_sL, z_hR_sL, z_hA_sL, z_hB_sL, z_hC_sL, z_hT_sL, z_hN_sL, z_hZ_sL, z_hI_sR, z_hL_sR, z_hR_sR, z_hA_sR, z_hB_sR, z_hC_sR, z_hT_sR, z_hN_sR, z_hZ_sR, z_hI_sA, z_hL_sA, z_hR_sA, z_hA_sA, z_hB_sA, z_hC_sA, z_hT_sA, z_hN_sA, z_hZ_sA, z_hI_sB, z_hL_sB, z_hR_sB, z_hA_sB, z_hB_sB, z_hC_sB, z_hT_sB, z_hN_sB, z_hZ_sB, z_hI_sC, z_hL_sC, z_hR_sC, z_hA_sC, z_hB_sC, z_hC_sC, z_hT_sC, z_hN_sC, z_hZ_sC, z_hI_sY, z_hL_sY, z_hR_sY, z_hA_sY, z_hB_sY, z_hC_sY, z_hT_sY, z_hN_sY, z_hZ_sY, z_hI_nO, z_hL_nO, z_hR_nO, z_hA_nO, z_hB_nO, z_hC_nO, z_hT_nO, z_hN_nO, z_hZ_nO, z_hI_nA, z_hL_nA, z_hR_nA, z_hA_nA, z_hB_nA, z_hC_nA, z_hT_nA, z_hN_nA, z_hZ_nA, if_true, if_false, and_false, false_and, and_true, true_and, and_self, decide_true, decide_false, reduceCtorEq, not_false_eq_true, not_true_eq_false, Nat.reduceEqDiff, Nat.reduceAdd, Nat.reduceMul, Nat.add_zero, Nat.zero_add, n10]
    obtain ⟨h', b1, b2, b3⟩ := factsL (h0 := h0) J hT' m (p + 1) f _ (by omega) (c1.sx S) (fun q hq' => by rw [(c1.own S J v9 (by decide)).2.2.1]; exact a9 q hq') (fun q hq' => by
      obtain ⟨f1, f2, f3⟩ := F q hq'
      rw [V10, V11]
      by_cases q1 : q = p
      · have nq : ¬ q = p ^^^ 1 := fun e => pq (q1.symm.trans e)
        rw [if_neg nq, if_neg nq, if_pos q1, if_pos q1]
        refine ⟨fun _ => ⟨rfl, rfl⟩, fun h => ?_, fun h => ?_⟩
        · rw [q1] at h; omega
        · exact absurd ⟨by omega, by rw [q1]; omega⟩ h
      · by_cases q2 : q = p ^^^ 1
        · rw [if_pos q2, if_pos q2]
          have e2 : q ^^^ 1 = p := by rw [q2, xx]
          refine ⟨fun h => ?_, fun _ => ⟨rfl, rfl⟩, fun _ h => ?_⟩
          · rw [e2, q2] at h; omega
          · exact absurd ⟨by omega, by rw [e2, q2]; omega⟩ h
        · rw [if_neg q2, if_neg q2, if_neg q1, if_neg q1]
          have e3 : ¬ q ^^^ 1 = p := fun h => q2 (by rw [← h, xor1_xor hq'])
          refine ⟨fun h => f1 ⟨by omega, h.2⟩, fun h => f2 ⟨by omega, h.2⟩, fun ha hb => f3 (fun h => ha ⟨by omega, h.2⟩) (fun h => hb ⟨by omega, h.2⟩)⟩)
    refine ⟨h', ?_, c1.trans b2, b3⟩
    rw [if_neg (nI_ge (by omega) (by omega)), S.jr646 J, oN_v, oC_d (S.jt10 J), S.jn10 J, oC_t xp, oL_v]
    have S1 : SX (sA h (G.jd 10) p (Int8.toInt32 (Int32.toInt8 1))) G := S
    rw [S1.jr646 J, oN_v, oC_d (S1.jt10 J), S1.jn10 J, oC_t xq, oL_v]
    have S2 : SX (sA (sA h (G.jd 10) p (Int8.toInt32 (Int32.toInt8 1))) (G.jd 10) (p ^^^ 1) (Int8.toInt32 (Int32.toInt8 0))) G := S
    rw [S2.jr647 J, oN_v, oC_d (S2.jt11 J), S2.jn11 J, oC_t xp, oL_v]
    have S3 : SX (sA (sA (sA h (G.jd 10) p (Int8.toInt32 (Int32.toInt8 1))) (G.jd 10) (p ^^^ 1) (Int8.toInt32 (Int32.toInt8 0))) (G.jd 11) p (-2)) G := S
    rw [S3.jr647 J, oN_v, oC_d (S3.jt11 J), S3.jn11 J, oC_t xq, oL_v, fX5_findFacts_70, oL_v, e1, bs_1, bs_0]
    exact b1
