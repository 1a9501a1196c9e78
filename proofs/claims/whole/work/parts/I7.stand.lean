/-- what holds decides: the reference's comparison -/
theorem comparesM {h0 : PH} {u0 u : MS} {G : Gh} {z : Sz} {β : Nat → Nat} {nu : Nat → Int32} {e1 e2 : List Tok} {r a i : Nat} (M : MC u β (vN u0 r) z.np nu) (hc : z.rc ≤ 37000) (g : MAg kS u0 u) (hi : i < 180) (pg : PgC h0 u0 G z r a i e1 e2) (ko : mA u0 56 i = 16 ∨ mA u0 56 i = 17 ∨ mA u0 56 i = 18 ∨ mA u0 56 i = 19) : ∃ u' x, fX12_compares u (nI i) = some (u', x) ∧ Tf x (cmpT (mA u0 56 i) (val β nu e1) (val β nu e2)) ∧ MAg wk9 u u' := by
  obtain ⟨g1, g2⟩ := pg
  have m : ∀ k, kS k → ∀ i, mA u k i = mA u0 k i := fun k hk => (g k hk).2.2.1
  have m57 := m 57 (by unfold kS; omega)
  have m58 := m 58 (by unfold kS; omega)
  have m59 := m 59 (by unfold kS; omega)
  obtain ⟨u1, a1, a2, a3, a4⟩ := g1.worth M hc g
  have M1 := M.ch a2 (by unfold wk9; omega) (by unfold wk9; omega)
  have k9 : ∀ k, kS k → wk9 k := fun k hk => by unfold kS at hk; unfold wk9; omega
  have gg1 : MAg kS u0 u1 := g.trans (a2.mono k9)
  obtain ⟨u2, b1, b2, b3, b4⟩ := g2.worth M1 hc gg1
  have gg2 : MAg kS u0 u2 := gg1.trans (b2.mono k9)
  have n58 : mA u1 58 i = mA u0 58 i := (gg1 58 (by unfold kS; omega)).2.2.1 i
  have n59 : mA u1 59 i = mA u0 59 i := (gg1 59 (by unfold kS; omega)).2.2.1 i
  have n56 : mA u2 56 i = mA u0 56 i := (gg2 56 (by unfold kS; omega)).2.2.1 i
  have x56 : ix (nI i) (mlen 56) = true := ix_n (show i < mlen 56 from hi) (by decide)
  have x57 : ix (nI i) (mlen 57) = true := ix_n (show i < mlen 57 from hi) (by decide)
  have x58 : ix (nI i) (mlen 58) = true := ix_n (show i < mlen 58 from hi) (by decide)
  have x59 : ix (nI i) (mlen 59) = true := ix_n (show i < mlen 59 from hi) (by decide)
  have cl : Int32.toNatClampNeg (nI i) = i := nI_clamp (by omega)
  unfold fX12_compares fX12_compares_0
  rw [oC_t x57, oC_t x58, cl, m57, m58, a1]
  rcases v1 : val β nu e1 with _ | y1
  · rw [v1] at a4
    have z1 : mI u1 79 = 1 := a4
    refine ⟨u1, 0, ?_, .inr ⟨rfl, fun e => e⟩, a2⟩
    show (if mI u1 79 = 0 then _ else _) = _
    rw [z1, if_neg (by decide)]
  · rw [v1] at a4
    obtain ⟨z1, z2, z3⟩ := a4
    simp only [oB_v]
    rw [z1, if_pos rfl, oL_v, oL_v, oC_t x58, oC_t x59, n58, n59, b1]
    simp only [oB_v]
    rcases v2 : val β nu e2 with _ | y2
    · rw [v2] at b4
      have z4 : mI u2 79 = 1 := b4
      refine ⟨u2, 0, ?_, .inr ⟨rfl, fun e => e⟩, a2.trans b2⟩
      show (if mI u2 79 = 0 then _ else _) = _
      rw [z4, if_neg (by decide)]
    · rw [v2] at b4
      obtain ⟨z4, z5, z6⟩ := b4
      rw [z4, if_pos rfl, z2, z3, z5, z6, magainst_v, oB_v, oC_t x56, n56, oL_v]
      rcases ko with e | e | e | e
      · rw [e, if_pos (show (16 : Int32) = 16 from rfl)]
        by_cases c : cmpQ y1 y2 = 0
        · rw [if_pos c]
          exact ⟨u2, 1, rfl, .inl ⟨rfl, fun _ => c, fun z => absurd z (by decide), fun z => absurd z (by decide), fun z => absurd z (by decide)⟩, a2.trans b2⟩
        · rw [if_neg c]
          exact ⟨u2, 0, rfl, .inr ⟨rfl, fun e => c (e.1 rfl)⟩, a2.trans b2⟩
      · rw [e, if_neg (show ¬ (17 : Int32) = 16 by decide), if_pos (show (17 : Int32) = 17 from rfl)]
        by_cases c : cmpQ y1 y2 = 0
        · rw [if_pos c]
          exact ⟨u2, 0, rfl, .inr ⟨rfl, fun e => e.2.1 rfl c⟩, a2.trans b2⟩
        · rw [if_neg c]
          exact ⟨u2, 1, rfl, .inl ⟨rfl, fun z => absurd z (by decide), fun _ => c, fun z => absurd z (by decide), fun z => absurd z (by decide)⟩, a2.trans b2⟩
      · rw [e, if_neg (show ¬ (18 : Int32) = 16 by decide), if_neg (show ¬ (18 : Int32) = 17 by decide), if_pos (show (18 : Int32) = 18 from rfl)]
        by_cases c : 0 ≤ cmpQ y1 y2
        · rw [if_pos c]
          exact ⟨u2, 0, rfl, .inr ⟨rfl, fun e => absurd (e.2.2.1 rfl) (Int32.not_lt.mpr c)⟩, a2.trans b2⟩
        · rw [if_neg c]
          exact ⟨u2, 1, rfl, .inl ⟨rfl, fun z => absurd z (by decide), fun z => absurd z (by decide), fun _ => Int32.not_le.mp c, fun z => absurd z (by decide)⟩, a2.trans b2⟩
      · rw [e, if_neg (show ¬ (19 : Int32) = 16 by decide), if_neg (show ¬ (19 : Int32) = 17 by decide), if_neg (show ¬ (19 : Int32) = 18 by decide)]
        by_cases c : 0 < cmpQ y1 y2
        · rw [if_pos c]
          exact ⟨u2, 0, rfl, .inr ⟨rfl, fun e => absurd (e.2.2.2 rfl) (Int32.not_le.mpr c)⟩, a2.trans b2⟩
        · rw [if_neg c]
          exact ⟨u2, 1, rfl, .inl ⟨rfl, fun z => absurd z (by decide), fun z => absurd z (by decide), fun z => absurd z (by decide), fun _ => Int32.not_lt.mp c⟩, a2.trans b2⟩
/-! all of a rule's conditions -/
def allP (P : Nat → Prop) (k n : Nat) : Prop := ∀ i, k ≤ i → i < n → P i
theorem allP.end' {P : Nat → Prop} {k n : Nat} (h : n ≤ k) : allP P k n := fun i a b => by omega
theorem allP.cons {P : Nat → Prop} {k n : Nat} (a : P k) (b : allP P (k + 1) n) : allP P k n := fun i h1 h2 => by
  by_cases c : i = k
  · rw [c]; exact a
  · exact b i (by omega) h2
theorem allP.iff {P : Nat → Prop} {k n : Nat} (h : k < n) (a : P k) : allP P (k + 1) n ↔ allP P k n := ⟨fun b => b.cons a, fun b i h1 h2 => b i (by omega) h2⟩
/-- the reference's standing -/
theorem standingM {h0 : PH} {u0 : MS} {G : Gh} {z : Sz} {β : Nat → Nat} {nu : Nat → Int32} {E1 E2 E3 : Nat → List Tok} {r : Nat} (mo : Mo h0 u0 G z E1 E2 E3) (K : KR h0 u0 G z) (zo : z.ok) (hc : z.rc ≤ 37000) (hr : r < z.nr) : ∀ m k f u, k + m = cN u0 r → MC u β (vN u0 r) z.np nu → MAg kS u0 u → ∃ u' x, fX12_standing_5 (f + (m + 1)) u (nI r) (nI (6 * r + k)) = some (u', x) ∧ Tf x (allP (fun i => cnP u0 nu E1 E2 β (6 * r + i)) k (cN u0 r)) ∧ MAg wk9 u u' := by
  obtain ⟨l, kk, n, v, h1, h2, h3, h4, h5, h6, h7, h8, h9, ha, hb, hc', hd, he, hf⟩ := K.ru r hr
  have en : cN u0 r = n := by unfold cN; rw [hb, nI_clamp (by omega)]
  have ev : vN u0 r = v := by unfold vN; rw [hd, nI_clamp (by omega)]
  have nr := zo.2.2.2.2.1
  rw [en]
  have x41 : ix (nI r) (mlen 41) = true := ix_n (show r < mlen 41 by show r < 30; omega) (by decide)
  have cr : Int32.toNatClampNeg (nI r) = r := nI_clamp (by omega)
  intro m
  induction m with
  | zero =>
    intro k f u ek M g
    have m41 : mA u 41 r = nI n := by rw [(g 41 (by unfold kS; omega)).2.2.1]; exact hb
    refine ⟨u, 1, ?_, .inl ⟨rfl, allP.end' (by omega)⟩, MAg.refl u⟩
    show fX12_standing_5F (fX12_standing_5 f) u (nI r) (nI (6 * r + k)) = _
    unfold fX12_standing_5F
    rw [oC_t x41, cr, m41, show (6 : Int32) = nI 6 from rfl, nI_mul, nI_add, if_pos (nI_le (by omega) (by omega))]
  | succ m ih =>
    intro k f u ek M g
    have m41 : mA u 41 r = nI n := by rw [(g 41 (by unfold kS; omega)).2.2.1]; exact hb
    have mm : ∀ q, kS q → ∀ i, mA u q i = mA u0 q i := fun q hq => (g q hq).2.2.1
    have m51 := mm 51 (by unfold kS; omega) (6 * r + k)
    have m54 := mm 54 (by unfold kS; omega) (6 * r + k)
    have m55 := mm 55 (by unfold kS; omega) (6 * r + k)
    have hi : 6 * r + k < 180 := by omega
    have x51 : ix (nI (6 * r + k)) (mlen 51) = true := ix_n (show _ < mlen 51 from hi) (by decide)
    have x54 : ix (nI (6 * r + k)) (mlen 54) = true := ix_n (show _ < mlen 54 from hi) (by decide)
    have x55 : ix (nI (6 * r + k)) (mlen 55) = true := ix_n (show _ < mlen 55 from hi) (by decide)
    have ci : Int32.toNatClampNeg (nI (6 * r + k)) = 6 * r + k := nI_clamp (by omega)
    have e1 : nI (6 * r + k) + 1 = nI (6 * r + (k + 1)) := nI_add _ 1
    have hb' : ∀ v', v' < v → β v' < z.np := fun v' hv => (M.b v' (by rw [ev]; exact hv)).2
    have l5 := zo.1
    have cont : cnP u0 nu E1 E2 β (6 * r + k) → ∃ u' x, fX12_standing_119 (fX12_standing_5 (f + (m + 1))) u (nI r) (nI (6 * r + k)) = some (u', x) ∧ Tf x (allP (fun i => cnP u0 nu E1 E2 β (6 * r + i)) k n) ∧ MAg wk9 u u' := by
      intro c
      obtain ⟨u', x, q1, q2, q3⟩ := ih (k + 1) f u (by omega) M g
      refine ⟨u', x, ?_, q2.iff (allP.iff (by omega) c), q3⟩
      unfold fX12_standing_119
      rw [oL_v, e1]; exact q1
    have stop : ∀ w, MAg wk9 u w → ¬ cnP u0 nu E1 E2 β (6 * r + k) → ∃ u' x, some (w, (0 : Int32)) = some (u', x) ∧ Tf x (allP (fun i => cnP u0 nu E1 E2 β (6 * r + i)) k n) ∧ MAg wk9 u u' := fun w hw c => ⟨w, 0, rfl, .inr ⟨rfl, fun a => c (a k (Nat.le_refl _) (by omega))⟩, hw⟩
    show ∃ u' x, fX12_standing_5F (fX12_standing_5 (f + (m + 1))) u (nI r) (nI (6 * r + k)) = some (u', x) ∧ _
    unfold fX12_standing_5F
    rw [oC_t x41, cr, m41, show (6 : Int32) = nI 6 from rfl, nI_mul, nI_add, if_neg (nI_ge (show 6 * r + k < 6 * r + n by omega) (by omega)), oC_t x51, oC_t x51, oC_t x51, ci, m51]
    have q := hf k (by omega)
    rcases q with ⟨_, q, _⟩ | ⟨_, q, t1, t2⟩ | ⟨_, q, t1, t2⟩ | ⟨q, qo, _, _⟩
    · rw [q, if_neg (show ¬ (0 : Int32) = 1 by decide), if_neg (show ¬ (0 : Int32) = 2 by decide), if_neg (show ¬ (0 : Int32) = 3 by decide)]
      exact cont ⟨fun e => absurd (q.symm.trans e) (by decide), fun e => absurd (q.symm.trans e) (by decide), fun e => absurd (q.symm.trans e) (by decide)⟩
    · rw [q, if_pos rfl]
      have p1 := t1.lt hb'
      have p2 := t2.lt hb'
      have M' : MC u β v z.np nu := by rw [← ev]; exact M
      have y1 : fX12_personOf u (mA u0 54 (6 * r + k)) 95 = some (nI (pM β (mA u0 54 (6 * r + k)))) := by
        rcases t1.n.m M' with ⟨b1, _⟩ | ⟨_, b2⟩
        · obtain ⟨t, o, _, e2⟩ := t1
          rw [e2] at b1
          refine absurd b1 (nI_m1 ?_)
          unfold tmr okTm at *
          split <;> omega
        · exact b2
      have y2 : fX12_personOf u (mA u0 55 (6 * r + k)) 95 = some (nI (pM β (mA u0 55 (6 * r + k)))) := by
        rcases t2.n.m M' with ⟨b1, _⟩ | ⟨_, b2⟩
        · obtain ⟨t, o, _, e2⟩ := t2
          rw [e2] at b1
          refine absurd b1 (nI_m1 ?_)
          unfold tmr okTm at *
          split <;> omega
        · exact b2
      unfold fX12_standing_40 fX12_standing_74 fX12_standing_91
      simp only [oC_t x54, oC_t x55, oC_t x51, ci, m54, m55, m51, y1, y2, q, oN_v, oC_v, oB_v, oB2_v, oB3_v, oB4_v, oK3_v, oK4_v, oL_v, if_true, nI_eq2 (show pM β (mA u0 54 (6 * r + k)) < 2147483648 by omega) (show pM β (mA u0 55 (6 * r + k)) < 2147483648 by omega)]
      by_cases c : pM β (mA u0 54 (6 * r + k)) = pM β (mA u0 55 (6 * r + k))
      · rw [if_pos c]
        exact cont ⟨fun _ => c, fun e => absurd (q.symm.trans e) (by decide), fun e => absurd (q.symm.trans e) (by decide)⟩
      · rw [if_neg c, if_neg (show ¬ (0 : Int32) = 1 by decide)]
        exact stop u (MAg.refl u) fun e => c (e.1 q)
    · rw [q, if_neg (show ¬ (2 : Int32) = 1 by decide), if_pos rfl]
      have p1 := t1.lt hb'
      have p2 := t2.lt hb'
      have M' : MC u β v z.np nu := by rw [← ev]; exact M
      have y1 : fX12_personOf u (mA u0 54 (6 * r + k)) 95 = some (nI (pM β (mA u0 54 (6 * r + k)))) := by
        rcases t1.n.m M' with ⟨b1, _⟩ | ⟨_, b2⟩
        · obtain ⟨t, o, _, e2⟩ := t1
          rw [e2] at b1
          refine absurd b1 (nI_m1 ?_)
          unfold tmr okTm at *
          split <;> omega
        · exact b2
      have y2 : fX12_personOf u (mA u0 55 (6 * r + k)) 95 = some (nI (pM β (mA u0 55 (6 * r + k)))) := by
        rcases t2.n.m M' with ⟨b1, _⟩ | ⟨_, b2⟩
        · obtain ⟨t, o, _, e2⟩ := t2
          rw [e2] at b1
          refine absurd b1 (nI_m1 ?_)
          unfold tmr okTm at *
          split <;> omega
        · exact b2
      unfold fX12_standing_40 fX12_standing_74 fX12_standing_91
      simp only [oC_t x54, oC_t x55, oC_t x51, ci, m54, m55, m51, y1, y2, q, oN_v, oC_v, oB_v, oB2_v, oB3_v, oB4_v, oK3_v, oK4_v, oL_v, show ¬ (2 : Int32) = 1 by decide, if_false, nI_eq2 (show pM β (mA u0 54 (6 * r + k)) < 2147483648 by omega) (show pM β (mA u0 55 (6 * r + k)) < 2147483648 by omega)]
      by_cases c : pM β (mA u0 54 (6 * r + k)) = pM β (mA u0 55 (6 * r + k))
      · rw [if_pos c, if_neg (show ¬ (1 : Int32) = 0 by decide)]
        exact stop u (MAg.refl u) fun e => e.2.1 q c
      · rw [if_neg c, if_pos trivial]
        exact cont ⟨fun e => absurd (q.symm.trans e) (by decide), fun _ => c, fun e => absurd (q.symm.trans e) (by decide)⟩
    · rw [q, if_neg (show ¬ (3 : Int32) = 1 by decide), if_neg (show ¬ (3 : Int32) = 2 by decide), if_pos rfl]
      obtain ⟨w, x, w1, w2, w3⟩ := comparesM M hc g hi (mo.cd r k hr (by rw [en]; omega) q) (by rcases qo with ⟨_, e⟩ | ⟨_, e⟩ | ⟨_, e⟩ | ⟨_, e⟩ <;> simp only [e, true_or, or_true])
      have cn : cnP u0 nu E1 E2 β (6 * r + k) ↔ cmpT (mA u0 56 (6 * r + k)) (val β nu (E1 (6 * r + k))) (val β nu (E2 (6 * r + k))) := ⟨fun e => e.2.2 q, fun e => ⟨fun z => absurd (q.symm.trans z) (by decide), fun z => absurd (q.symm.trans z) (by decide), fun _ => e⟩⟩
      have k9 : ∀ k, kS k → wk9 k := fun k hk => by unfold kS at hk; unfold wk9; omega
      rw [w1, oB2_v]
      rcases w2 with ⟨e, c⟩ | ⟨e, c⟩
      · rw [e, if_neg (show ¬ (1 : Int32) = 0 by decide)]
        obtain ⟨u', y, q1, q2, q3⟩ := ih (k + 1) f w (by omega) (M.ch w3 (by unfold wk9; omega) (by unfold wk9; omega)) (g.trans (w3.mono k9))
        refine ⟨u', y, ?_, q2.iff (allP.iff (by omega) (cn.mpr c)), w3.trans q3⟩
        unfold fX12_standing_119
        rw [oL_v, e1]; exact q1
      · rw [e, if_pos (show (0 : Int32) = 0 from rfl)]
        exact stop w w3 fun z => c (cn.mp z)
