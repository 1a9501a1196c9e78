theorem set2_ag {u : MS} {x : Nat} {a o : Int32} : MAg g89 u (set2 u x a o) := ((MAg.refl u).sA (fun q => q.1 rfl)).sA (fun q => q.2 rfl)
theorem set2_89 {u : MS} {x q : Nat} {a o : Int32} : mA (set2 u x a o) 89 q = if q = x then a else mA u 89 q := by
  unfold set2
  simp only [z_mI_mSI, z_mL_mSI, z_mA_mSI, z_mB_mSI, z_mI_mSL, z_mL_mSL, z_mA_mSL, z_mB_mSL, z_mI_mSA, z_mL_mSA, z_mA_mSA, z_mB_mSA, z_mI_mSB, z_mL_mSB, z_mA_mSB, z_mB_mSB, show ¬ (89 = 90) by decide, if_true, if_false, and_false, false_and, and_true, true_and, and_self, decide_true, decide_false, reduceCtorEq, not_false_eq_true, not_true_eq_false, Nat.reduceEqDiff, Nat.reduceAdd, Nat.reduceMul, Nat.add_zero, Nat.zero_add]
theorem set2_90 {u : MS} {x q : Nat} {a o : Int32} : mA (set2 u x a o) 90 q = if q = x then o else mA u 90 q := by
  unfold set2
  simp only [z_mI_mSI, z_mL_mSI, z_mA_mSI, z_mB_mSI, z_mI_mSL, z_mL_mSL, z_mA_mSL, z_mB_mSL, z_mI_mSA, z_mL_mSA, z_mA_mSA, z_mB_mSA, z_mI_mSB, z_mL_mSB, z_mA_mSB, z_mB_mSB, show ¬ (90 = 89) by decide, if_true, if_false, and_false, false_and, and_true, true_and, and_self, decide_true, decide_false, reduceCtorEq, not_false_eq_true, not_true_eq_false, Nat.reduceEqDiff, Nat.reduceAdd, Nat.reduceMul, Nat.add_zero, Nat.zero_add]
/-- what the conditions from k on leave -/
def SCn (u : MS) (u' : MS) (u0 : MS) (β : Nat → Nat) (r : Nat) (x : Nat) (k : Nat) (n : Nat) : Prop := (MAg g89 u u') ∧ (∀ q, q ≠ x → mA u' 89 q = mA u 89 q ∧ mA u' 90 q = mA u 90 q) ∧ (Tf (mA u' 89 x) (mA u 89 x = 1 ∧ ∀ i, k ≤ i → i < n → mA u0 51 (6 * r + i) = 0 → mA u 92 (ltc u0 β (6 * r + i)) = 1)) ∧ (Tf (mA u' 90 x) (mA u 90 x = 1 ∨ ∃ i, k ≤ i ∧ i < n ∧ mA u0 51 (6 * r + i) = 0 ∧ mA u 93 (ltc u0 β (6 * r + i)) = 1))
theorem SCn.ag {u : MS} {u' : MS} {u0 : MS} {β : Nat → Nat} {r : Nat} {x : Nat} {k : Nat} {n : Nat} (X_ : SCn u u' u0 β r x k n) : MAg g89 u u' := X_.1
theorem SCn.ot {u : MS} {u' : MS} {u0 : MS} {β : Nat → Nat} {r : Nat} {x : Nat} {k : Nat} {n : Nat} (X_ : SCn u u' u0 β r x k n) : ∀ q, q ≠ x → mA u' 89 q = mA u 89 q ∧ mA u' 90 q = mA u 90 q := X_.2.1
theorem SCn.n9 {u : MS} {u' : MS} {u0 : MS} {β : Nat → Nat} {r : Nat} {x : Nat} {k : Nat} {n : Nat} (X_ : SCn u u' u0 β r x k n) : Tf (mA u' 89 x) (mA u 89 x = 1 ∧ ∀ i, k ≤ i → i < n → mA u0 51 (6 * r + i) = 0 → mA u 92 (ltc u0 β (6 * r + i)) = 1) := X_.2.2.1
theorem SCn.n0 {u : MS} {u' : MS} {u0 : MS} {β : Nat → Nat} {r : Nat} {x : Nat} {k : Nat} {n : Nat} (X_ : SCn u u' u0 β r x k n) : Tf (mA u' 90 x) (mA u 90 x = 1 ∨ ∃ i, k ≤ i ∧ i < n ∧ mA u0 51 (6 * r + i) = 0 ∧ mA u 93 (ltc u0 β (6 * r + i)) = 1) := X_.2.2.2
theorem SCn.mk {u : MS} {u' : MS} {u0 : MS} {β : Nat → Nat} {r : Nat} {x : Nat} {k : Nat} {n : Nat} (ag_ : MAg g89 u u') (ot_ : ∀ q, q ≠ x → mA u' 89 q = mA u 89 q ∧ mA u' 90 q = mA u 90 q) (n9_ : Tf (mA u' 89 x) (mA u 89 x = 1 ∧ ∀ i, k ≤ i → i < n → mA u0 51 (6 * r + i) = 0 → mA u 92 (ltc u0 β (6 * r + i)) = 1)) (n0_ : Tf (mA u' 90 x) (mA u 90 x = 1 ∨ ∃ i, k ≤ i ∧ i < n ∧ mA u0 51 (6 * r + i) = 0 ∧ mA u 93 (ltc u0 β (6 * r + i)) = 1)) : SCn u u' u0 β r x k n := ⟨ag_, ot_, n9_, n0_⟩
theorem steps84 {h0 : PH} {u0 : MS} {G : Gh} {z : Sz} {β : Nat → Nat} {nu : Nat → Int32} {r b x : Nat} {k2 : MS → Int32 → Option MS} {k12 : MS → Int32 → Int32 → Option MS} (K : KR h0 u0 G z) (zo : z.ok) (hr : r < z.nr) (hx : x < 3750) (hb : ∀ v, v < vN u0 r → β v < z.np) : ∀ m k f u, k + m = cN u0 r → MC u β (vN u0 r) z.np nu → MAg kS u0 u → (∀ q, q < 600 → b01 (mA u 92 q) ∧ b01 (mA u 93 q)) → b01 (mA u 89 x) → b01 (mA u 90 x) → ∃ u', fX12_steps_84 k2 k12 (f + (m + 1)) u (nI r) (nI b) (nI x) (nI (6 * r + k)) = k12 u' (nI r) (nI (b + 1)) ∧ SCn u u' u0 β r x k (cN u0 r) := by
  obtain ⟨l, kk, n, v, h1, h2, h3, h4, h5, h6, h7, h8, h9, ha, hb', hc', hd, he, hf⟩ := K.ru r hr
  have en : cN u0 r = n := by unfold cN; rw [hb', nI_clamp (by omega)]
  have ev : vN u0 r = v := by unfold vN; rw [hd, nI_clamp (by omega)]
  have nr := zo.2.2.2.2.1
  have x41 : ix (nI r) (mlen 41) = true := ix_n (show r < mlen 41 by show r < 30; omega) (by decide)
  have cr : Int32.toNatClampNeg (nI r) = r := nI_clamp (by omega)
  have cx : Int32.toNatClampNeg (nI x) = x := nI_clamp (by omega)
  have x89 : ix (nI x) (mlen 89) = true := ix_n (show x < mlen 89 from hx) (by decide)
  rw [en]
  intro m
  induction m with
  | zero =>
    intro k f u ek M g b23 b9 b0
    have m41 : mA u 41 r = nI n := by rw [(g 41 (by unfold kS; omega)).2.2.1]; exact hb'
    refine ⟨u, ?_, SCn.mk (MAg.refl u) (fun _ _ => ⟨rfl, rfl⟩) ((tf1 b9).iff ⟨fun h => ⟨h, fun i h1 h2 => by omega⟩, fun h => h.1⟩) ((tf1 b0).iff ⟨fun h => .inl h, fun h => ?_⟩)⟩
    · have ul : fX12_steps_84 k2 k12 (f + (0 + 1)) u (nI r) (nI b) (nI x) (nI (6 * r + k)) = fX12_steps_84F k2 k12 (fX12_steps_84 k2 k12 f) u (nI r) (nI b) (nI x) (nI (6 * r + k)) := rfl
      rw [ul, fX12_steps_84F, oC_t x41, cr, m41, show (6 : Int32) = nI 6 from rfl, nI_mul, nI_add, if_pos (nI_le (by omega) (by omega)), fX12_steps_213, oL_v, show nI b + 1 = nI (b + 1) from nI_add b 1]
    · rcases h with h | ⟨i, h1, h2, _⟩
      · exact h
      · omega
  | succ m ih =>
    intro k f u ek M g b23 b9 b0
    have m41 : mA u 41 r = nI n := by rw [(g 41 (by unfold kS; omega)).2.2.1]; exact hb'
    have mm : ∀ q, kS q → ∀ i, mA u q i = mA u0 q i := fun q hq => (g q hq).2.2.1
    have hi : 6 * r + k < 180 := by omega
    have ci : Int32.toNatClampNeg (nI (6 * r + k)) = 6 * r + k := nI_clamp (by omega)
    have x5 : ∀ s, mlen s = 180 → ix (nI (6 * r + k)) (mlen s) = true := fun s hs => ix_n (by rw [hs]; exact hi) (by rw [hs]; decide)
    have ul : fX12_steps_84 k2 k12 (f + (m + 1 + 1)) u (nI r) (nI b) (nI x) (nI (6 * r + k)) = fX12_steps_84F k2 k12 (fX12_steps_84 k2 k12 (f + (m + 1))) u (nI r) (nI b) (nI x) (nI (6 * r + k)) := rfl
    rw [ul, fX12_steps_84F, oC_t x41, cr, m41, show (6 : Int32) = nI 6 from rfl, nI_mul, nI_add, if_neg (nI_ge (show 6 * r + k < 6 * r + n by omega) (by omega)), oC_t (x5 51 rfl), ci, mm 51 (by unfold kS; omega)]
    by_cases c : mA u0 51 (6 * r + k) = 0
    · have lt : LtR u0 z (vN u0 r) (hI h0 257 (G.cd r k)) (hI h0 258 (G.cd r k)) (hI h0 259 (G.cd r k)) (hI h0 260 (G.cd r k)) (mA u0 52 (6 * r + k)) (mA u0 53 (6 * r + k)) (mA u0 54 (6 * r + k)) (mA u0 55 (6 * r + k)) := by
        rw [ev]
        rcases hf k (by omega) with ⟨_, _, q⟩ | ⟨_, q, _⟩ | ⟨_, q, _⟩ | ⟨q, _⟩
        · exact q
        · rw [c] at q; exact absurd q (by decide)
        · rw [c] at q; exact absurd q (by decide)
        · rw [c] at q; exact absurd q (by decide)
      have ll : ltc u0 β (6 * r + k) < 600 := (lt.lit zo hb).2
      have lm : fX12_literalBy u (mA u0 52 (6 * r + k)) (mA u0 53 (6 * r + k)) (mA u0 54 (6 * r + k)) (mA u0 55 (6 * r + k)) = some (nI (ltc u0 β (6 * r + k))) := lt.m M zo
      have key : ∀ a : Int32, Tf a (mA u 89 x = 1 ∧ mA u 92 (ltc u0 β (6 * r + k)) = 1) → ∃ u', fX12_steps_176 k2 k12 (fX12_steps_84 k2 k12 (f + (m + 1))) u (nI r) (nI b) (nI x) (nI (6 * r + k)) (nI (ltc u0 β (6 * r + k))) a (nI x) = k12 u' (nI r) (nI (b + 1)) ∧ SCn u u' u0 β r x k n := by
        intro a ta
        obtain ⟨o, s1, s2⟩ := step206 (k2 := k2) (k12 := k12) (k84 := fX12_steps_84 k2 k12 (f + (m + 1))) (u := u) (r := r) (b := b) (i := 6 * r + k) hx ll ta.b b0 (b23 _ ll).2
        have ag := set2_ag (u := u) (x := x) (a := a) (o := o)
        have e92 : ∀ q, mA (set2 u x a o) 92 q = mA u 92 q := (ag 92 (by unfold g89; omega)).2.2.1
        have e93 : ∀ q, mA (set2 u x a o) 93 q = mA u 93 q := (ag 93 (by unfold g89; omega)).2.2.1
        have a9 : mA (set2 u x a o) 89 x = a := by rw [set2_89, if_pos rfl]
        have a0 : mA (set2 u x a o) 90 x = o := by rw [set2_90, if_pos rfl]
        obtain ⟨u', q1, q2⟩ := ih (k + 1) f (set2 u x a o) (by omega) (M.ch ag (by unfold g89; omega) (by unfold g89; omega)) (g.trans (ag.mono fun k hk => by unfold kS at hk; unfold g89; omega)) (fun q hq => by rw [e92, e93]; exact b23 q hq) (by rw [a9]; exact ta.b) (by rw [a0]; exact s2.b)
        refine ⟨u', by rw [s1]; exact q1, SCn.mk (ag.trans q2.ag) ?_ (q2.n9.iff ?_) (q2.n0.iff ?_)⟩
        · intro q hq
          have := q2.ot q hq
          rw [this.1, this.2, set2_89, set2_90, if_neg hq, if_neg hq]
          exact ⟨rfl, rfl⟩
        · simp only [e92, a9, ta.one]
          constructor
          · intro h
            refine ⟨h.1.1, fun i i1 i2 i3 => ?_⟩
            by_cases e : i = k
            · rw [e]; exact h.1.2
            · exact h.2 i (by omega) i2 i3
          · intro h
            exact ⟨⟨h.1, h.2 k (Nat.le_refl _) (by omega) c⟩, fun i i1 i2 i3 => h.2 i (by omega) i2 i3⟩
        · simp only [e93, a0, s2.one]
          constructor
          · intro h
            rcases h with (h | h) | ⟨i, i1, i2, i3⟩
            · exact .inl h
            · exact .inr ⟨k, Nat.le_refl _, by omega, c, h⟩
            · exact .inr ⟨i, by omega, i2, i3⟩
          · intro h
            rcases h with h | ⟨i, i1, i2, i3, i4⟩
            · exact .inl (.inl h)
            · by_cases e : i = k
              · rw [e] at i4; exact .inl (.inr i4)
              · exact .inr ⟨i, by omega, i2, i3, i4⟩
      rw [if_pos c, oC_t (x5 52 rfl), oC_t (x5 53 rfl), oC_t (x5 54 rfl), oC_t (x5 55 rfl), mm 52 (by unfold kS; omega), mm 53 (by unfold kS; omega), mm 54 (by unfold kS; omega), mm 55 (by unfold kS; omega), lm, oB_v, oC_t x89, cx]
      by_cases d : mA u 89 x = 0
      · rw [if_pos d]
        exact key 0 (.inr ⟨rfl, fun h => absurd (d.symm.trans h.1) (by decide)⟩)
      · rw [if_neg d, oC_t (ix_n (show ltc u0 β (6 * r + k) < mlen 92 from ll) (by decide)), nI_clamp (show ltc u0 β (6 * r + k) < 2147483648 by omega)]
        by_cases d2 : mA u 92 (ltc u0 β (6 * r + k)) = 0
        · rw [if_pos d2]
          exact key 0 (.inr ⟨rfl, fun h => absurd (d2.symm.trans h.2) (by decide)⟩)
        · rw [if_neg d2]
          exact key 1 (.inl ⟨rfl, b9.ne d, (b23 _ ll).1.ne d2⟩)
    · rw [if_neg c, fX12_steps_207, oL_v, show nI (6 * r + k) + 1 = nI (6 * r + (k + 1)) from nI_add _ 1]
      obtain ⟨u', q1, q2⟩ := ih (k + 1) f u (by omega) M g b23 b9 b0
      refine ⟨u', q1, SCn.mk q2.ag q2.ot (q2.n9.iff ⟨fun h => ⟨h.1, fun i i1 i2 i3 => ?_⟩, fun h => ⟨h.1, fun i i1 i2 i3 => h.2 i (by omega) i2 i3⟩⟩) (q2.n0.iff ⟨fun h => ?_, fun h => ?_⟩)⟩
      · by_cases e : i = k
        · rw [e] at i3; exact absurd i3 c
        · exact h.2 i (by omega) i2 i3
      · rcases h with h | ⟨i, i1, i2⟩
        · exact .inl h
        · exact .inr ⟨i, by omega, i2⟩
      · rcases h with h | ⟨i, i1, i2, i3, i4⟩
        · exact .inl h
        · by_cases e : i = k
          · rw [e] at i3; exact absurd i3 c
          · exact .inr ⟨i, by omega, i2, i3, i4⟩
