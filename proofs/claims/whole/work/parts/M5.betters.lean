/-! the rules above a rule, as bits -/
theorem or_bit {m s t : Nat} : Nat.testBit (m ||| 2 ^ s) t = true ↔ Nat.testBit m t = true ∨ t = s := by
  rw [Nat.testBit_or, Nat.testBit_two_pow, Bool.or_eq_true, decide_eq_true_iff]
  exact or_congr Iff.rfl ⟨fun h => h.symm, fun h => h.symm⟩
theorem or_lt2 {m s n : Nat} (h : m < 2 ^ n) (hs : s < n) : m ||| 2 ^ s < 2 ^ n := Nat.or_lt_two_pow h (Nat.pow_lt_pow_right (by decide) hs)
theorem lt30 {m : Nat} (h : m < 2 ^ 30) : m < 2147483648 := Nat.lt_trans h (by decide)
theorem bettersL {h : PH} {G : Gh} {z : Sz} {u0 : MS} {nu : Nat → Int32} {E1 E2 E3 : Nat → List Tok} {r : Nat} (W : CEv h G z u0 nu E1 E2 E3) (M0 : SzM u0 z) (zo : z.ok) (hr : r < z.nr) : ∀ n s f m, s + n = z.nr → m < 2 ^ 30 → (∀ t, Nat.testBit m t = true ↔ t < s ∧ hix u0 (125 * t) (125 * r)) → ∃ m', fX5_bettersOf_4 (f + (n + 1)) h (G.jd 0) (nI r) (nI m) (nI s) = some (nI m') ∧ m' < 2 ^ 30 ∧ ∀ t, Nat.testBit m' t = true ↔ t < z.nr ∧ hix u0 (125 * t) (125 * r)
  | 0, s, f, m, e, hm, hz => by
    have S := W.s
    have J := W.j
    have c5 := W.c.2.2.2.2.1
    have es : s = z.nr := e
    subst es
    have ul : fX5_bettersOf_4 (f + (0 + 1)) h (G.jd 0) (nI r) (nI m) (nI z.nr) = fX5_bettersOf_4F (fX5_bettersOf_4 f) h (G.jd 0) (nI r) (nI m) (nI z.nr) := rfl
    exact ⟨m, by rw [ul, fX5_bettersOf_4F, oC_d (S.jt0 J), S.jr640 J, oN_v, oC_d S.t5, S.r132_5, oN_v, oC_d S.t14, c5, if_pos (Int32.le_refl _)], hm, hz⟩
  | n + 1, s, f, m, e, hm, hz => by
    have S := W.s
    have J := W.j
    have nr := zo.2.2.2.2.1
    have c5 := W.c.2.2.2.2.1
    have hs : s < z.nr := by omega
    have ul : fX5_bettersOf_4 (f + (n + 1 + 1)) h (G.jd 0) (nI r) (nI m) (nI s) = fX5_bettersOf_4F (fX5_bettersOf_4 (f + (n + 1))) h (G.jd 0) (nI r) (nI m) (nI s) := rfl
    obtain ⟨b, b1, b2, b3⟩ := above_v S zo W.c M0 W.k hs hr
    have hx : hix u0 (125 * s) (125 * r) ↔ b = 1 := by
      unfold hix
      rw [show 125 * r / 125 = r by omega, show 125 * s / 125 = s by omega, b3]
      exact ⟨fun h => Option.some.inj h, fun h => by rw [h]⟩
    have e1 : nI s + 1 = nI (s + 1) := nI_add s 1
    rw [ul, fX5_bettersOf_4F, oC_d (S.jt0 J), S.jr640 J, oN_v, oC_d S.t5, S.r132_5, oN_v, oC_d S.t14, c5, if_neg (nI_ge hs (by omega)), b2, oB_v]
    rcases b1 with h0 | h1
    · rw [if_pos h0, fX5_bettersOf_38, show (0 : Int32) = nI 0 from rfl, nI_or (lt30 hm) (by decide), Nat.or_zero, oL_v, oL_v, e1]
      refine bettersL W M0 zo hr n (s + 1) f m (by omega) hm (fun t => (hz t).trans ⟨fun a => ⟨by omega, a.2⟩, fun a => ⟨?_, a.2⟩⟩)
      by_cases c : t = s
      · have := hx.mp (c ▸ a.2)
        rw [h0] at this; exact absurd this (by decide)
      · omega
    · rw [if_neg (by rw [h1]; decide), fX5_bettersOf_38, nI_shl1 s (by omega), nI_or (lt30 hm) (lt30 (Nat.pow_lt_pow_right (by decide) (show s < 30 by omega))), oL_v, oL_v, e1]
      refine bettersL W M0 zo hr n (s + 1) f (m ||| 2 ^ s) (by omega) (or_lt2 hm (by omega)) (fun t => or_bit.trans ⟨fun a => ?_, fun a => ?_⟩)
      · rcases a with a | a
        · have := (hz t).mp a
          exact ⟨by omega, this.2⟩
        · rw [a]; exact ⟨by omega, hx.mpr h1⟩
      · by_cases c : t = s
        · exact .inr c
        · exact .inl ((hz t).mpr ⟨by omega, a.2⟩)
theorem bettersC {h : PH} {G : Gh} {z : Sz} {u0 : MS} {nu : Nat → Int32} {E1 E2 E3 : Nat → List Tok} {r : Nat} (W : CEv h G z u0 nu E1 E2 E3) (M0 : SzM u0 z) (zo : z.ok) (hr : r < z.nr) : ∃ m, fX5_bettersOf h (G.jd 0) (nI r) = some (nI m) ∧ m < 2 ^ 30 ∧ ∀ t, Nat.testBit m t = true ↔ t < z.nr ∧ hix u0 (125 * t) (125 * r) := by
  have nr := zo.2.2.2.2.1
  obtain ⟨f, hf⟩ : ∃ f', FU = f' + (z.nr + 1) := ⟨FU - (z.nr + 1), by have : FU = 100000 := rfl; omega⟩
  rw [fX5_bettersOf, fX5_bettersOf_0, hf]
  exact bettersL W M0 zo hr z.nr 0 f 0 (by omega) (by decide) (fun t => by rw [Nat.zero_testBit]; exact ⟨fun h => absurd h (by decide), fun h => absurd h.1 (by omega)⟩)
