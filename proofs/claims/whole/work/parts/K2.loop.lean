/-- where the reference's rounds end -/
def RE (u0 : MS) (u : MS) (z : Sz) (nu : Nat → Int32) (E1 : Nat → List Tok) (E2 : Nat → List Tok) (d1 : Int32) (d2 : Int32) (fa : Nat → Prop) : Prop := (RI u0 u z nu E1 E2 d1 d2 fa) ∧ (RQ u (mkD u0 z nu E1 E2 d1 d2 fa) (p92 u) (p93 u)) ∧ (∀ p, p92 u p ↔ LfP (mkD u0 z nu E1 E2 d1 d2 fa) p) ∧ (∀ p, p93 u p ↔ LfR (mkD u0 z nu E1 E2 d1 d2 fa) p) ∧ (Exc (LfP (mkD u0 z nu E1 E2 d1 d2 fa)) (LfR (mkD u0 z nu E1 E2 d1 d2 fa)))
theorem RE.I {u0 : MS} {u : MS} {z : Sz} {nu : Nat → Int32} {E1 : Nat → List Tok} {E2 : Nat → List Tok} {d1 : Int32} {d2 : Int32} {fa : Nat → Prop} (X_ : RE u0 u z nu E1 E2 d1 d2 fa) : RI u0 u z nu E1 E2 d1 d2 fa := X_.1
theorem RE.Q {u0 : MS} {u : MS} {z : Sz} {nu : Nat → Int32} {E1 : Nat → List Tok} {E2 : Nat → List Tok} {d1 : Int32} {d2 : Int32} {fa : Nat → Prop} (X_ : RE u0 u z nu E1 E2 d1 d2 fa) : RQ u (mkD u0 z nu E1 E2 d1 d2 fa) (p92 u) (p93 u) := X_.2.1
theorem RE.lp {u0 : MS} {u : MS} {z : Sz} {nu : Nat → Int32} {E1 : Nat → List Tok} {E2 : Nat → List Tok} {d1 : Int32} {d2 : Int32} {fa : Nat → Prop} (X_ : RE u0 u z nu E1 E2 d1 d2 fa) : ∀ p, p92 u p ↔ LfP (mkD u0 z nu E1 E2 d1 d2 fa) p := X_.2.2.1
theorem RE.lr {u0 : MS} {u : MS} {z : Sz} {nu : Nat → Int32} {E1 : Nat → List Tok} {E2 : Nat → List Tok} {d1 : Int32} {d2 : Int32} {fa : Nat → Prop} (X_ : RE u0 u z nu E1 E2 d1 d2 fa) : ∀ p, p93 u p ↔ LfR (mkD u0 z nu E1 E2 d1 d2 fa) p := X_.2.2.2.1
theorem RE.ex {u0 : MS} {u : MS} {z : Sz} {nu : Nat → Int32} {E1 : Nat → List Tok} {E2 : Nat → List Tok} {d1 : Int32} {d2 : Int32} {fa : Nat → Prop} (X_ : RE u0 u z nu E1 E2 d1 d2 fa) : Exc (LfP (mkD u0 z nu E1 E2 d1 d2 fa)) (LfR (mkD u0 z nu E1 E2 d1 d2 fa)) := X_.2.2.2.2
theorem RE.mk {u0 : MS} {u : MS} {z : Sz} {nu : Nat → Int32} {E1 : Nat → List Tok} {E2 : Nat → List Tok} {d1 : Int32} {d2 : Int32} {fa : Nat → Prop} (I_ : RI u0 u z nu E1 E2 d1 d2 fa) (Q_ : RQ u (mkD u0 z nu E1 E2 d1 d2 fa) (p92 u) (p93 u)) (lp_ : ∀ p, p92 u p ↔ LfP (mkD u0 z nu E1 E2 d1 d2 fa) p) (lr_ : ∀ p, p93 u p ↔ LfR (mkD u0 z nu E1 E2 d1 d2 fa) p) (ex_ : Exc (LfP (mkD u0 z nu E1 E2 d1 d2 fa)) (LfR (mkD u0 z nu E1 E2 d1 d2 fa))) : RE u0 u z nu E1 E2 d1 d2 fa := ⟨I_, Q_, lp_, lr_, ex_⟩
def gRd (k : Nat) : Prop := k ≠ 89 ∧ k ≠ 90 ∧ k ≠ 95 ∧ k ≠ 92 ∧ k ≠ 93
theorem round1 {h0 : PH} {u0 u : MS} {G : Gh} {z : Sz} {nu : Nat → Int32} {E1 E2 : Nat → List Tok} {d1 d2 : Int32} {fa : Nat → Prop} {f : Nat} (K : KR h0 u0 G z) (zo : z.ok) (I : RI u0 u z nu E1 E2 d1 d2 fa) (g : Goo (mkD u0 z nu E1 E2 d1 d2 fa) (p92 u) (p93 u)) : ∃ u2 c, fX12_judge_38 (f + 1) u 1 = fX12_judge_38 f u2 c ∧ MAg gRd u u2 ∧ RI u0 u2 z nu E1 E2 d1 d2 fa ∧ b01 c ∧ (c = 0 → RE u0 u2 z nu E1 E2 d1 d2 fa) ∧ (c = 1 → cz u2 < cz u ∧ Goo (mkD u0 z nu E1 E2 d1 d2 fa) (p92 u2) (p93 u2)) := by
  obtain ⟨u1, a1, a2⟩ := stepsM (fa := fa) K zo I.B I.b23 I.ho
  have Q1 := I.rq K zo a2
  have e92 : ∀ q, mA u1 92 q = mA u 92 q := (a2.ag 92 (by unfold g895; omega)).2.2.1
  have e93 : ∀ q, mA u1 93 q = mA u 93 q := (a2.ag 93 (by unfold g895; omega)).2.2.1
  have b1 : ∀ q, q < 600 → b01 (mA u1 92 q) ∧ b01 (mA u1 93 q) := fun q hq => by rw [e92, e93]; exact I.b23 q hq
  have I1 : RI u0 u1 z nu E1 E2 d1 d2 fa := I.fr a2.ag (fun q hq => by unfold g895; omega) b1
  obtain ⟨u2, c, b2, b3⟩ := growsM Q1 (I1.B.gl K zo) b1
  have I2 : RI u0 u2 z nu E1 E2 d1 d2 fa := I1.fr b3.ag (fun q hq => by unfold g92; omega) fun q hq => ⟨(b3.n2 q hq).1, (b3.n3 q hq).1⟩
  have gg : MAg gRd u u2 := (a2.ag.mono fun k hk => ⟨hk.1, hk.2.1, hk.2.2.1⟩).trans (b3.ag.mono fun k hk => ⟨hk.2.2.2.1, hk.2.2.2.2⟩)
  have n2 := b3.n2
  have n3 := b3.n3
  simp only [e92] at n2
  simp only [e93] at n3
  refine ⟨u2, c, ?_, gg, I2, b3.cb, ?_, ?_⟩
  · have ul : fX12_judge_38 (f + 1) u 1 = fX12_judge_38F (fX12_judge_38 f) u 1 := rfl
    rw [ul, fX12_judge_38F, if_neg (show ¬ (1 : Int32) = 0 by decide), a1, oB_v, b2, oB2_v]
  · intro hc
    obtain ⟨_, same⟩ := b3.cn hc
    have s2 : p92 u2 = p92 u := by
      funext p
      apply propext
      unfold p92
      exact ⟨fun h => ⟨h.1, by rw [← e92, ← (same p h.1).1]; exact h.2⟩, fun h => ⟨h.1, by rw [(same p h.1).1, e92]; exact h.2⟩⟩
    have s3 : p93 u2 = p93 u := by
      funext p
      apply propext
      unfold p93
      exact ⟨fun h => ⟨h.1, by rw [← e93, ← (same p h.1).2]; exact h.2⟩, fun h => ⟨h.1, by rw [(same p h.1).2, e93]; exact h.2⟩⟩
    have pre : Pre (mkD u0 z nu E1 E2 d1 d2 fa) (p92 u) (p93 u) := by
      constructor
      · intro p hl hp
        have h6 : p < 600 := hl.1
        rw [← s2]
        exact ⟨h6, (n2 p h6).2.mpr (.inr ⟨Nat.zero_le _, hl, hp⟩)⟩
      · intro p hl hp
        have h6 : p < 600 := hl.1
        rw [← s3]
        exact ⟨h6, (n3 p h6).2.mpr (.inr ⟨Nat.zero_le _, hl, hp⟩)⟩
    obtain ⟨w1, w2, w3⟩ := g.fin pre
    exact RE.mk I2 (by rw [s2, s3]; exact Q1.fr b3.ag) (by rw [s2]; exact w1) (by rw [s3]; exact w2) w3
  · intro hc
    rw [hc] at b3
    have := b3.cz b1
    have e : cz u1 = cz u := by unfold cz cz1; simp only [e92, e93]
    refine ⟨by omega, g.step (fun p => ?_) (fun p => ?_)⟩
    · unfold p92
      constructor
      · intro h
        rcases (n2 p h.1).2.mp h.2 with k | k
        · exact .inl ⟨h.1, k⟩
        · exact .inr k.2
      · intro h
        rcases h with h | h
        · exact ⟨h.1, (n2 p h.1).2.mpr (.inl h.2)⟩
        · have h6 : p < 600 := h.1.1
          exact ⟨h6, (n2 p h6).2.mpr (.inr ⟨Nat.zero_le _, h⟩)⟩
    · unfold p93
      constructor
      · intro h
        rcases (n3 p h.1).2.mp h.2 with k | k
        · exact .inl ⟨h.1, k⟩
        · exact .inr k.2
      · intro h
        rcases h with h | h
        · exact ⟨h.1, (n3 p h.1).2.mpr (.inl h.2)⟩
        · have h6 : p < 600 := h.1.1
          exact ⟨h6, (n3 p h6).2.mpr (.inr ⟨Nat.zero_le _, h⟩)⟩
theorem rounds {h0 : PH} {u0 : MS} {G : Gh} {z : Sz} {nu : Nat → Int32} {E1 E2 : Nat → List Tok} {d1 d2 : Int32} {fa : Nat → Prop} (K : KR h0 u0 G z) (zo : z.ok) : ∀ n f u, cz u ≤ n → RI u0 u z nu E1 E2 d1 d2 fa → Goo (mkD u0 z nu E1 E2 d1 d2 fa) (p92 u) (p93 u) → ∃ u' f', fX12_judge_38 (f + (n + 2)) u 1 = fX12_judge_38 (f' + 1) u' 0 ∧ MAg gRd u u' ∧ RE u0 u' z nu E1 E2 d1 d2 fa := by
  intro n
  induction n with
  | zero =>
    intro f u hz I g
    obtain ⟨u2, c, a1, a2, a3, a4, a5, a6⟩ := round1 (f := f + 1) K zo I g
    rcases a4 with h | h
    · subst h
      exact ⟨u2, f, a1, a2, a5 rfl⟩
    · have := (a6 h).1
      omega
  | succ n ih =>
    intro f u hz I g
    obtain ⟨u2, c, a1, a2, a3, a4, a5, a6⟩ := round1 (f := f + (n + 2)) K zo I g
    rcases a4 with h | h
    · subst h
      exact ⟨u2, f + (n + 1), a1, a2, a5 rfl⟩
    · subst h
      obtain ⟨u3, f', b1, b2, b3⟩ := ih f u2 (by have := (a6 rfl).1; omega) a3 (a6 rfl).2
      exact ⟨u3, f', a1.trans b1, a2.trans b2, b3⟩
