theorem b01.ne {x : Int32} (b : b01 x) (h : ¬ x = 0) : x = 1 := by
  rcases b with b | b
  · exact absurd b h
  · exact b
theorem b01.n1 {x : Int32} (b : b01 x) (h : ¬ x = 1) : x = 0 := by
  rcases b with b | b
  · exact b
  · exact absurd b h
/-- one literal -/
def G1 (u : MS) (u1 : MS) (D : Mdl) (P : Nat → Prop) (R : Nat → Prop) (p : Nat) (c : Int32) (c1 : Int32) : Prop := (MAg g92 u u1) ∧ (∀ q, q ≠ p → mA u1 92 q = mA u 92 q) ∧ (∀ q, q ≠ p → mA u1 93 q = mA u 93 q) ∧ (b01 (mA u1 92 p) ∧ (mA u1 92 p = 1 ↔ mA u 92 p = 1 ∨ (D.li p ∧ prv D P R p))) ∧ (b01 (mA u1 93 p) ∧ (mA u1 93 p = 1 ↔ mA u 93 p = 1 ∨ (D.li p ∧ ref D P R p))) ∧ (b01 c1) ∧ (c1 = 0 → c = 0 ∧ mA u1 92 p = mA u 92 p ∧ mA u1 93 p = mA u 93 p) ∧ (c1 = 1 → c = 1 ∨ (mA u 92 p = 0 ∧ mA u1 92 p = 1) ∨ (mA u 93 p = 0 ∧ mA u1 93 p = 1))
theorem G1.ag {u : MS} {u1 : MS} {D : Mdl} {P : Nat → Prop} {R : Nat → Prop} {p : Nat} {c : Int32} {c1 : Int32} (X_ : G1 u u1 D P R p c c1) : MAg g92 u u1 := X_.1
theorem G1.o2 {u : MS} {u1 : MS} {D : Mdl} {P : Nat → Prop} {R : Nat → Prop} {p : Nat} {c : Int32} {c1 : Int32} (X_ : G1 u u1 D P R p c c1) : ∀ q, q ≠ p → mA u1 92 q = mA u 92 q := X_.2.1
theorem G1.o3 {u : MS} {u1 : MS} {D : Mdl} {P : Nat → Prop} {R : Nat → Prop} {p : Nat} {c : Int32} {c1 : Int32} (X_ : G1 u u1 D P R p c c1) : ∀ q, q ≠ p → mA u1 93 q = mA u 93 q := X_.2.2.1
theorem G1.n2 {u : MS} {u1 : MS} {D : Mdl} {P : Nat → Prop} {R : Nat → Prop} {p : Nat} {c : Int32} {c1 : Int32} (X_ : G1 u u1 D P R p c c1) : b01 (mA u1 92 p) ∧ (mA u1 92 p = 1 ↔ mA u 92 p = 1 ∨ (D.li p ∧ prv D P R p)) := X_.2.2.2.1
theorem G1.n3 {u : MS} {u1 : MS} {D : Mdl} {P : Nat → Prop} {R : Nat → Prop} {p : Nat} {c : Int32} {c1 : Int32} (X_ : G1 u u1 D P R p c c1) : b01 (mA u1 93 p) ∧ (mA u1 93 p = 1 ↔ mA u 93 p = 1 ∨ (D.li p ∧ ref D P R p)) := X_.2.2.2.2.1
theorem G1.cb {u : MS} {u1 : MS} {D : Mdl} {P : Nat → Prop} {R : Nat → Prop} {p : Nat} {c : Int32} {c1 : Int32} (X_ : G1 u u1 D P R p c c1) : b01 c1 := X_.2.2.2.2.2.1
theorem G1.cn {u : MS} {u1 : MS} {D : Mdl} {P : Nat → Prop} {R : Nat → Prop} {p : Nat} {c : Int32} {c1 : Int32} (X_ : G1 u u1 D P R p c c1) : c1 = 0 → c = 0 ∧ mA u1 92 p = mA u 92 p ∧ mA u1 93 p = mA u 93 p := X_.2.2.2.2.2.2.1
theorem G1.cy {u : MS} {u1 : MS} {D : Mdl} {P : Nat → Prop} {R : Nat → Prop} {p : Nat} {c : Int32} {c1 : Int32} (X_ : G1 u u1 D P R p c c1) : c1 = 1 → c = 1 ∨ (mA u 92 p = 0 ∧ mA u1 92 p = 1) ∨ (mA u 93 p = 0 ∧ mA u1 93 p = 1) := X_.2.2.2.2.2.2.2
theorem G1.mk {u : MS} {u1 : MS} {D : Mdl} {P : Nat → Prop} {R : Nat → Prop} {p : Nat} {c : Int32} {c1 : Int32} (ag_ : MAg g92 u u1) (o2_ : ∀ q, q ≠ p → mA u1 92 q = mA u 92 q) (o3_ : ∀ q, q ≠ p → mA u1 93 q = mA u 93 q) (n2_ : b01 (mA u1 92 p) ∧ (mA u1 92 p = 1 ↔ mA u 92 p = 1 ∨ (D.li p ∧ prv D P R p))) (n3_ : b01 (mA u1 93 p) ∧ (mA u1 93 p = 1 ↔ mA u 93 p = 1 ∨ (D.li p ∧ ref D P R p))) (cb_ : b01 c1) (cn_ : c1 = 0 → c = 0 ∧ mA u1 92 p = mA u 92 p ∧ mA u1 93 p = mA u 93 p) (cy_ : c1 = 1 → c = 1 ∨ (mA u 92 p = 0 ∧ mA u1 92 p = 1) ∨ (mA u 93 p = 0 ∧ mA u1 93 p = 1)) : G1 u u1 D P R p c c1 := ⟨ag_, o2_, o3_, n2_, n3_, cb_, cn_, cy_⟩
theorem grow48 {k4 : MS → Int32 → Int32 → Option (MS × Int32)} {u : MS} {D : Mdl} {P R : Nat → Prop} {p : Nat} {c : Int32} (Q : RQ u D P R) (hp : p < 600) (b3 : b01 (mA u 93 p)) (bc : b01 c) (hl : D.li p) : ∃ u1 c1, fX12_grows_48 k4 u c (nI p) = k4 u1 c1 (nI (p + 1)) ∧ MAg (fun k => k ≠ 93) u u1 ∧ (∀ q, q ≠ p → mA u1 93 q = mA u 93 q) ∧ b01 (mA u1 93 p) ∧ (mA u1 93 p = 1 ↔ mA u 93 p = 1 ∨ (D.li p ∧ ref D P R p)) ∧ b01 c1 ∧ (c1 = 0 → c = 0 ∧ mA u1 93 p = mA u 93 p) ∧ (c1 = 1 → c = 1 ∨ (mA u 93 p = 0 ∧ mA u1 93 p = 1)) := by
  have cp : Int32.toNatClampNeg (nI p) = p := nI_clamp (by omega)
  have x93 : ix (nI p) (mlen 93) = true := ix_n (show p < mlen 93 from hp) (by decide)
  have e1 : nI p + 1 = nI (p + 1) := nI_add p 1
  rw [fX12_grows_48, oC_t x93, cp]
  by_cases d : mA u 93 p = 0
  · obtain ⟨x, w1, w2⟩ := isRefutedM Q hp
    rw [if_pos d, w1, oB_v]
    rcases w2.cases with ⟨_, g2, g3⟩ | ⟨g1, g2⟩
    · rw [if_neg g2, oC_t x93, oL_v, fX12_grows_74, oL_v, e1]
      have ev : mA (mSA u 93 p 1) 93 p = 1 := by simp only [z_mI_mSI, z_mL_mSI, z_mA_mSI, z_mB_mSI, z_mI_mSL, z_mL_mSL, z_mA_mSL, z_mB_mSL, z_mI_mSA, z_mL_mSA, z_mA_mSA, z_mB_mSA, z_mI_mSB, z_mL_mSB, z_mA_mSB, z_mB_mSB, if_true, if_false, and_false, false_and, and_true, true_and, and_self, decide_true, decide_false, reduceCtorEq, not_false_eq_true, not_true_eq_false, Nat.reduceEqDiff, Nat.reduceAdd, Nat.reduceMul, Nat.add_zero, Nat.zero_add]
      refine ⟨_, 1, rfl, (MAg.refl u).sA (fun q => q rfl), fun q hq => (by simp only [z_mI_mSI, z_mL_mSI, z_mA_mSI, z_mB_mSI, z_mI_mSL, z_mL_mSL, z_mA_mSL, z_mB_mSL, z_mI_mSA, z_mL_mSA, z_mA_mSA, z_mB_mSA, z_mI_mSB, z_mL_mSB, z_mA_mSB, z_mB_mSB, if_true, if_false, and_false, false_and, and_true, true_and, and_self, decide_true, decide_false, reduceCtorEq, not_false_eq_true, not_true_eq_false, Nat.reduceEqDiff, Nat.reduceAdd, Nat.reduceMul, Nat.add_zero, Nat.zero_add]; rw [if_neg hq]), .inr ev, ⟨fun _ => .inr ⟨hl, g3⟩, fun _ => ev⟩, .inr rfl, fun h => absurd h (by decide), fun _ => .inr ⟨d, ev⟩⟩
    · rw [if_pos g1, fX12_grows_74, oL_v, e1]
      refine ⟨u, c, rfl, MAg.refl u, fun _ _ => rfl, b3, ⟨fun h => .inl h, fun h => ?_⟩, bc, fun h => ⟨h, rfl⟩, fun h => .inl h⟩
      rcases h with h | h
      · exact h
      · exact absurd h.2 g2
  · rw [if_neg d, fX12_grows_74, oL_v, e1]
    exact ⟨u, c, rfl, MAg.refl u, fun _ _ => rfl, b3, ⟨fun h => .inl h, fun _ => b3.ne d⟩, bc, fun h => ⟨h, rfl⟩, fun h => .inl h⟩
theorem grow1 {k4 : MS → Int32 → Int32 → Option (MS × Int32)} {u : MS} {D : Mdl} {P R : Nat → Prop} {nw np p : Nat} {c : Int32} (Q : RQ u D P R) (L : GL u D nw np) (hp : p < 600) (b2 : b01 (mA u 92 p)) (b3 : b01 (mA u 93 p)) (bc : b01 c) : ∃ u1 c1, fX12_grows_4F k4 u c (nI p) = k4 u1 c1 (nI (p + 1)) ∧ G1 u u1 D P R p c c1 := by
  have cp : Int32.toNatClampNeg (nI p) = p := nI_clamp (by omega)
  have x92 : ix (nI p) (mlen 92) = true := ix_n (show p < mlen 92 from hp) (by decide)
  have e1 : nI p + 1 = nI (p + 1) := nI_add p 1
  obtain ⟨x, a1, a2⟩ := isLiteralM L.m18 L.m19 L.h5 L.hw L.pl hp
  rw [fX12_grows_4F, if_neg (show ¬ 600 ≤ nI p from nI_ge (b := 600) hp (by decide)), a1, oB_v]
  rcases a2.cases with ⟨_, g2, g3⟩ | ⟨g1, g2⟩
  · have hl : D.li p := (L.li p hp).mpr g3
    rw [if_neg g2, oC_t x92, cp]
    by_cases d : mA u 92 p = 0
    · obtain ⟨y, w1, w2⟩ := isProvedM Q hp
      rw [if_pos d, w1, oB_v]
      rcases w2.cases with ⟨_, f2, f3⟩ | ⟨f1, f2⟩
      · rw [if_neg f2, oC_t x92, oL_v]
        have g : MAg g92 u (mSA u 92 p 1) := (MAg.refl u).sA (fun q => q.1 rfl)
        have ev : mA (mSA u 92 p 1) 92 p = 1 := by simp only [z_mI_mSI, z_mL_mSI, z_mA_mSI, z_mB_mSI, z_mI_mSL, z_mL_mSL, z_mA_mSL, z_mB_mSL, z_mI_mSA, z_mL_mSA, z_mA_mSA, z_mB_mSA, z_mI_mSB, z_mL_mSB, z_mA_mSB, z_mB_mSB, if_true, if_false, and_false, false_and, and_true, true_and, and_self, decide_true, decide_false, reduceCtorEq, not_false_eq_true, not_true_eq_false, Nat.reduceEqDiff, Nat.reduceAdd, Nat.reduceMul, Nat.add_zero, Nat.zero_add]
        have e93 : ∀ q, mA (mSA u 92 p 1) 93 q = mA u 93 q := fun q => by simp only [z_mI_mSI, z_mL_mSI, z_mA_mSI, z_mB_mSI, z_mI_mSL, z_mL_mSL, z_mA_mSL, z_mB_mSL, z_mI_mSA, z_mL_mSA, z_mA_mSA, z_mB_mSA, z_mI_mSB, z_mL_mSB, z_mA_mSB, z_mB_mSB, show ¬ (93 = 92) by decide, if_true, if_false, and_false, false_and, and_true, true_and, and_self, decide_true, decide_false, reduceCtorEq, not_false_eq_true, not_true_eq_false, Nat.reduceEqDiff, Nat.reduceAdd, Nat.reduceMul, Nat.add_zero, Nat.zero_add]
        obtain ⟨u1, c1, q1, q2, q3, q4, q5, q6, q7, q8⟩ := grow48 (k4 := k4) (c := 1) (Q.fr g) hp (by rw [e93]; exact b3) (.inr rfl) hl
        have k92 : ∀ q, mA u1 92 q = mA (mSA u 92 p 1) 92 q := (q2 92 (by decide)).2.2.1
        refine ⟨u1, c1, q1, G1.mk ?_ ?_ ?_ ?_ ?_ q6 ?_ ?_⟩
        · exact g.trans (q2.mono fun k hk => hk.2)
        · intro q hq; rw [k92]; simp only [z_mI_mSI, z_mL_mSI, z_mA_mSI, z_mB_mSI, z_mI_mSL, z_mL_mSL, z_mA_mSL, z_mB_mSL, z_mI_mSA, z_mL_mSA, z_mA_mSA, z_mB_mSA, z_mI_mSB, z_mL_mSB, z_mA_mSB, z_mB_mSB, if_true, if_false, and_false, false_and, and_true, true_and, and_self, decide_true, decide_false, reduceCtorEq, not_false_eq_true, not_true_eq_false, Nat.reduceEqDiff, Nat.reduceAdd, Nat.reduceMul, Nat.add_zero, Nat.zero_add]; rw [if_neg hq]
        · intro q hq; rw [q3 q hq, e93]
        · rw [k92, ev]; exact ⟨.inr rfl, ⟨fun _ => .inr ⟨hl, f3⟩, fun _ => rfl⟩⟩
        · rw [e93] at q5; exact ⟨q4, q5⟩
        · intro h; exact absurd (q7 h).1 (by decide)
        · intro _; exact .inr (.inl ⟨d, by rw [k92, ev]⟩)
      · rw [if_pos f1]
        obtain ⟨u1, c1, q1, q2, q3, q4, q5, q6, q7, q8⟩ := grow48 (k4 := k4) Q hp b3 bc hl
        have k92 : ∀ q, mA u1 92 q = mA u 92 q := (q2 92 (by decide)).2.2.1
        refine ⟨u1, c1, q1, G1.mk (q2.mono fun k hk => hk.2) (fun q _ => k92 q) q3 ?_ ⟨q4, q5⟩ q6 (fun h => ⟨(q7 h).1, k92 p, (q7 h).2⟩) ?_⟩
        · rw [k92]
          refine ⟨b2, ⟨fun h => .inl h, fun h => ?_⟩⟩
          rcases h with h | h
          · exact h
          · exact absurd h.2 f2
        · intro h
          rcases q8 h with h | h
          · exact .inl h
          · exact .inr (.inr h)
    · rw [if_neg d]
      obtain ⟨u1, c1, q1, q2, q3, q4, q5, q6, q7, q8⟩ := grow48 (k4 := k4) Q hp b3 bc hl
      have k92 : ∀ q, mA u1 92 q = mA u 92 q := (q2 92 (by decide)).2.2.1
      refine ⟨u1, c1, q1, G1.mk (q2.mono fun k hk => hk.2) (fun q _ => k92 q) q3 ?_ ⟨q4, q5⟩ q6 (fun h => ⟨(q7 h).1, k92 p, (q7 h).2⟩) ?_⟩
      · rw [k92]; exact ⟨b2, ⟨fun h => .inl h, fun _ => b2.ne d⟩⟩
      · intro h
        rcases q8 h with h | h
        · exact .inl h
        · exact .inr (.inr h)
  · have hl : ¬ D.li p := fun h => g2 ((L.li p hp).mp h)
    rw [if_pos g1, fX12_grows_74, oL_v, e1]
    refine ⟨u, c, rfl, G1.mk (MAg.refl u) (fun _ _ => rfl) (fun _ _ => rfl) ⟨b2, ⟨fun h => .inl h, fun h => ?_⟩⟩ ⟨b3, ⟨fun h => .inl h, fun h => ?_⟩⟩ bc (fun h => ⟨h, rfl, rfl⟩) (fun h => .inl h)⟩
    · rcases h with h | h
      · exact h
      · exact absurd h.1 hl
    · rcases h with h | h
      · exact h
      · exact absurd h.1 hl
theorem G1.join {u u1 u2 : MS} {D : Mdl} {P R : Nat → Prop} {p : Nat} {c c1 c2 : Int32} (a : G1 u u1 D P R p c c1) (b : GRn u1 u2 D P R (p + 1) c1 c2) (b2 : ∀ q, q < 600 → b01 (mA u 92 q) ∧ b01 (mA u 93 q)) (hp : p < 600) : GRn u u2 D P R p c c2 := by
  apply GRn.mk
  · exact a.ag.trans b.ag
  · intro q hq
    refine ⟨(b.n2 q hq).1, (b.n2 q hq).2.trans ?_⟩
    by_cases e : q = p
    · rw [e]
      refine (or_congr a.n2.2 Iff.rfl).trans ⟨fun h => ?_, fun h => ?_⟩
      · rcases h with (h | h) | h
        · exact .inl h
        · exact .inr ⟨Nat.le_refl _, h⟩
        · exact absurd h.1 (by omega)
      · rcases h with h | h
        · exact .inl (.inl h)
        · exact .inl (.inr h.2)
    · rw [a.o2 q e]
      refine or_congr Iff.rfl ⟨fun h => ⟨by omega, h.2⟩, fun h => ⟨by omega, h.2⟩⟩
  · intro q hq
    refine ⟨(b.n3 q hq).1, (b.n3 q hq).2.trans ?_⟩
    by_cases e : q = p
    · rw [e]
      refine (or_congr a.n3.2 Iff.rfl).trans ⟨fun h => ?_, fun h => ?_⟩
      · rcases h with (h | h) | h
        · exact .inl h
        · exact .inr ⟨Nat.le_refl _, h⟩
        · exact absurd h.1 (by omega)
      · rcases h with h | h
        · exact .inl (.inl h)
        · exact .inl (.inr h.2)
    · rw [a.o3 q e]
      refine or_congr Iff.rfl ⟨fun h => ⟨by omega, h.2⟩, fun h => ⟨by omega, h.2⟩⟩
  · exact b.cb
  · intro h
    obtain ⟨h1, h2⟩ := b.cn h
    obtain ⟨h3, h4, h5⟩ := a.cn h1
    refine ⟨h3, fun q hq => ?_⟩
    by_cases e : q = p
    · subst e
      exact ⟨(h2 q hq).1.trans h4, (h2 q hq).2.trans h5⟩
    · exact ⟨(h2 q hq).1.trans (a.o2 q e), (h2 q hq).2.trans (a.o3 q e)⟩
  · intro h
    rcases b.cy h with h1 | ⟨q, hq, h1⟩
    · rcases a.cy h1 with h2 | h2 | h2
      · exact .inl h2
      · exact .inr ⟨p, hp, .inl ⟨h2.1, (b.n2 p hp).2.mpr (.inl h2.2)⟩⟩
      · exact .inr ⟨p, hp, .inr ⟨h2.1, (b.n3 p hp).2.mpr (.inl h2.2)⟩⟩
    · refine .inr ⟨q, hq, ?_⟩
      rcases h1 with ⟨h1, h2⟩ | ⟨h1, h2⟩
      · refine .inl ⟨?_, h2⟩
        by_cases e : q = p
        · subst e
          refine (b2 q hq).1.n1 fun z => ?_
          have := a.n2.2.mpr (.inl z)
          rw [h1] at this
          exact absurd this (by decide)
        · rw [a.o2 q e] at h1; exact h1
      · refine .inr ⟨?_, h2⟩
        by_cases e : q = p
        · subst e
          refine (b2 q hq).2.n1 fun z => ?_
          have := a.n3.2.mpr (.inl z)
          rw [h1] at this
          exact absurd this (by decide)
        · rw [a.o3 q e] at h1; exact h1
theorem growsL {D : Mdl} {P R : Nat → Prop} {nw np : Nat} : ∀ (m p f : Nat) (u : MS) (c : Int32), p + m = 600 → RQ u D P R → GL u D nw np → (∀ q, q < 600 → b01 (mA u 92 q) ∧ b01 (mA u 93 q)) → b01 c → ∃ u' c', fX12_grows_4 (f + (m + 1)) u c (nI p) = some (u', c') ∧ GRn u u' D P R p c c'
  | 0, p, f, u, c, e, Q, L, b, bc => by
    have ep : p = 600 := e
    subst ep
    have ul : fX12_grows_4 (f + (0 + 1)) u c (nI 600) = fX12_grows_4F (fX12_grows_4 f) u c (nI 600) := rfl
    have ib : isB c = true := by
      rcases bc with h | h <;> rw [h] <;> rfl
    refine ⟨u, c, ?_, GRn.mk (MAg.refl u) (fun q hq => ⟨(b q hq).1, ⟨fun h => .inl h, fun h => ?_⟩⟩) (fun q hq => ⟨(b q hq).2, ⟨fun h => .inl h, fun h => ?_⟩⟩) bc (fun h => ⟨h, fun _ _ => ⟨rfl, rfl⟩⟩) (fun h => .inl h)⟩
    · rw [ul, fX12_grows_4F, if_pos (show (600 : Int32) ≤ nI 600 from Int32.le_refl _), oC_t ib]
    · rcases h with h | h
      · exact h
      · exact absurd h.1 (by omega)
    · rcases h with h | h
      · exact h
      · exact absurd h.1 (by omega)
  | m + 1, p, f, u, c, e, Q, L, b, bc => by
    have hp : p < 600 := by omega
    have ul : fX12_grows_4 (f + (m + 1 + 1)) u c (nI p) = fX12_grows_4F (fX12_grows_4 (f + (m + 1))) u c (nI p) := rfl
    obtain ⟨u1, c1, a1, a2⟩ := grow1 (k4 := fX12_grows_4 (f + (m + 1))) Q L hp (b p hp).1 (b p hp).2 bc
    have L1 : GL u1 D nw np := L.fr (a2.ag 18 (by unfold g92; omega)).1 (a2.ag 19 (by unfold g92; omega)).1 (a2.ag 28 (by unfold g92; omega)).2.2.1
    obtain ⟨u2, c2, d1, d2⟩ := growsL m (p + 1) f u1 c1 (by omega) (Q.fr a2.ag) L1 (fun q hq => by
      by_cases e : q = p
      · rw [e]; exact ⟨a2.n2.1, a2.n3.1⟩
      · rw [a2.o2 q e, a2.o3 q e]; exact b q hq) a2.cb
    exact ⟨u2, c2, by rw [ul, a1]; exact d1, a2.join d2 b hp⟩
theorem growsM {u : MS} {D : Mdl} {P R : Nat → Prop} {nw np : Nat} (Q : RQ u D P R) (L : GL u D nw np) (b : ∀ q, q < 600 → b01 (mA u 92 q) ∧ b01 (mA u 93 q)) : ∃ u' c', fX12_grows u = some (u', c') ∧ GRn u u' D P R 0 0 c' := by
  obtain ⟨f, hf⟩ : ∃ f, FU = f + (600 + 1) := ⟨99399, rfl⟩
  rw [fX12_grows, fX12_grows_0, hf]
  exact growsL 600 0 f u 0 rfl Q L b (.inl rfl)
