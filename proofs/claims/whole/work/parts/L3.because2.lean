theorem L_fix {D : Mdl} {p : Nat} : (LfP D p → prv D (LfP D) (LfR D) p) ∧ (LfR D p → ref D (LfP D) (LfR D) p) := by
  have k : Pre D (fun q => LfP D q ∧ prv D (LfP D) (LfR D) q) (fun q => LfR D q ∧ ref D (LfP D) (LfR D) q) := by
    constructor
    · intro q hl a
      have a' : prv D (LfP D) (LfR D) q := a.mono (fun _ h => h.1) (fun _ h => h.1)
      exact ⟨(L_pre D).1 q hl a', a'⟩
    · intro q hl a
      have a' : ref D (LfP D) (LfR D) q := a.mono (fun _ h => h.1) (fun _ h => h.1)
      exact ⟨(L_pre D).2 q hl a', a'⟩
  exact ⟨fun h => (h _ _ k).2, fun h => (h _ _ k).2⟩
/-- the mark and the reason of p -/
def RsM (D : Mdl) (p : Nat) (m x : Int32) : Prop :=
  (LfP D p ∧ m = 1 ∧ ((D.fa p ∧ x = -2) ∨ (¬ D.fa p ∧ ∃ y, byF D p = some y ∧ x = nI y)))
  ∨ (LfR D p ∧ m = 0 ∧ ((D.fa (p ^^^ 1) ∧ x = -2) ∨ (¬ D.fa (p ^^^ 1) ∧ x = oi (agF D p))))
  ∨ (¬ LfP D p ∧ ¬ LfR D p ∧ m = 2 ∧ x = -1)
theorem RsM.uniq {D : Mdl} {p : Nat} {m x m' x' : Int32} (ex : Exc (LfP D) (LfR D)) (a : RsM D p m x) (b : RsM D p m' x') : m' = m ∧ x' = x := by
  rcases a with ⟨a1, a2, a3⟩ | ⟨a1, a2, a3⟩ | ⟨a1, a2, a3, a4⟩ <;> rcases b with ⟨b1, b2, b3⟩ | ⟨b1, b2, b3⟩ | ⟨b1, b2, b3, b4⟩
  · refine ⟨b2.trans a2.symm, ?_⟩
    rcases a3 with ⟨c1, c2⟩ | ⟨c1, y, c2, c3⟩ <;> rcases b3 with ⟨d1, d2⟩ | ⟨d1, w, d2, d3⟩
    · exact d2.trans c2.symm
    · exact absurd c1 d1
    · exact absurd d1 c1
    · have : w = y := Option.some.inj (d2.symm.trans c2)
      rw [d3, c3, this]
  · exact absurd b1 fun h => ex p a1 h
  · exact absurd a1 b1
  · exact absurd a1 fun h => ex p b1 h
  · refine ⟨b2.trans a2.symm, ?_⟩
    rcases a3 with ⟨c1, c2⟩ | ⟨c1, c2⟩ <;> rcases b3 with ⟨d1, d2⟩ | ⟨d1, d2⟩
    · exact d2.trans c2.symm
    · exact absurd c1 d1
    · exact absurd d1 c1
    · exact d2.trans c2.symm
  · exact absurd a1 b2
  · exact absurd b1 a1
  · exact absurd b1 a2
  · exact ⟨b3.trans a3.symm, b4.trans a4.symm⟩
theorem by_ex {D : Mdl} {p : Nat} (h : LfP D p) (n : ¬ D.fa p) : ∃ y, byF D p = some y ∧ y ∈ D.ins := by
  rcases (L_fix (D := D) (p := p)).1 h with a | ⟨_, ⟨y, b1, b2, b3, b4⟩, _⟩
  · exact absurd a n
  · cases e : byF D p with
    | none =>
      have := List.find?_eq_none.mp e y (mem_chn.mpr ⟨b1, b2⟩)
      exact absurd (cd_y (P := fun y => D.k0 y ∧ apl D (LfP D) y) ⟨b3, b4⟩) this
    | some w => exact ⟨w, rfl, (mem_chn.mp (List.mem_of_find?_eq_some e)).1⟩
theorem ag_mem {D : Mdl} {p y : Nat} (h : agF D p = some y) : y ∈ D.ins := (mem_chn.mp (List.mem_of_find?_eq_some h)).1
theorem BCc.trans {u u1 u2 : MS} {p : Nat} {k k' i i' : Int32} {v v' : Nat → Int32} (a : BCc u u1 p k i v) (b : BCc u1 u2 p k' i' v') : BCc u u2 p k' i' v' := by
  apply BCc.mk
  · exact a.ag.trans b.ag
  · intro q hq
    obtain ⟨a1, a2, a3⟩ := a.o5 q hq
    obtain ⟨b1, b2, b3⟩ := b.o5 q hq
    exact ⟨b1.trans a1, b2.trans a2, fun w hw => (b3 w hw).trans (a3 w hw)⟩
  · exact b.n5
  · exact b.n6
  · exact b.n7
theorem BCc.set5 {u : MS} {p : Nat} {x i : Int32} {v : Nat → Int32} (h6 : mA u 106 p = i) (h7 : ∀ w, w < 3 → mA u 107 (3 * p + w) = v w) : BCc u (mSA u 105 p x) p x i v := by
  apply BCc.mk
  · exact (MAg.refl u).sA (fun q => q.2.1 rfl)
  · intro q hq
    simp only [z_mI_mSI, z_mL_mSI, z_mA_mSI, z_mB_mSI, z_mI_mSL, z_mL_mSL, z_mA_mSL, z_mB_mSL, z_mI_mSA, z_mL_mSA, z_mA_mSA, z_mB_mSA, z_mI_mSB, z_mL_mSB, z_mA_mSB, z_mB_mSB, if_true, if_false, and_false, false_and, and_true, true_and, and_self, decide_true, decide_false, reduceCtorEq, not_false_eq_true, not_true_eq_false, Nat.reduceEqDiff, Nat.reduceAdd, Nat.reduceMul, Nat.add_zero, Nat.zero_add]
    rw [if_neg hq]; exact ⟨rfl, fun _ _ => trivial⟩
  · simp only [z_mI_mSI, z_mL_mSI, z_mA_mSI, z_mB_mSI, z_mI_mSL, z_mL_mSL, z_mA_mSL, z_mB_mSL, z_mI_mSA, z_mL_mSA, z_mA_mSA, z_mB_mSA, z_mI_mSB, z_mL_mSB, z_mA_mSB, z_mB_mSB, if_true, if_false, and_false, false_and, and_true, true_and, and_self, decide_true, decide_false, reduceCtorEq, not_false_eq_true, not_true_eq_false, Nat.reduceEqDiff, Nat.reduceAdd, Nat.reduceMul, Nat.add_zero, Nat.zero_add]
  · simp only [z_mI_mSI, z_mL_mSI, z_mA_mSI, z_mB_mSI, z_mI_mSL, z_mL_mSL, z_mA_mSL, z_mB_mSL, z_mI_mSA, z_mL_mSA, z_mA_mSA, z_mB_mSA, z_mI_mSB, z_mL_mSB, z_mA_mSB, z_mB_mSB, if_true, if_false, and_false, false_and, and_true, true_and, and_self, decide_true, decide_false, reduceCtorEq, not_false_eq_true, not_true_eq_false, Nat.reduceEqDiff, Nat.reduceAdd, Nat.reduceMul, Nat.add_zero, Nat.zero_add]; exact h6
  · intro w hw
    simp only [z_mI_mSI, z_mL_mSI, z_mA_mSI, z_mB_mSI, z_mI_mSL, z_mL_mSL, z_mA_mSL, z_mB_mSL, z_mI_mSA, z_mL_mSA, z_mA_mSA, z_mB_mSA, z_mI_mSB, z_mL_mSB, z_mA_mSB, z_mB_mSB, if_true, if_false, and_false, false_and, and_true, true_and, and_self, decide_true, decide_false, reduceCtorEq, not_false_eq_true, not_true_eq_false, Nat.reduceEqDiff, Nat.reduceAdd, Nat.reduceMul, Nat.add_zero, Nat.zero_add]; exact h7 w hw
theorem BCc.again {u u1 : MS} {p : Nat} {k i x : Int32} {v : Nat → Int32} (a : BCc u u1 p k i v) : BCc u (mSA u1 105 p x) p x i v := a.trans (BCc.set5 a.n6 a.n7)
theorem bc194 {h0 : PH} {u0 u : MS} {G : Gh} {z : Sz} {nu : Nat → Int32} {p r b : Nat} (K : KR h0 u0 G z) (zo : z.ok) (B : SBn u0 u z nu) (hp : p < 600) (hr : r < z.nr) (hb : b < z.np ^ vN u0 r) : ∃ u', fX12_because_194 u (nI p) (nI (125 * r + b)) = some u' ∧ BCc u u' p 1 (nI r) (fun w => if w < vN u0 r then nI (bt z.np (vN u0 r) b w) else -1) := by
  have nr := zo.2.2.2.2.1
  obtain ⟨m42, v3, m41, c6⟩ := ruV K hr
  have h125 := pow_le zo.1 v3
  have hx : 125 * r + b < 3750 := by omega
  have id := inst_n (r := r) (b := b) (by omega)
  have e1 : nI (125 * r + b) / 125 = nI r := by rw [nI_d125 hx, id.1]
  have e2 : nI (125 * r + b) - nI r * 125 = nI b := by
    rw [← e1, show (125 : Int32) = nI 125 from rfl, nI_mod (show 125 * r + b < 2147483648 by omega) (by decide), id.2]
  have cp : Int32.toNatClampNeg (nI p) = p := nI_clamp (by omega)
  have g1 : MAg (fun k => k ≠ 95 ∧ k ≠ 105 ∧ k ≠ 106 ∧ k ≠ 107) u (mSA (mSA u 105 p 1) 106 p (nI r)) := ((MAg.refl u).sA (fun q => q.2.1 rfl)).sA (fun q => q.2.2.1 rfl)
  have B1 : SBn u0 (mSA (mSA u 105 p 1) 106 p (nI r)) z nu := B.fr g1 (fun q hq => by omega)
  have m42u : mA (mSA (mSA u 105 p 1) 106 p (nI r)) 42 r = nI (vN u0 r) := by rw [(B1.g 42 (by unfold kS; omega)).2.2.1]; exact m42
  obtain ⟨u2, q1, q2, q3⟩ := givesM B1.m18 m42u (by omega) (pow_pos' hb) zo.1 v3 (show b < 1000 by omega)
  obtain ⟨u3, w1, w2, w3, w4⟩ := bc231 (u := u2) hp
  rw [fX12_because_194, if_neg (nI_m1 (by omega)), oC_t (ix_n (show p < mlen 105 from hp) (by decide)), cp, oL_v, oC_t (ix_n (show p < mlen 106 from hp) (by decide)), e1, oL_v, e2, q1, oB_v]
  have k5 : ∀ q, mA u3 105 q = mA (mSA (mSA u 105 p 1) 106 p (nI r)) 105 q := fun q => ((w2 105 (by decide)).2.2.1 q).trans ((q2 105 (by decide)).2.2.1 q)
  have k6 : ∀ q, mA u3 106 q = mA (mSA (mSA u 105 p 1) 106 p (nI r)) 106 q := fun q => ((w2 106 (by decide)).2.2.1 q).trans ((q2 106 (by decide)).2.2.1 q)
  refine ⟨u3, w1, BCc.mk ?_ ?_ ?_ ?_ ?_⟩
  · exact (g1.trans (q2.mono fun k hk => hk.1)).trans (w2.mono fun k hk => hk.2.2.2)
  · intro q hq
    rw [k5, k6]
    simp only [z_mI_mSI, z_mL_mSI, z_mA_mSI, z_mB_mSI, z_mI_mSL, z_mL_mSL, z_mA_mSL, z_mB_mSL, z_mI_mSA, z_mL_mSA, z_mA_mSA, z_mB_mSA, z_mI_mSB, z_mL_mSB, z_mA_mSB, z_mB_mSB, if_true, if_false, and_false, false_and, and_true, true_and, and_self, decide_true, decide_false, reduceCtorEq, not_false_eq_true, not_true_eq_false, Nat.reduceEqDiff, Nat.reduceAdd, Nat.reduceMul, Nat.add_zero, Nat.zero_add]
    refine ⟨by rw [if_neg hq], by rw [if_neg hq], fun w hw => ?_⟩
    rw [w4 _ (fun w' hw' => by omega), (q2 107 (by decide)).2.2.1]
    simp only [z_mI_mSI, z_mL_mSI, z_mA_mSI, z_mB_mSI, z_mI_mSL, z_mL_mSL, z_mA_mSL, z_mB_mSL, z_mI_mSA, z_mL_mSA, z_mA_mSA, z_mB_mSA, z_mI_mSB, z_mL_mSB, z_mA_mSB, z_mB_mSB, if_true, if_false, and_false, false_and, and_true, true_and, and_self, decide_true, decide_false, reduceCtorEq, not_false_eq_true, not_true_eq_false, Nat.reduceEqDiff, Nat.reduceAdd, Nat.reduceMul, Nat.add_zero, Nat.zero_add]
  · rw [k5]; simp only [z_mI_mSI, z_mL_mSI, z_mA_mSI, z_mB_mSI, z_mI_mSL, z_mL_mSL, z_mA_mSL, z_mB_mSL, z_mI_mSA, z_mL_mSA, z_mA_mSA, z_mB_mSA, z_mI_mSB, z_mL_mSB, z_mA_mSB, z_mB_mSB, if_true, if_false, and_false, false_and, and_true, true_and, and_self, decide_true, decide_false, reduceCtorEq, not_false_eq_true, not_true_eq_false, Nat.reduceEqDiff, Nat.reduceAdd, Nat.reduceMul, Nat.add_zero, Nat.zero_add]
  · rw [k6]; simp only [z_mI_mSI, z_mL_mSI, z_mA_mSI, z_mB_mSI, z_mI_mSL, z_mL_mSL, z_mA_mSL, z_mB_mSL, z_mI_mSA, z_mL_mSA, z_mA_mSA, z_mB_mSA, z_mI_mSB, z_mL_mSB, z_mA_mSB, z_mB_mSB, if_true, if_false, and_false, false_and, and_true, true_and, and_self, decide_true, decide_false, reduceCtorEq, not_false_eq_true, not_true_eq_false, Nat.reduceEqDiff, Nat.reduceAdd, Nat.reduceMul, Nat.add_zero, Nat.zero_add]
  · intro w hw
    rw [w3 w hw, q3 w hw]
theorem RE.ql {u0 u : MS} {z : Sz} {nu : Nat → Int32} {E1 E2 : Nat → List Tok} {d1 d2 : Int32} {fa : Nat → Prop} (E : RE u0 u z nu E1 E2 d1 d2 fa) : RQ u (mkD u0 z nu E1 E2 d1 d2 fa) (LfP (mkD u0 z nu E1 E2 d1 d2 fa)) (LfR (mkD u0 z nu E1 E2 d1 d2 fa)) := by
  have a : p92 u = LfP (mkD u0 z nu E1 E2 d1 d2 fa) := funext fun p => propext (E.lp p)
  have b : p93 u = LfR (mkD u0 z nu E1 E2 d1 d2 fa) := funext fun p => propext (E.lr p)
  have q := E.Q
  rw [a, b] at q
  exact q
theorem becauseM {h0 : PH} {u0 u : MS} {G : Gh} {z : Sz} {nu : Nat → Int32} {E1 E2 : Nat → List Tok} {d1 d2 m : Int32} {fa : Nat → Prop} {p : Nat} (K : KR h0 u0 G z) (zo : z.ok) (E : RE u0 u z nu E1 E2 d1 d2 fa) (hp : p < 600) (hm : (mA u 92 p = 1 ∧ m = 1) ∨ (mA u 92 p = 0 ∧ mA u 93 p = 1 ∧ m = 0) ∨ (mA u 92 p = 0 ∧ mA u 93 p = 0 ∧ m = 2)) : ∃ u' k i v x, fX12_because u (nI p) = some u' ∧ BCc u u' p k i v ∧ RsM (mkD u0 z nu E1 E2 d1 d2 fa) p m x ∧ RsR u' z.nr z.np m x p := by
  have hq := xor1_lt hp
  have cp : Int32.toNatClampNeg (nI p) = p := nI_clamp (by omega)
  have xp : ∀ s, mlen s = 600 → ix (nI p) (mlen s) = true := fun s hs => ix_n (by rw [hs]; exact hp) (by rw [hs]; decide)
  have xq : ∀ s, mlen s = 600 → ix (nI (p ^^^ 1)) (mlen s) = true := fun s hs => ix_n (by rw [hs]; exact hq) (by rw [hs]; decide)
  obtain ⟨u1, a1, a2, a3⟩ := bc9 (u := u) hp
  have ih : ∀ {u2 : MS} {k i : Int32} {v : Nat → Int32}, BCc u u2 p k i v → RE u0 u2 z nu E1 E2 d1 d2 fa := fun b => E.fr b.ag (fun q hq => by omega)
  have fin : ∀ (u2 : MS) (r b : Nat), BCc u u2 p 1 (nI r) (fun w => if w < vN u0 r then nI (bt z.np (vN u0 r) b w) else -1) → r < z.nr → b < z.np ^ vN u0 r → m ≠ 2 → RsR u2 z.nr z.np m (nI (125 * r + b)) p := by
    intro u2 r b B hr hb hm
    obtain ⟨m42, v3, m41, c6⟩ := ruV K hr
    have h125 := pow_le zo.1 v3
    have e42 : (mA u2 42 r).toNatClampNeg = vN u0 r := by
      rw [((ih B).I.B.g 42 (by unfold kS; omega)).2.2.1, m42, nI_clamp (by omega)]
    refine .inr (.inr ⟨r, b, hr, by omega, rfl, ?_, hm, B.n5, B.n6, fun w hw => ?_⟩)
    · rw [e42]; exact pow_pos' hb
    · rw [B.n7 w hw, e42]; rfl
  rw [a1, fX12_because_9F, if_pos (show (3 : Int32) ≤ nI 3 from Int32.le_refl _), oC_t (xp 105 rfl), cp, oL_v, oC_t (xp 92 rfl)]
  have B0 := a2.again (x := 3)
  have e92 : ∀ {u2 : MS} {k i : Int32} {v : Nat → Int32}, BCc u u2 p k i v → mA u2 92 p = mA u 92 p := fun b => (b.ag 92 (by decide)).2.2.1 p
  have e93 : ∀ {u2 : MS} {k i : Int32} {v : Nat → Int32}, BCc u u2 p k i v → mA u2 93 p = mA u 93 p := fun b => (b.ag 93 (by decide)).2.2.1 p
  rw [e92 B0]
  rcases hm with ⟨h2, hm⟩ | ⟨h2, h3, hm⟩ | ⟨h2, h3, hm⟩
  · have LP : LfP (mkD u0 z nu E1 E2 d1 d2 fa) p := (E.lp p).mp ⟨hp, h2⟩
    have B1 := B0.again (x := 0)
    rw [if_neg (by rw [h2]; decide), oC_t (xp 105 rfl), oL_v, oC_t (xp 91 rfl)]
    have E1' := ih B1
    rcases (E1'.ql.f1 p hp).cases with ⟨_, f2, f3⟩ | ⟨f1, f2⟩
    · rw [if_neg f2]
      exact ⟨_, 0, _, _, -2, rfl, B1, .inl ⟨LP, hm, .inl ⟨f3, rfl⟩⟩, .inl ⟨rfl, by rw [hm]; decide, B1.n5, B1.n6, B1.n7⟩⟩
    · obtain ⟨y, y1, y2⟩ := by_ex LP f2
      obtain ⟨r, b, hr, hb, ey⟩ := mem_insL.mp y2
      have ll : (chn (mkD u0 z nu E1 E2 d1 d2 fa) p).length ≤ 3750 := Nat.le_trans chn_len E1'.ql.ln
      obtain ⟨f', hf⟩ : ∃ f', FU = f' + ((chn (mkD u0 z nu E1 E2 d1 d2 fa) p).length + 2) := ⟨FU - ((chn (mkD u0 z nu E1 E2 d1 d2 fa) p).length + 2), by have : FU = 100000 := rfl; omega⟩
      have w := bc73 E1'.ql hp (chn (mkD u0 z nu E1 E2 d1 d2 fa) p) _ f' (fun b hb => mem_chn.mp hb) (E1'.ql.ch p hp)
      have w' : fX12_because_73 (f' + ((chn (mkD u0 z nu E1 E2 d1 d2 fa) p).length + 2)) (mSA (mSA u1 105 p 3) 105 p 0) (nI p) (-1) (mA (mSA (mSA u1 105 p 3) 105 p 0) 87 p) = fX12_because_194 (mSA (mSA u1 105 p 3) 105 p 0) (nI p) (oi (byF (mkD u0 z nu E1 E2 d1 d2 fa) p)) := w
      rw [if_pos f1, oC_t (xp 87 rfl), oL_v, hf, w', y1]
      obtain ⟨u3, v1, v2⟩ := bc194 K zo E1'.I.B hp hr hb
      have B3 := B1.trans v2
      refine ⟨u3, 1, _, _, nI y, ?_, B3, .inl ⟨LP, hm, .inr ⟨f2, y, y1, rfl⟩⟩, ?_⟩
      · show fX12_because_194 _ (nI p) (nI y) = some u3
        rw [ey]; exact v1
      · rw [ey]; exact fin u3 r b B3 hr hb (by rw [hm]; decide)
  · have LR : LfR (mkD u0 z nu E1 E2 d1 d2 fa) p := (E.lr p).mp ⟨hp, h3⟩
    have B1 := B0.again (x := 0)
    rw [if_pos h2, oC_t (xp 93 rfl), e93 B0, if_neg (by rw [h3]; decide), oC_t (xp 105 rfl), oL_v, nI_xor1 hp, oC_t (xq 91 rfl), nI_clamp (show p ^^^ 1 < 2147483648 by omega)]
    have E1' := ih B1
    rcases (E1'.ql.f1 _ hq).cases with ⟨_, f2, f3⟩ | ⟨f1, f2⟩
    · rw [if_neg f2]
      exact ⟨_, 0, _, _, -2, rfl, B1, .inr (.inl ⟨LR, hm, .inl ⟨f3, rfl⟩⟩), .inl ⟨rfl, by rw [hm]; decide, B1.n5, B1.n6, B1.n7⟩⟩
    · have B2 := B1.again (x := 2)
      have E2' := ih B2
      have ll : (chn (mkD u0 z nu E1 E2 d1 d2 fa) (p ^^^ 1)).length ≤ 3750 := Nat.le_trans chn_len E2'.ql.ln
      obtain ⟨f', hf⟩ : ∃ f', FU = f' + ((chn (mkD u0 z nu E1 E2 d1 d2 fa) (p ^^^ 1)).length + 2) := ⟨FU - ((chn (mkD u0 z nu E1 E2 d1 d2 fa) (p ^^^ 1)).length + 2), by have : FU = 100000 := rfl; omega⟩
      have w := bc163 E2'.ql hp (chn (mkD u0 z nu E1 E2 d1 d2 fa) (p ^^^ 1)) _ f' (fun b hb => (mem_chn.mp hb).1) (E2'.ql.ch _ hq)
      have w' : fX12_because_163 (f' + ((chn (mkD u0 z nu E1 E2 d1 d2 fa) (p ^^^ 1)).length + 2)) (mSA (mSA (mSA u1 105 p 3) 105 p 0) 105 p 2) (nI p) (-1) (mA (mSA (mSA (mSA u1 105 p 3) 105 p 0) 105 p 2) 87 (p ^^^ 1)) = fX12_because_194 (mSA (mSA (mSA u1 105 p 3) 105 p 0) 105 p 2) (nI p) (oi (agF (mkD u0 z nu E1 E2 d1 d2 fa) p)) := w
      rw [if_pos f1, oC_t (xp 105 rfl), oL_v, oC_t (xq 87 rfl), oL_v, hf, w']
      cases eg : agF (mkD u0 z nu E1 E2 d1 d2 fa) p with
      | none =>
        refine ⟨_, 2, _, _, -1, ?_, B2, .inr (.inl ⟨LR, hm, .inr ⟨f2, by rw [eg]; rfl⟩⟩), .inr (.inl ⟨rfl, by rw [hm]; decide, ?_, B2.n6, B2.n7⟩)⟩
        · show fX12_because_194 _ (nI p) (-1) = _
          rw [fX12_because_194, if_pos rfl]
        · rw [B2.n5, hm, if_neg (by decide)]
      | some y =>
        obtain ⟨r, b, hr, hb, ey⟩ := mem_insL.mp (ag_mem eg)
        obtain ⟨u3, v1, v2⟩ := bc194 K zo E2'.I.B hp hr hb
        have B3 := B2.trans v2
        refine ⟨u3, 1, _, _, nI y, ?_, B3, .inr (.inl ⟨LR, hm, .inr ⟨f2, by rw [eg]; rfl⟩⟩), ?_⟩
        · show fX12_because_194 _ (nI p) (nI y) = some u3
          rw [ey]; exact v1
        · rw [ey]; exact fin u3 r b B3 hr hb (by rw [hm]; decide)
  · have n2 : ¬ LfP (mkD u0 z nu E1 E2 d1 d2 fa) p := fun h => by
      have := ((E.lp p).mpr h).2
      rw [h2] at this; exact absurd this (by decide)
    have n3 : ¬ LfR (mkD u0 z nu E1 E2 d1 d2 fa) p := fun h => by
      have := ((E.lr p).mpr h).2
      rw [h3] at this; exact absurd this (by decide)
    rw [if_pos h2, oC_t (xp 93 rfl), e93 B0, if_pos h3, fX12_because_194, if_pos rfl]
    exact ⟨_, 3, _, _, -1, rfl, B0, .inr (.inr ⟨n2, n3, hm, rfl⟩), .inr (.inl ⟨rfl, by rw [hm]; decide, by rw [B0.n5, hm, if_pos rfl], B0.n6, B0.n7⟩)⟩
