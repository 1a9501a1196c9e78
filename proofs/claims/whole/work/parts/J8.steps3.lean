/-- the reference's data in a judgment -/
def SBn (u0 : MS) (u : MS) (z : Sz) (nu : Nat → Int32) : Prop := (MAg kS u0 u) ∧ (∀ i, i < 20 → mA u 26 i = nu i ∧ (nu i).toInt.natAbs ≤ 999999) ∧ (mI u 18 = nI z.np) ∧ (mI u 19 = nI z.nw) ∧ (mI u 20 = nI z.ns) ∧ (mI u 22 = nI z.nr)
theorem SBn.g {u0 : MS} {u : MS} {z : Sz} {nu : Nat → Int32} (X_ : SBn u0 u z nu) : MAg kS u0 u := X_.1
theorem SBn.nm {u0 : MS} {u : MS} {z : Sz} {nu : Nat → Int32} (X_ : SBn u0 u z nu) : ∀ i, i < 20 → mA u 26 i = nu i ∧ (nu i).toInt.natAbs ≤ 999999 := X_.2.1
theorem SBn.m18 {u0 : MS} {u : MS} {z : Sz} {nu : Nat → Int32} (X_ : SBn u0 u z nu) : mI u 18 = nI z.np := X_.2.2.1
theorem SBn.m19 {u0 : MS} {u : MS} {z : Sz} {nu : Nat → Int32} (X_ : SBn u0 u z nu) : mI u 19 = nI z.nw := X_.2.2.2.1
theorem SBn.m20 {u0 : MS} {u : MS} {z : Sz} {nu : Nat → Int32} (X_ : SBn u0 u z nu) : mI u 20 = nI z.ns := X_.2.2.2.2.1
theorem SBn.m22 {u0 : MS} {u : MS} {z : Sz} {nu : Nat → Int32} (X_ : SBn u0 u z nu) : mI u 22 = nI z.nr := X_.2.2.2.2.2
theorem SBn.mk {u0 : MS} {u : MS} {z : Sz} {nu : Nat → Int32} (g_ : MAg kS u0 u) (nm_ : ∀ i, i < 20 → mA u 26 i = nu i ∧ (nu i).toInt.natAbs ≤ 999999) (m18_ : mI u 18 = nI z.np) (m19_ : mI u 19 = nI z.nw) (m20_ : mI u 20 = nI z.ns) (m22_ : mI u 22 = nI z.nr) : SBn u0 u z nu := ⟨g_, nm_, m18_, m19_, m20_, m22_⟩
theorem SBn.fr {u0 u u' : MS} {z : Sz} {nu : Nat → Int32} {P : Nat → Prop} (B : SBn u0 u z nu) (k : MAg P u u') (hP : ∀ q, q ≤ 78 → P q) : SBn u0 u' z nu := by
  apply SBn.mk
  · exact B.g.trans (k.mono fun q hq => hP q (by unfold kS at hq; omega))
  · intro i hi; rw [(k 26 (hP 26 (by decide))).2.2.1]; exact B.nm i hi
  · rw [(k 18 (hP 18 (by decide))).1]; exact B.m18
  · rw [(k 19 (hP 19 (by decide))).1]; exact B.m19
  · rw [(k 20 (hP 20 (by decide))).1]; exact B.m20
  · rw [(k 22 (hP 22 (by decide))).1]; exact B.m22
theorem pow_le {np v : Nat} (h5 : np ≤ 5) (hv : v ≤ 3) : np ^ v ≤ 125 := by
  have h1 : np ^ v ≤ 5 ^ v := Nat.pow_le_pow_left h5 v
  have h2 : 5 ^ v ≤ 5 ^ 3 := Nat.pow_le_pow_right (by decide) hv
  exact Nat.le_trans h1 h2
theorem pow_pos' {np v b : Nat} (h : b < np ^ v) : 0 < np ∨ v = 0 := by
  by_cases c : v = 0
  · exact .inr c
  · by_cases d : np = 0
    · rw [d, Nat.zero_pow (by omega)] at h; omega
    · exact .inl (by omega)
/-- an instance's number, of its rule and binding -/
theorem inst_n {r b : Nat} (hb : b < 125) : (125 * r + b) / 125 = r ∧ (125 * r + b) % 125 = b := by omega
theorem ruV {h0 : PH} {u0 : MS} {G : Gh} {z : Sz} {r : Nat} (K : KR h0 u0 G z) (hr : r < z.nr) : mA u0 42 r = nI (vN u0 r) ∧ vN u0 r ≤ 3 ∧ mA u0 41 r = nI (cN u0 r) ∧ cN u0 r ≤ 6 := by
  obtain ⟨l, kk, n, v, h1, h2, h3, h4, h5, h6, h7, h8, h9, ha, hb', hc', hd, he, hf⟩ := K.ru r hr
  have en : cN u0 r = n := by unfold cN; rw [hb', nI_clamp (by omega)]
  have ev : vN u0 r = v := by unfold vN; rw [hd, nI_clamp (by omega)]
  rw [en, ev]
  exact ⟨hd, h5, hb', h3⟩
theorem SBn.mc {u0 u u' : MS} {z : Sz} {nu : Nat → Int32} {v b : Nat} (B : SBn u0 u z nu) (zo : z.ok) (hv : v ≤ 3) (hp : 0 < z.np ∨ v = 0) (g : MAg (fun k => k ≠ 95) u u') (e : ∀ i, i < 3 → mA u' 95 i = if i < v then nI (bt z.np v b i) else -1) : MC u' (bt z.np v b) v z.np nu := by
  apply MC.mk
  · intro i hi
    rw [e i (by omega), if_pos hi]
    exact ⟨rfl, bt_lt (by omega)⟩
  · exact hv
  · exact zo.1
  · intro i hi; rw [(g 26 (by decide)).2.2.1]; exact B.nm i hi
def g895 (k : Nat) : Prop := k ≠ 89 ∧ k ≠ 90 ∧ k ≠ 95
/-- one instance -/
def SIn (u : MS) (u' : MS) (D : Mdl) (x : Nat) : Prop := (MAg g895 u u') ∧ (∀ q, q ≠ x → mA u' 89 q = mA u 89 q ∧ mA u' 90 q = mA u 90 q) ∧ (Tf (mA u' 89 x) (apl D (fun l => mA u 92 l = 1) x)) ∧ (Tf (mA u' 90 x) (blk D (fun l => mA u 93 l = 1) x))
theorem SIn.ag {u : MS} {u' : MS} {D : Mdl} {x : Nat} (X_ : SIn u u' D x) : MAg g895 u u' := X_.1
theorem SIn.ot {u : MS} {u' : MS} {D : Mdl} {x : Nat} (X_ : SIn u u' D x) : ∀ q, q ≠ x → mA u' 89 q = mA u 89 q ∧ mA u' 90 q = mA u 90 q := X_.2.1
theorem SIn.n9 {u : MS} {u' : MS} {D : Mdl} {x : Nat} (X_ : SIn u u' D x) : Tf (mA u' 89 x) (apl D (fun l => mA u 92 l = 1) x) := X_.2.2.1
theorem SIn.n0 {u : MS} {u' : MS} {D : Mdl} {x : Nat} (X_ : SIn u u' D x) : Tf (mA u' 90 x) (blk D (fun l => mA u 93 l = 1) x) := X_.2.2.2
theorem SIn.mk {u : MS} {u' : MS} {D : Mdl} {x : Nat} (ag_ : MAg g895 u u') (ot_ : ∀ q, q ≠ x → mA u' 89 q = mA u 89 q ∧ mA u' 90 q = mA u 90 q) (n9_ : Tf (mA u' 89 x) (apl D (fun l => mA u 92 l = 1) x)) (n0_ : Tf (mA u' 90 x) (blk D (fun l => mA u 93 l = 1) x)) : SIn u u' D x := ⟨ag_, ot_, n9_, n0_⟩
theorem stepI {h0 : PH} {u0 u : MS} {G : Gh} {z : Sz} {nu : Nat → Int32} {E1 E2 : Nat → List Tok} {d1 d2 : Int32} {fa : Nat → Prop} {r b f : Nat} {k2 : MS → Int32 → Option MS} (K : KR h0 u0 G z) (zo : z.ok) (hr : r < z.nr) (B : SBn u0 u z nu) (hb : b < z.np ^ vN u0 r) (b23 : ∀ q, q < 600 → b01 (mA u 92 q) ∧ b01 (mA u 93 q)) (ho : Tf (mA u 84 (125 * r + b)) (hox u0 nu E1 E2 d1 d2 z.np (125 * r + b))) : ∃ u', fX12_steps_12 k2 (f + 1) u (nI r) (nI b) = fX12_steps_12 k2 f u' (nI r) (nI (b + 1)) ∧ SIn u u' (mkD u0 z nu E1 E2 d1 d2 fa) (125 * r + b) := by
  have nr := zo.2.2.2.2.1
  obtain ⟨m42, v3, m41, c6⟩ := ruV K hr
  have h125 := pow_le zo.1 v3
  have hx : 125 * r + b < 3750 := by omega
  have m42u : mA u 42 r = nI (vN u0 r) := by rw [(B.g 42 (by unfold kS; omega)).2.2.1]; exact m42
  have cx : Int32.toNatClampNeg (nI (125 * r + b)) = 125 * r + b := nI_clamp (by omega)
  have ex : 125 * nI r + nI b = nI (125 * r + b) := by rw [show (125 : Int32) = nI 125 from rfl, nI_mul, nI_add]
  have x84 : ix (nI (125 * r + b)) (mlen 84) = true := ix_n (show 125 * r + b < mlen 84 from hx) (by decide)
  have x89 : ix (nI (125 * r + b)) (mlen 89) = true := ix_n (show 125 * r + b < mlen 89 from hx) (by decide)
  have x90 : ix (nI (125 * r + b)) (mlen 90) = true := ix_n (show 125 * r + b < mlen 90 from hx) (by decide)
  have i84 : isB (mA u 84 (125 * r + b)) = true := by rcases ho.b with h | h <;> rw [h] <;> rfl
  have ul : fX12_steps_12 k2 (f + 1) u (nI r) (nI b) = fX12_steps_12F k2 (fX12_steps_12 k2 f) u (nI r) (nI b) := rfl
  have e84 : ∀ a, mA (mSA u 89 (125 * r + b) a) 84 (125 * r + b) = mA u 84 (125 * r + b) := fun a => by simp only [z_mI_mSI, z_mL_mSI, z_mA_mSI, z_mB_mSI, z_mI_mSL, z_mL_mSL, z_mA_mSL, z_mB_mSL, z_mI_mSA, z_mL_mSA, z_mA_mSA, z_mB_mSA, z_mI_mSB, z_mL_mSB, z_mA_mSB, z_mB_mSB, show ¬ (84 = 89) by decide, if_true, if_false, and_false, false_and, and_true, true_and, and_self, decide_true, decide_false, reduceCtorEq, not_false_eq_true, not_true_eq_false, Nat.reduceEqDiff, Nat.reduceAdd, Nat.reduceMul, Nat.add_zero, Nat.zero_add]
  have e84' : ∀ a o, mA (set2 u (125 * r + b) a o) 84 (125 * r + b) = mA u 84 (125 * r + b) := fun a o => (set2_ag 84 (by unfold g89; omega)).2.2.1 _
  have id := inst_n (r := r) (b := b) (by omega)
  have bx : btx u0 z.np (125 * r + b) = bt z.np (vN u0 r) b := by unfold btx; rw [id.1, id.2]
  rw [ul, fX12_steps_12F, instM B.m18 m42u (by omega) zo.1 v3, oB_v, if_neg (nI_ge hb (by omega)), ex, oL_v, oC_t x84, cx, oC_t i84, oC_t x89, oL_v, oC_t x84, e84]
  rcases ho.cases with ⟨h1, h2, h3⟩ | ⟨h1, h3⟩
  · rw [if_neg h2, h1, fX12_steps_59, oC_t (show isB 0 = true from rfl), oC_t x90, cx, oL_v, oC_t x84]
    rw [show mSA (mSA u 89 (125 * r + b) 1) 90 (125 * r + b) 0 = set2 u (125 * r + b) 1 0 from rfl, e84', if_neg h2]
    have ag := set2_ag (u := u) (x := 125 * r + b) (a := 1) (o := 0)
    have B1 : SBn u0 (set2 u (125 * r + b) 1 0) z nu := B.fr ag (fun q hq => by unfold g89; omega)
    have m42' : mA (set2 u (125 * r + b) 1 0) 42 r = nI (vN u0 r) := by rw [(ag 42 (by unfold g89; omega)).2.2.1]; exact m42u
    obtain ⟨u2, q1, q2, q3⟩ := givesM B1.m18 m42' (by omega) (pow_pos' hb) zo.1 v3 (show b < 1000 by omega)
    have B2 : SBn u0 u2 z nu := B1.fr q2 (fun q hq => by omega)
    have M2 := B1.mc zo v3 (pow_pos' hb) q2 q3
    have e892 : ∀ q, mA u2 89 q = mA (set2 u (125 * r + b) 1 0) 89 q := (q2 89 (by decide)).2.2.1
    have e902 : ∀ q, mA u2 90 q = mA (set2 u (125 * r + b) 1 0) 90 q := (q2 90 (by decide)).2.2.1
    have e922 : ∀ q, mA u2 92 q = mA u 92 q := fun q => ((q2 92 (by decide)).2.2.1 q).trans ((ag 92 (by unfold g89; omega)).2.2.1 q)
    have e932 : ∀ q, mA u2 93 q = mA u 93 q := fun q => ((q2 93 (by decide)).2.2.1 q).trans ((ag 93 (by unfold g89; omega)).2.2.1 q)
    have a9 : mA u2 89 (125 * r + b) = 1 := by rw [e892, set2_89, if_pos rfl]
    have a0 : mA u2 90 (125 * r + b) = 0 := by rw [e902, set2_90, if_pos rfl]
    obtain ⟨f', hf⟩ : ∃ f', FU = f' + (cN u0 r + 1) := ⟨FU - (cN u0 r + 1), by have : FU = 100000 := rfl; omega⟩
    have e6 : 6 * nI r = nI (6 * r + 0) := by rw [show (6 : Int32) = nI 6 from rfl, nI_mul, Nat.add_zero]
    obtain ⟨u3, s1, s2⟩ := steps84 (k2 := k2) (k12 := fX12_steps_12 k2 f) (b := b) K zo hr hx (fun v hv => (M2.b v hv).2) (cN u0 r) 0 f' u2 (by omega) M2 B2.g (fun q hq => by rw [e922, e932]; exact b23 q hq) (by rw [a9]; exact .inr rfl) (by rw [a0]; exact .inl rfl)
    rw [q1, oB_v, oL_v, hf, e6, s1]
    refine ⟨u3, rfl, SIn.mk ?_ ?_ (s2.n9.iff ?_) (s2.n0.iff ?_)⟩
    · exact ((ag.mono fun k hk => ⟨hk.1, hk.2.1⟩).trans (q2.mono fun k hk => hk.2.2)).trans (s2.ag.mono fun k hk => ⟨hk.1, hk.2.1⟩)
    · intro q hq
      have := s2.ot q hq
      rw [this.1, this.2, e892, e902, set2_89, set2_90, if_neg hq, if_neg hq]
      exact ⟨rfl, rfl⟩
    · simp only [a9, e922, true_and]
      unfold apl mkD
      show _ ↔ hox u0 nu E1 E2 d1 d2 z.np (125 * r + b) ∧ ∀ l, ltx u0 z.np (125 * r + b) l → mA u 92 l = 1
      constructor
      · intro h
        refine ⟨h3, fun l hl => ?_⟩
        obtain ⟨i, i1, i2, i3⟩ := hl
        rw [id.1] at i1 i2 i3
        rw [i3, bx]
        exact h i (by omega) i1 i2
      · intro h i _ i1 i2
        refine h.2 _ ⟨i, by rw [id.1]; exact i1, by rw [id.1]; exact i2, ?_⟩
        rw [id.1, bx]
    · simp only [a0, e932]
      unfold blk mkD
      show _ ↔ ¬ hox u0 nu E1 E2 d1 d2 z.np (125 * r + b) ∨ ∃ l, ltx u0 z.np (125 * r + b) l ∧ mA u 93 l = 1
      constructor
      · intro h
        rcases h with h | ⟨i, _, i1, i2, i3⟩
        · exact absurd h (by decide)
        · refine .inr ⟨_, ⟨i, by rw [id.1]; exact i1, by rw [id.1]; exact i2, rfl⟩, ?_⟩
          rw [id.1, bx]; exact i3
      · intro h
        rcases h with h | ⟨l, ⟨i, i1, i2, i3⟩, hl⟩
        · exact absurd h3 h
        · rw [id.1] at i1 i2 i3
          rw [i3, bx] at hl
          exact .inr ⟨i, by omega, i1, i2, hl⟩
  · rw [if_pos h1, h1, fX12_steps_59, oC_t (show isB 1 = true from rfl), oC_t x90, cx, oL_v, oC_t x84]
    rw [show mSA (mSA u 89 (125 * r + b) 0) 90 (125 * r + b) 1 = set2 u (125 * r + b) 0 1 from rfl, e84', if_pos h1, fX12_steps_213, oL_v, show nI b + 1 = nI (b + 1) from nI_add b 1]
    refine ⟨_, rfl, SIn.mk ((set2_ag).mono fun k hk => ⟨hk.1, hk.2.1⟩) ?_ ?_ ?_⟩
    · intro q hq
      rw [set2_89, set2_90, if_neg hq, if_neg hq]
      exact ⟨rfl, rfl⟩
    · rw [set2_89, if_pos rfl]
      exact .inr ⟨rfl, fun h => h3 h.1⟩
    · rw [set2_90, if_pos rfl]
      exact .inl ⟨rfl, .inl h3⟩
