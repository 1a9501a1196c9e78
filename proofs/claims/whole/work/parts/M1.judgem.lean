theorem tly_pos {u : MS} {d1 d2 : Int32} {p : Nat} : ∀ {n : Nat}, 0 < tly u d1 d2 n p → ∃ k, k < n ∧ (mA u 75 k).toNatClampNeg = p
  | 0, h => absurd h (by unfold tly; omega)
  | n + 1, h => by
    unfold tly at h
    by_cases c : 0 < tly u d1 d2 n p
    · obtain ⟨k, k1, k2⟩ := tly_pos c
      exact ⟨k, by omega, k2⟩
    · by_cases d : cnt u d1 d2 n ∧ (mA u 75 n).toNatClampNeg = p
      · exact ⟨n, by omega, d.2⟩
      · rw [if_neg d] at h; omega
theorem judgeM {h0 : PH} {u0 : MS} {G : Gh} {z : Sz} {nu : Nat → Int32} {E1 E2 E3 : Nat → List Tok} {d1 d2 : Int32} {nt : Nat} (S : SX h0 G) (C : SzC h0 z) (M0 : SzM u0 z) (mo : Mo h0 u0 G z E1 E2 E3) (K : KR h0 u0 G z) (zo : z.ok) (hc : z.rc ≤ 37000) (B0 : SBn u0 u0 z nu) (h100 : nt ≤ 100) (m73 : mI u0 73 = nI nt) (ot : okTe u0 nt) (fl : ∀ p, fax u0 d1 d2 nt p → p < 600 ∧ isLit (plN u0) z.nw z.np p) (x1 : ¬ d1 < 0) (x2 : ¬ 999999 < d1) (x3 : ¬ d2 < 0) (x4 : d2 ≤ 999999) : ∃ u', fX12_judge u0 d1 d2 = some (u', mI u' 100) ∧ JE u0 u' z (mkD u0 z nu E1 E2 d1 d2 (fax u0 d1 d2 nt)) nu E3 := by
  obtain ⟨u1, a1, a2, a3⟩ := factsM (d1 := d1) (d2 := d2) h100 m73 ot
  have g1 : MAg g78 u0 u1 := a2.mono fun k hk => by unfold g78 at hk; unfold gF9 gFt; omega
  have B1 : SBn u0 u1 z nu := B0.fr a2 (fun q hq => by unfold gF9 gFt; omega)
  obtain ⟨u2, b1, b2, b3⟩ := instantiatesM (d1 := d1) (d2 := d2) S C M0 mo K zo hc B1 g1 a3
  have e92 := (b2 92 (by unfold gIn; omega)).2.2.1
  have e93 := (b2 93 (by unfold gIn; omega)).2.2.1
  have g : Goo (mkD u0 z nu E1 E2 d1 d2 (fax u0 d1 d2 nt)) (p92 u2) (p93 u2) := by
    apply Goo.start
    · exact fl
    · intro p
      unfold p92
      constructor
      · intro h
        obtain ⟨f1, f2, _⟩ := a3 p h.1
        rw [e92, f2] at h
        exact f1.one.mp h.2
      · intro h
        have h6 := (fl p h).1
        obtain ⟨f1, f2, _⟩ := a3 p h6
        exact ⟨h6, by rw [e92, f2]; exact f1.one.mpr h⟩
    · intro p h
      obtain ⟨f1, f2, f3, _⟩ := a3 p h.1
      have := h.2
      rw [e93, f3] at this
      exact absurd this (by decide)
  have c1 := cz1_le u2 92
  have c2 := cz1_le u2 93
  have cc : cz u2 ≤ 1200 := by show cz1 u2 92 + cz1 u2 93 ≤ 1200; omega
  have hf : FU = 98798 + (1200 + 2) := rfl
  obtain ⟨u3, f', d1', d2', d3⟩ := rounds K zo 1200 98798 u2 cc b3 g
  have g3 : MAg (fun k => k ≤ 78 ∨ 113 ≤ k) u0 u3 := ((a2.mono fun k hk => by unfold gF9 gFt; omega).trans (b2.mono fun k hk => by unfold gIn; omega)).trans (d2'.mono fun k hk => by unfold gRd; omega)
  obtain ⟨u4, e1, e2⟩ := judgeE (f := f') mo K zo hc g3 d3
  refine ⟨u4, ?_, e2⟩
  rw [fX12_judge, fX12_judge_0, if_neg x1, if_neg x2, if_neg x3, if_pos x4, a1, oB_v, b1, oB_v, hf, d1']
  exact e1
