theorem factsM {u : MS} {d1 d2 : Int32} {nt : Nat} (h100 : nt ≤ 100) (m73 : mI u 73 = nI nt) (ot : okTe u nt) : ∃ u', fX12_facts u d1 d2 = some u' ∧ MAg (fun k => gF9 k ∧ gFt k) u u' ∧ ∀ q, q < 600 → F9 u' q (fax u d1 d2 nt q) := by
  have hf : FU = 99399 + (600 + 1) := rfl
  obtain ⟨u1, a1, a2, a3⟩ := facts2 (d1 := d1) (d2 := d2) 600 0 99399 u rfl (fun q hq => by omega)
  have m73' : mI u1 73 = nI nt := by rw [(a2 73 (by unfold gFt; decide)).1]; exact m73
  have ot1 : okTe u1 nt := fun j hj => by rw [(a2 75 (by unfold gFt; decide)).2.2.1, (a2 78 (by unfold gFt; decide)).2.2.1]; exact ot j hj
  obtain ⟨f, hf2⟩ : ∃ f, FU = f + (nt + 1) := ⟨FU - (nt + 1), by have : FU = 100000 := rfl; omega⟩
  obtain ⟨u2, b1, b2, b3⟩ := facts24 (d1 := d1) (d2 := d2) h100 nt 0 f u1 (by omega) m73' ot1 (fun q hq => by rw [a3 q hq]; rfl)
  have tt : ∀ q, tly u2 d1 d2 nt q = tly u d1 d2 nt q := fun q => (tly_fr b2).trans (tly_fr a2)
  simp only [tt] at b3
  obtain ⟨u3, c1, c2, c3⟩ := facts90 (T := fun q => tly u d1 d2 nt q) (fun q _ => Nat.le_trans (tly_le ot.w) (by omega)) 600 0 99399 u2 rfl b3 (fun q hq => by omega)
  refine ⟨u3, ?_, ((a2.trans b2).mono fun k hk => hk.2).trans (c2.mono fun k hk => hk.1), c3⟩
  have z0 : (0 : Int32) = nI 0 := rfl
  rw [fX12_facts, fX12_facts_0, hf, z0, a1, hf2, z0, b1, hf, z0]
  exact c1
