/-- the instances of rule r from b on, the rules from r on -/
def SL (u : MS) (u' : MS) (D : Mdl) (T : Nat → Prop) : Prop := (MAg g895 u u') ∧ (∀ q, ¬ T q → mA u' 89 q = mA u 89 q ∧ mA u' 90 q = mA u 90 q) ∧ (∀ q, T q → Tf (mA u' 89 q) (apl D (fun l => mA u 92 l = 1) q)) ∧ (∀ q, T q → Tf (mA u' 90 q) (blk D (fun l => mA u 93 l = 1) q))
theorem SL.ag {u : MS} {u' : MS} {D : Mdl} {T : Nat → Prop} (X_ : SL u u' D T) : MAg g895 u u' := X_.1
theorem SL.ot {u : MS} {u' : MS} {D : Mdl} {T : Nat → Prop} (X_ : SL u u' D T) : ∀ q, ¬ T q → mA u' 89 q = mA u 89 q ∧ mA u' 90 q = mA u 90 q := X_.2.1
theorem SL.n9 {u : MS} {u' : MS} {D : Mdl} {T : Nat → Prop} (X_ : SL u u' D T) : ∀ q, T q → Tf (mA u' 89 q) (apl D (fun l => mA u 92 l = 1) q) := X_.2.2.1
theorem SL.n0 {u : MS} {u' : MS} {D : Mdl} {T : Nat → Prop} (X_ : SL u u' D T) : ∀ q, T q → Tf (mA u' 90 q) (blk D (fun l => mA u 93 l = 1) q) := X_.2.2.2
theorem SL.mk {u : MS} {u' : MS} {D : Mdl} {T : Nat → Prop} (ag_ : MAg g895 u u') (ot_ : ∀ q, ¬ T q → mA u' 89 q = mA u 89 q ∧ mA u' 90 q = mA u 90 q) (n9_ : ∀ q, T q → Tf (mA u' 89 q) (apl D (fun l => mA u 92 l = 1) q)) (n0_ : ∀ q, T q → Tf (mA u' 90 q) (blk D (fun l => mA u 93 l = 1) q)) : SL u u' D T := ⟨ag_, ot_, n9_, n0_⟩
theorem SL.join {u u1 u2 : MS} {D : Mdl} {A B T : Nat → Prop} (a : SL u u1 D A) (b : SL u1 u2 D B) (t : ∀ q, T q ↔ A q ∨ B q) : SL u u2 D T := by
  have e92 : ∀ q, mA u1 92 q = mA u 92 q := (a.ag 92 (by unfold g895; omega)).2.2.1
  have e93 : ∀ q, mA u1 93 q = mA u 93 q := (a.ag 93 (by unfold g895; omega)).2.2.1
  have b9 := b.n9
  have b0 := b.n0
  simp only [e92] at b9
  simp only [e93] at b0
  apply SL.mk
  · exact a.ag.trans b.ag
  · intro q hq
    have h1 : ¬ A q := fun h => hq ((t q).mpr (.inl h))
    have h2 : ¬ B q := fun h => hq ((t q).mpr (.inr h))
    exact ⟨(b.ot q h2).1.trans (a.ot q h1).1, (b.ot q h2).2.trans (a.ot q h1).2⟩
  · intro q hq
    by_cases h : B q
    · exact b9 q h
    · rw [(b.ot q h).1]
      rcases (t q).mp hq with k | k
      · exact a.n9 q k
      · exact absurd k h
  · intro q hq
    by_cases h : B q
    · exact b0 q h
    · rw [(b.ot q h).2]
      rcases (t q).mp hq with k | k
      · exact a.n0 q k
      · exact absurd k h
theorem SL.nil {u : MS} {D : Mdl} {T : Nat → Prop} (t : ∀ q, ¬ T q) : SL u u D T := SL.mk (MAg.refl u) (fun _ _ => ⟨rfl, rfl⟩) (fun q h => absurd h (t q)) (fun q h => absurd h (t q))
theorem SIn.sl {u u' : MS} {D : Mdl} {x : Nat} (a : SIn u u' D x) : SL u u' D (fun q => q = x) := SL.mk a.ag (fun q h => a.ot q h) (fun q h => by rw [h]; exact a.n9) (fun q h => by rw [h]; exact a.n0)
theorem stepsB {h0 : PH} {u0 : MS} {G : Gh} {z : Sz} {nu : Nat → Int32} {E1 E2 : Nat → List Tok} {d1 d2 : Int32} {fa : Nat → Prop} {r : Nat} {k2 : MS → Int32 → Option MS} (K : KR h0 u0 G z) (zo : z.ok) (hr : r < z.nr) : ∀ m b f u, b + m = z.np ^ vN u0 r → SBn u0 u z nu → (∀ q, q < 600 → b01 (mA u 92 q) ∧ b01 (mA u 93 q)) → (∀ b, b < z.np ^ vN u0 r → Tf (mA u 84 (125 * r + b)) (hox u0 nu E1 E2 d1 d2 z.np (125 * r + b))) → ∃ u', fX12_steps_12 k2 (f + (m + 1)) u (nI r) (nI b) = k2 u' (nI (r + 1)) ∧ SL u u' (mkD u0 z nu E1 E2 d1 d2 fa) (fun q => ∃ c, b ≤ c ∧ c < z.np ^ vN u0 r ∧ q = 125 * r + c)
  | 0, b, f, u, e, B, b23, ho => by
    have nr := zo.2.2.2.2.1
    obtain ⟨m42, v3, m41, c6⟩ := ruV K hr
    have h125 := pow_le zo.1 v3
    have m42u : mA u 42 r = nI (vN u0 r) := by rw [(B.g 42 (by unfold kS; omega)).2.2.1]; exact m42
    have ul : fX12_steps_12 k2 (f + (0 + 1)) u (nI r) (nI b) = fX12_steps_12F k2 (fX12_steps_12 k2 f) u (nI r) (nI b) := rfl
    refine ⟨u, ?_, SL.nil fun q h => ?_⟩
    · rw [ul, fX12_steps_12F, instM B.m18 m42u (by omega) zo.1 v3, oB_v, if_pos (nI_le (by omega) (by omega)), oL_v, show nI r + 1 = nI (r + 1) from nI_add r 1]
    · obtain ⟨c, c1, c2, _⟩ := h
      omega
  | m + 1, b, f, u, e, B, b23, ho => by
    obtain ⟨u1, a1, a2⟩ := stepI (f := f + (m + 1)) (k2 := k2) (fa := fa) K zo hr B (show b < z.np ^ vN u0 r by omega) b23 (ho b (by omega))
    have e92 : ∀ q, mA u1 92 q = mA u 92 q := (a2.ag 92 (by unfold g895; omega)).2.2.1
    have e93 : ∀ q, mA u1 93 q = mA u 93 q := (a2.ag 93 (by unfold g895; omega)).2.2.1
    have e84 : ∀ q, mA u1 84 q = mA u 84 q := (a2.ag 84 (by unfold g895; omega)).2.2.1
    obtain ⟨u2, q1, q2⟩ := stepsB (k2 := k2) (fa := fa) K zo hr m (b + 1) f u1 (by omega) (B.fr a2.ag (fun q hq => by unfold g895; omega)) (fun q hq => by rw [e92, e93]; exact b23 q hq) (fun c hc => by rw [e84]; exact ho c hc)
    refine ⟨u2, ?_, a2.sl.join q2 fun q => ⟨fun h => ?_, fun h => ?_⟩⟩
    · rw [show f + (m + 1 + 1) = (f + (m + 1)) + 1 from rfl, a1]; exact q1
    · obtain ⟨c, c1, c2, c3⟩ := h
      by_cases e : c = b
      · subst e; exact .inl c3
      · exact .inr ⟨c, by omega, c2, c3⟩
    · rcases h with h | ⟨c, c1, c2, c3⟩
      · exact ⟨b, Nat.le_refl _, by omega, h⟩
      · exact ⟨c, by omega, c2, c3⟩
theorem stepsR {h0 : PH} {u0 : MS} {G : Gh} {z : Sz} {nu : Nat → Int32} {E1 E2 : Nat → List Tok} {d1 d2 : Int32} {fa : Nat → Prop} (K : KR h0 u0 G z) (zo : z.ok) : ∀ m r f u, r + m = z.nr → SBn u0 u z nu → (∀ q, q < 600 → b01 (mA u 92 q) ∧ b01 (mA u 93 q)) → (∀ r b, r < z.nr → b < z.np ^ vN u0 r → Tf (mA u 84 (125 * r + b)) (hox u0 nu E1 E2 d1 d2 z.np (125 * r + b))) → ∃ u', fX12_steps_2 (f + (m + 1)) u (nI r) = some u' ∧ SL u u' (mkD u0 z nu E1 E2 d1 d2 fa) (fun q => ∃ s c, r ≤ s ∧ s < z.nr ∧ c < z.np ^ vN u0 s ∧ q = 125 * s + c)
  | 0, r, f, u, e, B, b23, ho => by
    have nr := zo.2.2.2.2.1
    have ul : fX12_steps_2 (f + (0 + 1)) u (nI r) = fX12_steps_2F (fX12_steps_2 f) u (nI r) := rfl
    refine ⟨u, ?_, SL.nil fun q h => ?_⟩
    · rw [ul, fX12_steps_2F, B.m22, if_pos (nI_le (by omega) (by omega))]
    · obtain ⟨s, c, c1, c2, _⟩ := h
      omega
  | m + 1, r, f, u, e, B, b23, ho => by
    have nr := zo.2.2.2.2.1
    have hr : r < z.nr := by omega
    obtain ⟨m42, v3, m41, c6⟩ := ruV K hr
    have h125 := pow_le zo.1 v3
    have ul : fX12_steps_2 (f + (m + 1 + 1)) u (nI r) = fX12_steps_2F (fX12_steps_2 (f + (m + 1))) u (nI r) := rfl
    obtain ⟨f', hf⟩ : ∃ f', FU = f' + (z.np ^ vN u0 r + 1) := ⟨FU - (z.np ^ vN u0 r + 1), by have : FU = 100000 := rfl; omega⟩
    obtain ⟨u1, a1, a2⟩ := stepsB (k2 := fX12_steps_2 (f + (m + 1))) (fa := fa) K zo hr (z.np ^ vN u0 r) 0 f' u (by omega) B b23 (fun b hb => ho r b hr hb)
    have e92 : ∀ q, mA u1 92 q = mA u 92 q := (a2.ag 92 (by unfold g895; omega)).2.2.1
    have e93 : ∀ q, mA u1 93 q = mA u 93 q := (a2.ag 93 (by unfold g895; omega)).2.2.1
    have e84 : ∀ q, mA u1 84 q = mA u 84 q := (a2.ag 84 (by unfold g895; omega)).2.2.1
    obtain ⟨u2, q1, q2⟩ := stepsR (fa := fa) K zo m (r + 1) f u1 (by omega) (B.fr a2.ag (fun q hq => by unfold g895; omega)) (fun q hq => by rw [e92, e93]; exact b23 q hq) (fun s c hs hc => by rw [e84]; exact ho s c hs hc)
    refine ⟨u2, ?_, a2.join q2 fun q => ⟨fun h => ?_, fun h => ?_⟩⟩
    · rw [ul, fX12_steps_2F, B.m22, if_neg (nI_ge hr (by omega)), hf, show (0 : Int32) = nI 0 from rfl, a1]; exact q1
    · obtain ⟨s, c, c1, c2, c3, c4⟩ := h
      by_cases e : s = r
      · subst e; exact .inl ⟨c, by omega, c3, c4⟩
      · exact .inr ⟨s, c, by omega, c2, c3, c4⟩
    · rcases h with ⟨c, c1, c2, c3⟩ | ⟨s, c, c1, c2, c3, c4⟩
      · exact ⟨r, c, Nat.le_refl _, hr, c2, c3⟩
      · exact ⟨s, c, by omega, c2, c3, c4⟩
theorem stepsM {h0 : PH} {u0 u : MS} {G : Gh} {z : Sz} {nu : Nat → Int32} {E1 E2 : Nat → List Tok} {d1 d2 : Int32} {fa : Nat → Prop} (K : KR h0 u0 G z) (zo : z.ok) (B : SBn u0 u z nu) (b23 : ∀ q, q < 600 → b01 (mA u 92 q) ∧ b01 (mA u 93 q)) (ho : ∀ r b, r < z.nr → b < z.np ^ vN u0 r → Tf (mA u 84 (125 * r + b)) (hox u0 nu E1 E2 d1 d2 z.np (125 * r + b))) : ∃ u', fX12_steps u = some u' ∧ SL u u' (mkD u0 z nu E1 E2 d1 d2 fa) (fun q => q ∈ insL z.nr z.np (vN u0)) := by
  have nr := zo.2.2.2.2.1
  obtain ⟨f, hf⟩ : ∃ f, FU = f + (z.nr + 1) := ⟨FU - (z.nr + 1), by have : FU = 100000 := rfl; omega⟩
  obtain ⟨u', a1, a2⟩ := stepsR (fa := fa) K zo z.nr 0 f u (by omega) B b23 ho
  refine ⟨u', ?_, SL.mk a2.ag (fun q h => a2.ot q fun k => h ?_) (fun q h => a2.n9 q ?_) (fun q h => a2.n0 q ?_)⟩
  · rw [fX12_steps, fX12_steps_0, hf]; exact a1
  · obtain ⟨s, c, _, c2, c3, c4⟩ := k
    exact mem_insL.mpr ⟨s, c, c2, c3, c4⟩
  · obtain ⟨s, c, c2, c3, c4⟩ := mem_insL.mp h
    exact ⟨s, c, by omega, c2, c3, c4⟩
  · obtain ⟨s, c, c2, c3, c4⟩ := mem_insL.mp h
    exact ⟨s, c, by omega, c2, c3, c4⟩
