def gIn (k : Nat) : Prop := k ≤ 78 ∨ (91 ≤ k ∧ k ≤ 93) ∨ 96 ≤ k
def g78 (k : Nat) : Prop := k ≤ 78
theorem ICn.fr {u u' : MS} {hd : Nat → Nat} {l : List Nat} {n : Nat} {P : Nat → Prop} (I : ICn u hd l n) (g : MAg P u u') (h6 : P 86) (h7 : P 87) (h8 : P 88) : ICn u' hd l n := by
  have e6 := (g 86 h6).2.2.1
  have e7 := (g 87 h7).2.2.1
  have e8 := (g 88 h8).2.2.1
  apply ICn.mk
  · exact I.pw
  · exact I.lt
  · intro p hp; rw [e7]; exact (I.ch p hp).eqv fun a _ => e6 a
  · intro p l0 c hp e; rw [e8]; exact I.la p l0 c hp e
def INs (u0 : MS) (u1 : MS) (u : MS) (z : Sz) (nu : Nat → Int32) (E1 : Nat → List Tok) (E2 : Nat → List Tok) (d1 : Int32) (d2 : Int32) (r : Nat) (b : Nat) : Prop := (MAg gIn u1 u) ∧ (ICn u (hdx u0 z.np) (dn z.np (vN u0) r b) (125 * r + b)) ∧ (∀ x, x ∈ dn z.np (vN u0) r b → Tf (mA u 84 x) (hox u0 nu E1 E2 d1 d2 z.np x))
theorem INs.ag {u0 : MS} {u1 : MS} {u : MS} {z : Sz} {nu : Nat → Int32} {E1 : Nat → List Tok} {E2 : Nat → List Tok} {d1 : Int32} {d2 : Int32} {r : Nat} {b : Nat} (X_ : INs u0 u1 u z nu E1 E2 d1 d2 r b) : MAg gIn u1 u := X_.1
theorem INs.ic {u0 : MS} {u1 : MS} {u : MS} {z : Sz} {nu : Nat → Int32} {E1 : Nat → List Tok} {E2 : Nat → List Tok} {d1 : Int32} {d2 : Int32} {r : Nat} {b : Nat} (X_ : INs u0 u1 u z nu E1 E2 d1 d2 r b) : ICn u (hdx u0 z.np) (dn z.np (vN u0) r b) (125 * r + b) := X_.2.1
theorem INs.ho {u0 : MS} {u1 : MS} {u : MS} {z : Sz} {nu : Nat → Int32} {E1 : Nat → List Tok} {E2 : Nat → List Tok} {d1 : Int32} {d2 : Int32} {r : Nat} {b : Nat} (X_ : INs u0 u1 u z nu E1 E2 d1 d2 r b) : ∀ x, x ∈ dn z.np (vN u0) r b → Tf (mA u 84 x) (hox u0 nu E1 E2 d1 d2 z.np x) := X_.2.2
theorem INs.mk {u0 : MS} {u1 : MS} {u : MS} {z : Sz} {nu : Nat → Int32} {E1 : Nat → List Tok} {E2 : Nat → List Tok} {d1 : Int32} {d2 : Int32} {r : Nat} {b : Nat} (ag_ : MAg gIn u1 u) (ic_ : ICn u (hdx u0 z.np) (dn z.np (vN u0) r b) (125 * r + b)) (ho_ : ∀ x, x ∈ dn z.np (vN u0) r b → Tf (mA u 84 x) (hox u0 nu E1 E2 d1 d2 z.np x)) : INs u0 u1 u z nu E1 E2 d1 d2 r b := ⟨ag_, ic_, ho_⟩
theorem SzM.fr {u u' : MS} {z : Sz} (M : SzM u z) (g : MAg g78 u u') : SzM u' z := by
  obtain ⟨a, b, c, d, e, f, i⟩ := M
  have k : ∀ q, q ≤ 78 → mI u' q = mI u q := fun q hq => (g q hq).1
  exact ⟨(k 18 (by decide)).trans a, (k 19 (by decide)).trans b, (k 20 (by decide)).trans c, (k 21 (by decide)).trans d, (k 22 (by decide)).trans e, (k 23 (by decide)).trans f, (k 24 (by decide)).trans i⟩
theorem higherM {h0 : PH} {u0 u : MS} {G : Gh} {z : Sz} {r s : Nat} (S : SX h0 G) (C : SzC h0 z) (M0 : SzM u0 z) (K : KR h0 u0 G z) (zo : z.ok) (g : MAg g78 u0 u) (hr : r < z.nr) (hs : s < z.nr) : ∃ b, fX12_isHigher u (mA u 39 r) (mA u 39 s) (nI r) (nI s) = some b ∧ Tf b (hix u0 (125 * r) (125 * s)) := by
  have K1 : KR h0 u G z := K.fr S (Ag.refl h0) (g.mono fun k hk => by unfold kS at hk; unfold g78; omega)
  obtain ⟨b, b1, b2, b3⟩ := above_v S zo C M0 K hr hs
  obtain ⟨b', _, b2', b3'⟩ := above_v S zo C (M0.fr g) K1 hr hs
  have e : b' = b := Option.some.inj (b2'.symm.trans b2)
  rw [e] at b3'
  refine ⟨b, b3', ?_⟩
  have hx : hix u0 (125 * r) (125 * s) ↔ b = 1 := by
    unfold hix
    rw [show 125 * r / 125 = r by omega, show 125 * s / 125 = s by omega, b3]
    exact ⟨fun h => Option.some.inj h, fun h => by rw [h]⟩
  rcases b1 with h | h
  · exact .inr ⟨h, fun q => by rw [hx, h] at q; exact absurd q (by decide)⟩
  · exact .inl ⟨h, hx.mpr h⟩
theorem inst72 {h0 : PH} {u0 u1 : MS} {G : Gh} {z : Sz} {nu : Nat → Int32} {E1 E2 E3 : Nat → List Tok} {d1 d2 x4 : Int32} {r : Nat} {k2 : MS → Int32 → Int32 → Int32 → Option MS} (mo : Mo h0 u0 G z E1 E2 E3) (K : KR h0 u0 G z) (zo : z.ok) (hc : z.rc ≤ 37000) (hr : r < z.nr) (B1 : SBn u0 u1 z nu) (hf : Tf x4 (inf u0 d1 d2 r)) : ∀ m b f u, b + m = z.np ^ vN u0 r → INs u0 u1 u z nu E1 E2 d1 d2 r b → ∃ u', fX12_instantiates_72 k2 (f + (m + 1)) u d1 d2 (nI r) x4 (nI b) = k2 u' d1 d2 (nI (r + 1)) ∧ INs u0 u1 u' z nu E1 E2 d1 d2 (r + 1) 0 ∧ ∀ i, mA u' 94 i = mA u 94 i
  | 0, b, f, u, e, N => by
    have nr := zo.2.2.2.2.1
    obtain ⟨m42, v3, m41, c6⟩ := ruV K hr
    have h125 := pow_le zo.1 v3
    have B : SBn u0 u z nu := B1.fr N.ag (fun q hq => .inl hq)
    have m42u : mA u 42 r = nI (vN u0 r) := by rw [(B.g 42 (by unfold kS; omega)).2.2.1]; exact m42
    have ul : fX12_instantiates_72 k2 (f + (0 + 1)) u d1 d2 (nI r) x4 (nI b) = fX12_instantiates_72F k2 (fX12_instantiates_72 k2 f) u d1 d2 (nI r) x4 (nI b) := rfl
    have eb : b = z.np ^ vN u0 r := e
    refine ⟨u, ?_, ?_, fun _ => rfl⟩
    · rw [ul, fX12_instantiates_72F, instM B.m18 m42u (by omega) zo.1 v3, oB_v, if_pos (nI_le (by omega) (by omega)), oL_v, show nI r + 1 = nI (r + 1) from nI_add r 1]
    · have ed : dn z.np (vN u0) r b = dn z.np (vN u0) (r + 1) 0 := by rw [eb, dn_next, dn_zero]
      have n2 := N.ic
      have n3 := N.ho
      rw [ed] at n2 n3
      exact INs.mk N.ag (n2.le (by omega)) n3
  | m + 1, b, f, u, e, N => by
    have nr := zo.2.2.2.2.1
    obtain ⟨m42, v3, m41, c6⟩ := ruV K hr
    have h125 := pow_le zo.1 v3
    have hb : b < z.np ^ vN u0 r := by omega
    have B : SBn u0 u z nu := B1.fr N.ag (fun q hq => .inl hq)
    have m42u : mA u 42 r = nI (vN u0 r) := by rw [(B.g 42 (by unfold kS; omega)).2.2.1]; exact m42
    have ul : fX12_instantiates_72 k2 (f + (m + 1 + 1)) u d1 d2 (nI r) x4 (nI b) = fX12_instantiates_72F k2 (fX12_instantiates_72 k2 (f + (m + 1))) u d1 d2 (nI r) x4 (nI b) := rfl
    have e125 : 125 * nI r + nI b = nI (125 * r + b) := by rw [show (125 : Int32) = nI 125 from rfl, nI_mul, nI_add]
    obtain ⟨u2, q1, q2, q3⟩ := givesM B.m18 m42u (by omega) (pow_pos' hb) zo.1 v3 (show b < 1000 by omega)
    have B2 : SBn u0 u2 z nu := B.fr q2 (fun q hq => by omega)
    have M2 := B.mc zo v3 (pow_pos' hb) q2 q3
    have I2 : ICn u2 (hdx u0 z.np) (dn z.np (vN u0) r b) (125 * r + b) := N.ic.fr q2 (by decide) (by decide) (by decide)
    have id := inst_n (r := r) (b := b) (by omega)
    have bx : btx u0 z.np (125 * r + b) = bt z.np (vN u0 r) b := by unfold btx; rw [id.1, id.2]
    have hx : hox u0 nu E1 E2 d1 d2 z.np (125 * r + b) ↔ inf u0 d1 d2 r ∧ allP (fun i => cnP u0 nu E1 E2 (bt z.np (vN u0 r) b) (6 * r + i)) 0 (cN u0 r) := by
      unfold hox
      rw [bx, id.1]
    have go : ∀ u3 s0, MAg (fun k => k ≠ 95 ∧ wk9 k) u u3 → MC u3 (bt z.np (vN u0 r) b) (vN u0 r) z.np nu → Tf s0 (hox u0 nu E1 E2 d1 d2 z.np (125 * r + b)) → ∃ u', fX12_instantiates_122 k2 (fX12_instantiates_72 k2 (f + (m + 1))) u3 d1 d2 (nI r) x4 (nI b) (nI (125 * r + b)) s0 (nI (125 * r + b)) = k2 u' d1 d2 (nI (r + 1)) ∧ INs u0 u1 u' z nu E1 E2 d1 d2 (r + 1) 0 ∧ ∀ i, mA u' 94 i = mA u 94 i := by
      intro u3 s0 g3 M3 t0
      have I3 : ICn u3 (hdx u0 z.np) (dn z.np (vN u0) r b) (125 * r + b) := N.ic.fr g3 (by unfold wk9; omega) (by unfold wk9; omega) (by unfold wk9; omega)
      have k3 : MAg kS u0 u3 := B.g.trans (g3.mono fun k hk => by unfold kS at hk; unfold wk9; omega)
      obtain ⟨u4, w1, w2, w3, w4⟩ := inst122 (d1 := d1) (d2 := d2) (x4 := x4) (k2 := k2) (k72 := fX12_instantiates_72 k2 (f + (m + 1))) K zo hr hb M3 k3 I3 t0.b
      have g4 : MAg gIn u u4 := (g3.mono fun k hk => by unfold gIn at hk; unfold wk9; omega).trans (w2.mono fun k hk => by unfold gIn at hk; unfold gI8; omega)
      obtain ⟨u', v1, v2, v3'⟩ := inst72 (k2 := k2) mo K zo hc hr B1 hf m (b + 1) f u4 (by omega) (INs.mk (N.ag.trans g4) (by rw [dn_succ]; exact w4) (fun x hx => by
        rw [dn_succ] at hx
        rw [w3]
        by_cases c : x = 125 * r + b
        · rw [if_pos c, c]; exact t0
        · rw [if_neg c, (g3 84 (by unfold wk9; omega)).2.2.1]
          rcases List.mem_append.mp hx with h | h
          · exact N.ho x h
          · exact absurd (List.mem_singleton.mp h) c))
      exact ⟨u', w1.trans v1, v2, fun i => by rw [v3', (w2 94 (by unfold gI8; omega)).2.2.1, (g3 94 (by unfold wk9; omega)).2.2.1]⟩
    rw [ul, fX12_instantiates_72F, instM B.m18 m42u (by omega) zo.1 v3, oB_v, if_neg (nI_ge hb (by omega)), e125, oL_v, q1, oB_v]
    have g2 : MAg (fun k => k ≠ 95 ∧ wk9 k) u u2 := q2.mono fun k hk => hk.1
    rcases hf.cases with ⟨_, f2, f3⟩ | ⟨f1, f2⟩
    · obtain ⟨f', hff⟩ : ∃ f', FU = f' + (cN u0 r + 1) := ⟨FU - (cN u0 r + 1), by have : FU = 100000 := rfl; omega⟩
      obtain ⟨u3, y, s1, s2, s3⟩ := standingM (nu := nu) mo K zo hc hr (cN u0 r) 0 f' u2 (by omega) M2 B2.g
      have s1' : fX12_standing u2 (nI r) = some (u3, y) := by
        rw [fX12_standing, fX12_standing_0, oL_v, hff, show 6 * nI r = nI (6 * r + 0) by rw [show (6 : Int32) = nI 6 from rfl, nI_mul, Nat.add_zero]]
        exact s1
      have M3 : MC u3 (bt z.np (vN u0 r) b) (vN u0 r) z.np nu := M2.ch s3 (by unfold wk9; omega) (by unfold wk9; omega)
      have g3 : MAg (fun k => k ≠ 95 ∧ wk9 k) u u3 := g2.trans (s3.mono fun k hk => hk.2)
      rw [if_neg f2, s1', oB2_v]
      rcases s2.cases with ⟨_, y2, y3⟩ | ⟨y1, y2⟩
      · rw [if_neg y2]
        exact go u3 1 g3 M3 (.inl ⟨rfl, hx.mpr ⟨f3, y3⟩⟩)
      · rw [if_pos y1]
        exact go u3 0 g3 M3 (.inr ⟨rfl, fun h => y2 (hx.mp h).2⟩)
    · rw [if_pos f1]
      exact go u2 0 g2 M2 (.inr ⟨rfl, fun h => f2 (hx.mp h).1⟩)
