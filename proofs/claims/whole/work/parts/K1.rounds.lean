theorem insL_len {np : Nat} {v : Nat → Nat} : ∀ {nr : Nat}, (∀ r, r < nr → np ^ v r ≤ 125) → (insL nr np v).length ≤ 125 * nr
  | 0, _ => Nat.le_refl _
  | n + 1, h => by
    have ih := insL_len (nr := n) fun r hr => h r (by omega)
    have e : insL (n + 1) np v = insL n np v ++ (List.range (np ^ v n)).map fun b => 125 * n + b := by
      unfold insL
      rw [List.range_succ, List.flatMap_append, List.flatMap_singleton]
    have := h n (by omega)
    rw [e, List.length_append, List.length_map, List.length_range]
    omega
theorem ltx_lt {h0 : PH} {u0 : MS} {G : Gh} {z : Sz} {x l : Nat} (K : KR h0 u0 G z) (zo : z.ok) (hx : x ∈ insL z.nr z.np (vN u0)) (hl : ltx u0 z.np x l) : l < 600 ∧ isLit (plN u0) z.nw z.np l := by
  obtain ⟨r, b, hr, hb, e⟩ := mem_insL.mp hx
  obtain ⟨m42, v3, m41, c6⟩ := ruV K hr
  have h125 := pow_le zo.1 v3
  have id := inst_n (r := r) (b := b) (by omega)
  obtain ⟨i, i1, i2, i3⟩ := hl
  rw [e, id.1] at i1 i2 i3
  have bx : btx u0 z.np (125 * r + b) = bt z.np (vN u0 r) b := by unfold btx; rw [id.1, id.2]
  rw [bx] at i3
  obtain ⟨l', kk, n, v, h1, h2, h3, h4, h5, h6, h7, h8, h9, ha, hb', hc', hd, he, hf⟩ := K.ru r hr
  have en : cN u0 r = n := by unfold cN; rw [hb', nI_clamp (by omega)]
  have ev : vN u0 r = v := by unfold vN; rw [hd, nI_clamp (by omega)]
  rw [ev] at i3 hb
  have lt : LtR u0 z v (hI h0 257 (G.cd r i)) (hI h0 258 (G.cd r i)) (hI h0 259 (G.cd r i)) (hI h0 260 (G.cd r i)) (mA u0 52 (6 * r + i)) (mA u0 53 (6 * r + i)) (mA u0 54 (6 * r + i)) (mA u0 55 (6 * r + i)) := by
    rcases hf i (by omega) with ⟨_, _, q⟩ | ⟨_, q, _⟩ | ⟨_, q, _⟩ | ⟨q, _⟩
    · exact q
    · rw [i2] at q; exact absurd q (by decide)
    · rw [i2] at q; exact absurd q (by decide)
    · rw [i2] at q; exact absurd q (by decide)
  have := lt.lit (β := bt z.np v b) zo (fun w hw => bt_lt (by rcases pow_pos' hb with c | c <;> omega))
  rw [i3]
  exact ⟨this.2, this.1⟩
theorem RI.rq {h0 : PH} {u0 u u' : MS} {G : Gh} {z : Sz} {nu : Nat → Int32} {E1 E2 : Nat → List Tok} {d1 d2 : Int32} {fa : Nat → Prop} (K : KR h0 u0 G z) (zo : z.ok) (I : RI u0 u z nu E1 E2 d1 d2 fa) (s : SL u u' (mkD u0 z nu E1 E2 d1 d2 fa) (fun q => q ∈ insL z.nr z.np (vN u0))) : RQ u' (mkD u0 z nu E1 E2 d1 d2 fa) (p92 u) (p93 u) := by
  have nr := zo.2.2.2.2.1
  have m : ∀ k, g895 k → ∀ i, mA u' k i = mA u k i := fun k hk => (s.ag k hk).2.2.1
  have m86 := m 86 (by unfold g895; omega)
  have cc : ∀ l x, Ch u x l → Ch u' x l := by
    intro l
    induction l with
    | nil => exact fun x h => h
    | cons a l ih => exact fun x h => ⟨h.1, by rw [m86]; exact ih _ h.2⟩
  have il : ∀ x, x ∈ insL z.nr z.np (vN u0) → x < 3750 ∧ x / 125 < z.nr := by
    intro x hx
    obtain ⟨r, b, hr, hb, e⟩ := mem_insL.mp hx
    obtain ⟨m42, v3, m41, c6⟩ := ruV K hr
    have h125 := pow_le zo.1 v3
    omega
  apply RQ.mk
  · intro p hp; rw [m 87 (by unfold g895; omega)]; exact cc _ _ (I.ch p hp)
  · exact fun x hx => (il x hx).1
  · have := insL_len (nr := z.nr) (np := z.np) (v := vN u0) fun r hr => pow_le zo.1 (ruV K hr).2.1
    show (insL z.nr z.np (vN u0)).length ≤ 3750
    omega
  · intro x hx _
    rw [m 40 (by unfold g895; omega), (I.B.g 40 (by unfold kS; omega)).2.2.1]
    exact Iff.rfl
  · intro x hx
    refine (s.n9 x hx).iff ⟨fun h => ⟨h.1, fun l hl => ⟨(ltx_lt K zo hx hl).1, h.2 l hl⟩⟩, fun h => ⟨h.1, fun l hl => (h.2 l hl).2⟩⟩
  · intro x hx
    refine (s.n0 x hx).iff ⟨fun h => ?_, fun h => ?_⟩
    · rcases h with h | ⟨l, h1, h2⟩
      · exact .inl h
      · exact .inr ⟨l, h1, (ltx_lt K zo hx h1).1, h2⟩
    · rcases h with h | ⟨l, h1, h2⟩
      · exact .inl h
      · exact .inr ⟨l, h1, h2.2⟩
  · intro x y hx hy
    rw [m 94 (by unfold g895; omega)]
    refine (I.h4 (y / 125) (x / 125) (il y hy).2 (il x hx).2).iff ?_
    show hix u0 (125 * (y / 125)) (125 * (x / 125)) ↔ hix u0 y x
    unfold hix
    rw [show 125 * (y / 125) / 125 = y / 125 by omega, show 125 * (x / 125) / 125 = x / 125 by omega]
  · intro p hp; rw [m 91 (by unfold g895; omega)]; exact I.f1 p hp
theorem RI.fr {u0 u u' : MS} {z : Sz} {nu : Nat → Int32} {E1 E2 : Nat → List Tok} {d1 d2 : Int32} {fa : Nat → Prop} {P : Nat → Prop} (I : RI u0 u z nu E1 E2 d1 d2 fa) (g : MAg P u u') (hP : ∀ q, q ≤ 88 ∨ q = 91 ∨ q = 94 → P q) (b : ∀ q, q < 600 → b01 (mA u' 92 q) ∧ b01 (mA u' 93 q)) : RI u0 u' z nu E1 E2 d1 d2 fa := by
  have m : ∀ k, P k → ∀ i, mA u' k i = mA u k i := fun k hk => (g k hk).2.2.1
  have m86 := m 86 (hP 86 (by omega))
  have cc : ∀ l x, Ch u x l → Ch u' x l := by
    intro l
    induction l with
    | nil => exact fun x h => h
    | cons a l ih => exact fun x h => ⟨h.1, by rw [m86]; exact ih _ h.2⟩
  apply RI.mk
  · exact I.B.fr g fun q hq => hP q (by omega)
  · exact b
  · intro r c hr hc; rw [m 84 (hP 84 (by omega))]; exact I.ho r c hr hc
  · intro p hp; rw [m 87 (hP 87 (by omega))]; exact cc _ _ (I.ch p hp)
  · intro r s hr hs; rw [m 94 (hP 94 (by omega))]; exact I.h4 r s hr hs
  · intro p hp; rw [m 91 (hP 91 (by omega))]; exact I.f1 p hp
theorem SBn.gl {h0 : PH} {u0 u : MS} {G : Gh} {z : Sz} {nu : Nat → Int32} {E1 E2 : Nat → List Tok} {d1 d2 : Int32} {fa : Nat → Prop} (K : KR h0 u0 G z) (zo : z.ok) (B : SBn u0 u z nu) : GL u (mkD u0 z nu E1 E2 d1 d2 fa) z.nw z.np := by
  have e28 : ∀ i, mA u 28 i = mA u0 28 i := (B.g 28 (by unfold kS; omega)).2.2.1
  apply GL.mk
  · exact B.m18
  · exact B.m19
  · exact zo.1
  · exact zo.2.1
  · intro w hw
    obtain ⟨k, k1, _, k3⟩ := K.pl w hw
    exact ⟨k, k1, by rw [e28]; exact k3⟩
  · intro p hp
    have : plN u = plN u0 := by funext w; unfold plN; rw [e28]
    rw [this]
    exact ⟨fun h => h.2, fun h => ⟨hp, h⟩⟩
