theorem p33 {u : MS} {D : Mdl} {P R : Nat → Prop} (Q : RQ u D P R) {p : Nat} (hp : p < 600) : ∀ (l : List Nat) (c y : Int32) (f : Nat), (∀ a, a ∈ l → a ∈ D.ins ∧ D.hd a = p) → Ch u y l → ∃ x, fX12_isProved_33 (f + (l.length + 1)) u (nI p) c y = some x ∧ Tf x ((¬ c = 0 ∨ ∃ a, a ∈ l ∧ byR D P p a) ∧ ∀ a, a ∈ D.ins → D.hd a = p ^^^ 1 → blk D R a ∨ ∃ w, byR D P p w ∧ D.hi w a)
  | [], c, y, f, _, hy => by
    have e : y = -1 := hy
    have ul : fX12_isProved_33 (f + (([] : List Nat).length + 1)) u (nI p) c y = fX12_isProved_33F (fX12_isProved_33 f) u (nI p) c y := rfl
    have hq := xor1_lt hp
    rw [ul, fX12_isProved_33F, if_pos e]
    by_cases c0 : c = 0
    · rw [if_pos c0]
      refine ⟨0, rfl, .inr ⟨rfl, fun h => ?_⟩⟩
      rcases h.1 with h | ⟨a, h, _⟩
      · exact h c0
      · cases h
    · have ll : (chn D (p ^^^ 1)).length ≤ 3750 := Nat.le_trans chn_len Q.ln
      obtain ⟨f', hf⟩ : ∃ f', FU = f' + ((chn D (p ^^^ 1)).length + 1) := ⟨FU - ((chn D (p ^^^ 1)).length + 1), by have : FU = 100000 := rfl; omega⟩
      obtain ⟨x, w1, w2⟩ := p94 Q hp (chn D (p ^^^ 1)) (mA u 87 (p ^^^ 1)) f' (fun b hb => (mem_chn.mp hb).1) (Q.ch _ hq)
      rw [if_neg c0, nI_xor1 hp, oC_t (ix_n (show p ^^^ 1 < mlen 87 from hq) (by decide)), nI_clamp (show p ^^^ 1 < 2147483648 by omega), oL_v, hf]
      exact ⟨x, w1, w2.iff ⟨fun h => ⟨.inl c0, fun a h1 h2 => h a (mem_chn.mpr ⟨h1, h2⟩)⟩, fun h a ha => h.2 a (mem_chn.mp ha).1 (mem_chn.mp ha).2⟩⟩
  | a :: l, c, y, f, hl, hy => by
    obtain ⟨e, hy⟩ := hy
    subst e
    have la := hl a (List.mem_cons_self ..)
    have ha := Q.il a la.1
    have x40 : ix (nI (a / 125)) (mlen 40) = true := ix_n (show a / 125 < mlen 40 by show _ < 30; omega) (by decide)
    have x89 : ix (nI a) (mlen 89) = true := ix_n (show a < mlen 89 from ha) (by decide)
    have x86 : ix (nI a) (mlen 86) = true := ix_n (show a < mlen 86 from ha) (by decide)
    have ul : fX12_isProved_33 (f + ((a :: l).length + 1)) u (nI p) c (nI a) = fX12_isProved_33F (fX12_isProved_33 (f + (l.length + 1))) u (nI p) c (nI a) := rfl
    have go : ∀ c2 : Int32, (¬ c2 = 0 ↔ ¬ c = 0 ∨ byR D P p a) → ∃ x, fX12_isProved_68 (fX12_isProved_33 (f + (l.length + 1))) u (nI p) (nI a) c2 = some x ∧ Tf x ((¬ c = 0 ∨ ∃ b, b ∈ a :: l ∧ byR D P p b) ∧ ∀ b, b ∈ D.ins → D.hd b = p ^^^ 1 → blk D R b ∨ ∃ w, byR D P p w ∧ D.hi w b) := by
      intro c2 h2
      obtain ⟨x, q1, q2⟩ := p33 Q hp l c2 (mA u 86 a) f (fun b hb => hl b (List.mem_cons_of_mem _ hb)) hy
      refine ⟨x, ?_, q2.iff ⟨fun h => ⟨?_, h.2⟩, fun h => ⟨?_, h.2⟩⟩⟩
      · rw [fX12_isProved_68, oC_t x86, nI_clamp (show a < 2147483648 by omega), oL_v]; exact q1
      · rcases h.1 with h | ⟨b, h, hh⟩
        · rcases h2.mp h with h | h
          · exact .inl h
          · exact .inr ⟨a, List.mem_cons_self .., h⟩
        · exact .inr ⟨b, List.mem_cons_of_mem _ h, hh⟩
      · rcases h.1 with h | ⟨b, h, hh⟩
        · exact .inl (h2.mpr (.inl h))
        · rcases List.mem_cons.mp h with e | e
          · rw [e] at hh; exact .inl (h2.mpr (.inr hh))
          · exact .inr ⟨b, e, hh⟩
    have k0 := Q.k0 a la.1 (by rw [la.2]; exact hp)
    rw [ul, fX12_isProved_33F, if_neg (nI_m1 (show a < 2147483648 by omega))]
    by_cases c0 : c = 0
    · rw [if_pos c0, nI_d125 ha, oC_t x40, nI_clamp (show a / 125 < 2147483648 by omega), oC_t x89, nI_clamp (show a < 2147483648 by omega)]
      by_cases d : mA u 40 (a / 125) = 0
      · rw [if_pos d]
        rcases (Q.a9 a la.1).cases with ⟨_, e2, e3⟩ | ⟨e1, e2⟩
        · rw [if_neg e2]
          exact go 1 ⟨fun _ => .inr ⟨la.1, la.2, k0.mp d, e3⟩, fun _ => by decide⟩
        · rw [if_pos e1]
          refine go 0 ⟨fun h => absurd rfl h, fun h => ?_⟩
          rcases h with h | h
          · exact absurd c0 h
          · exact absurd h.2.2.2 e2
      · rw [if_neg d]
        refine go 0 ⟨fun h => absurd rfl h, fun h => ?_⟩
        rcases h with h | h
        · exact absurd c0 h
        · exact absurd (k0.mpr h.2.2.1) d
    · rw [if_neg c0]
      exact go 1 ⟨fun _ => .inl c0, fun _ => by decide⟩
theorem isProvedM {u : MS} {D : Mdl} {P R : Nat → Prop} (Q : RQ u D P R) {p : Nat} (hp : p < 600) : ∃ x, fX12_isProved u (nI p) = some x ∧ Tf x (prv D P R p) := by
  have hq := xor1_lt hp
  have cp : Int32.toNatClampNeg (nI p) = p := nI_clamp (by omega)
  rw [fX12_isProved, fX12_isProved_0, oC_t (ix_n (show p < mlen 91 from hp) (by decide)), cp]
  rcases (Q.f1 p hp).cases with ⟨_, a2, a3⟩ | ⟨a1, a2⟩
  · rw [if_neg a2]
    exact ⟨1, rfl, .inl ⟨rfl, .inl a3⟩⟩
  · rw [if_pos a1, nI_xor1 hp, oC_t (ix_n (show p ^^^ 1 < mlen 91 from hq) (by decide)), nI_clamp (show p ^^^ 1 < 2147483648 by omega)]
    rcases (Q.f1 _ hq).cases with ⟨_, b2, b3⟩ | ⟨b1, b2⟩
    · rw [if_neg b2]
      refine ⟨0, rfl, .inr ⟨rfl, fun h => ?_⟩⟩
      rcases h with h | h
      · exact a2 h
      · exact h.1 b3
    · have ll : (chn D p).length ≤ 3750 := Nat.le_trans chn_len Q.ln
      obtain ⟨f', hf⟩ : ∃ f', FU = f' + ((chn D p).length + 1) := ⟨FU - ((chn D p).length + 1), by have : FU = 100000 := rfl; omega⟩
      obtain ⟨x, w1, w2⟩ := p33 Q hp (chn D p) 0 (mA u 87 p) f' (fun b hb => mem_chn.mp hb) (Q.ch p hp)
      rw [if_pos b1, oC_t (ix_n (show p < mlen 87 from hp) (by decide)), oL_v, hf]
      refine ⟨x, w1, w2.iff ⟨fun h => .inr ⟨b2, ?_, h.2⟩, fun h => ?_⟩⟩
      · rcases h.1 with h | ⟨a, _, h⟩
        · exact absurd rfl h
        · exact ⟨a, h⟩
      · rcases h with h | ⟨_, ⟨a, h1⟩, h2⟩
        · exact absurd h a2
        · exact ⟨.inr ⟨a, mem_chn.mpr ⟨h1.1, h1.2.1⟩, h1⟩, h2⟩
/-! against -/
theorem ag18 {u : MS} {D : Mdl} {P R : Nat → Prop} (Q : RQ u D P R) {p x : Nat} (hx : x ∈ D.ins) (hp : p < 600) : ∀ (l : List Nat) (y : Int32) (f : Nat), (∀ a, a ∈ l → a ∈ D.ins ∧ D.hd a = p) → Ch u y l → ∃ w, fX12_isAgainst_18 (f + (l.length + 1)) u (nI x) y = some w ∧ Tf w (∀ a, a ∈ l → D.k0 a → blk D R a ∨ ¬ D.hi a x)
  | [], y, f, _, hy => by
    have e : y = -1 := hy
    refine ⟨1, ?_, .inl ⟨rfl, fun a h => by cases h⟩⟩
    show fX12_isAgainst_18F (fX12_isAgainst_18 f) u (nI x) y = _
    rw [fX12_isAgainst_18F, if_pos e]
  | a :: l, y, f, hl, hy => by
    obtain ⟨e, hy⟩ := hy
    subst e
    have la := hl a (List.mem_cons_self ..)
    have ha := Q.il a la.1
    have hx' := Q.il x hx
    have x40 : ix (nI (a / 125)) (mlen 40) = true := ix_n (show a / 125 < mlen 40 by show _ < 30; omega) (by decide)
    have x90 : ix (nI a) (mlen 90) = true := ix_n (show a < mlen 90 from ha) (by decide)
    have x86 : ix (nI a) (mlen 86) = true := ix_n (show a < mlen 86 from ha) (by decide)
    have x94 : ix (nI (30 * (a / 125) + x / 125)) (mlen 94) = true := ix_n (show 30 * (a / 125) + x / 125 < mlen 94 by show _ < 900; omega) (by decide)
    have k0 := Q.k0 a la.1 (by rw [la.2]; exact hp)
    have ul : fX12_isAgainst_18 (f + ((a :: l).length + 1)) u (nI x) (nI a) = fX12_isAgainst_18F (fX12_isAgainst_18 (f + (l.length + 1))) u (nI x) (nI a) := rfl
    have go : (D.k0 a → blk D R a ∨ ¬ D.hi a x) → ∃ w, fX12_isAgainst_66 (fX12_isAgainst_18 (f + (l.length + 1))) u (nI x) (nI a) = some w ∧ Tf w (∀ b, b ∈ a :: l → D.k0 b → blk D R b ∨ ¬ D.hi b x) := by
      intro h1
      obtain ⟨w, w1, w2⟩ := ag18 Q hx hp l (mA u 86 a) f (fun b hb => hl b (List.mem_cons_of_mem _ hb)) hy
      refine ⟨w, ?_, w2.iff ⟨fun h b hb => ?_, fun h b hb => h b (List.mem_cons_of_mem _ hb)⟩⟩
      · rw [fX12_isAgainst_66, oC_t x86, nI_clamp (show a < 2147483648 by omega), oL_v]; exact w1
      · rcases List.mem_cons.mp hb with e | e
        · rw [e]; exact h1
        · exact h b e
    rw [ul, fX12_isAgainst_18F, if_neg (nI_m1 (show a < 2147483648 by omega)), nI_d125 ha, nI_d125 hx', oC_t x40, nI_clamp (show a / 125 < 2147483648 by omega), oC_t x90, nI_clamp (show a < 2147483648 by omega), nI_30, oC_t x94, nI_clamp (show 30 * (a / 125) + x / 125 < 2147483648 by omega)]
    by_cases d : mA u 40 (a / 125) = 0
    · rw [if_pos d]
      rcases (Q.b0 a la.1).cases with ⟨_, e2, e3⟩ | ⟨e1, e2⟩
      · rw [if_neg e2]; exact go fun _ => .inl e3
      · rw [if_pos e1]
        rcases (Q.h4 x a hx la.1).cases with ⟨_, f2, f3⟩ | ⟨f1, f2⟩
        · rw [if_neg f2]
          refine ⟨0, rfl, .inr ⟨rfl, fun h => ?_⟩⟩
          rcases h a (List.mem_cons_self ..) (k0.mp d) with g | g
          · exact e2 g
          · exact g f3
        · rw [if_pos f1]; exact go fun _ => .inr f2
    · rw [if_neg d]; exact go fun h => absurd (k0.mpr h) d
theorem isAgainstM {u : MS} {D : Mdl} {P R : Nat → Prop} (Q : RQ u D P R) {p x : Nat} (hx : x ∈ D.ins) (hp : p < 600) : ∃ w, fX12_isAgainst u (nI x) (nI p) = some w ∧ Tf w (agR D P R p x) := by
  have hx' := Q.il x hx
  rw [fX12_isAgainst, fX12_isAgainst_0, oC_t (ix_n (show x < mlen 89 from hx') (by decide)), nI_clamp (show x < 2147483648 by omega)]
  rcases (Q.a9 x hx).cases with ⟨_, e2, e3⟩ | ⟨e1, e2⟩
  · have ll : (chn D p).length ≤ 3750 := Nat.le_trans chn_len Q.ln
    obtain ⟨f', hf⟩ : ∃ f', FU = f' + ((chn D p).length + 1) := ⟨FU - ((chn D p).length + 1), by have : FU = 100000 := rfl; omega⟩
    obtain ⟨w, w1, w2⟩ := ag18 Q hx hp (chn D p) (mA u 87 p) f' (fun b hb => mem_chn.mp hb) (Q.ch p hp)
    rw [if_neg e2, oC_t (ix_n (show p < mlen 87 from hp) (by decide)), nI_clamp (show p < 2147483648 by omega), oL_v, hf]
    exact ⟨w, w1, w2.iff ⟨fun h => ⟨e3, fun y h1 h2 h3 => h y (mem_chn.mpr ⟨h1, h2⟩) h3⟩, fun h a ha hk => h.2 a (mem_chn.mp ha).1 (mem_chn.mp ha).2 hk⟩⟩
  · rw [if_pos e1]
    exact ⟨0, rfl, .inr ⟨rfl, fun h => e2 h.1⟩⟩
theorem r94 {u : MS} {D : Mdl} {P R : Nat → Prop} (Q : RQ u D P R) {p : Nat} (hp : p < 600) : ∀ (l : List Nat) (y : Int32) (f : Nat), (∀ a, a ∈ l → a ∈ D.ins) → Ch u y l → ∃ x, fX12_isRefuted_94 (f + (l.length + 1)) u (nI p) y = some x ∧ Tf x (∃ a, a ∈ l ∧ agR D P R p a)
  | [], y, f, _, hy => by
    have e : y = -1 := hy
    refine ⟨0, ?_, .inr ⟨rfl, fun ⟨a, h, _⟩ => by cases h⟩⟩
    show fX12_isRefuted_94F (fX12_isRefuted_94 f) u (nI p) y = _
    rw [fX12_isRefuted_94F, if_pos e]
  | a :: l, y, f, hl, hy => by
    obtain ⟨e, hy⟩ := hy
    subst e
    have la := hl a (List.mem_cons_self ..)
    have ha := Q.il a la
    have ul : fX12_isRefuted_94 (f + ((a :: l).length + 1)) u (nI p) (nI a) = fX12_isRefuted_94F (fX12_isRefuted_94 (f + (l.length + 1))) u (nI p) (nI a) := rfl
    obtain ⟨w, w1, w2⟩ := isAgainstM Q la hp
    rw [ul, fX12_isRefuted_94F, if_neg (nI_m1 (show a < 2147483648 by omega)), w1, oB_v]
    rcases w2.cases with ⟨_, g2, g3⟩ | ⟨g1, g2⟩
    · rw [if_neg g2]
      exact ⟨1, rfl, .inl ⟨rfl, a, List.mem_cons_self .., g3⟩⟩
    · obtain ⟨x, q1, q2⟩ := r94 Q hp l (mA u 86 a) f (fun b hb => hl b (List.mem_cons_of_mem _ hb)) hy
      rw [if_pos g1, oC_t (ix_n (show a < mlen 86 from ha) (by decide)), nI_clamp (show a < 2147483648 by omega), oL_v]
      refine ⟨x, q1, q2.iff ⟨fun ⟨b, h1, h2⟩ => ⟨b, List.mem_cons_of_mem _ h1, h2⟩, fun ⟨b, h1, h2⟩ => ?_⟩⟩
      rcases List.mem_cons.mp h1 with e | e
      · rw [e] at h2; exact absurd h2 g2
      · exact ⟨b, e, h2⟩
theorem r33 {u : MS} {D : Mdl} {P R : Nat → Prop} (Q : RQ u D P R) {p : Nat} (hp : p < 600) : ∀ (l : List Nat) (c y : Int32) (f : Nat), (∀ a, a ∈ l → a ∈ D.ins ∧ D.hd a = p) → Ch u y l → ∃ x, fX12_isRefuted_33 (f + (l.length + 1)) u (nI p) c y = some x ∧ Tf x ((¬ c = 0 ∧ ∀ a, a ∈ l → D.k0 a → blk D R a) ∨ ∃ a, a ∈ D.ins ∧ D.hd a = p ^^^ 1 ∧ agR D P R p a)
  | [], c, y, f, _, hy => by
    have e : y = -1 := hy
    have ul : fX12_isRefuted_33 (f + (([] : List Nat).length + 1)) u (nI p) c y = fX12_isRefuted_33F (fX12_isRefuted_33 f) u (nI p) c y := rfl
    have hq := xor1_lt hp
    rw [ul, fX12_isRefuted_33F, if_pos e]
    by_cases c0 : c = 0
    · have ll : (chn D (p ^^^ 1)).length ≤ 3750 := Nat.le_trans chn_len Q.ln
      obtain ⟨f', hf⟩ : ∃ f', FU = f' + ((chn D (p ^^^ 1)).length + 1) := ⟨FU - ((chn D (p ^^^ 1)).length + 1), by have : FU = 100000 := rfl; omega⟩
      obtain ⟨x, w1, w2⟩ := r94 Q hp (chn D (p ^^^ 1)) (mA u 87 (p ^^^ 1)) f' (fun b hb => (mem_chn.mp hb).1) (Q.ch _ hq)
      rw [if_pos c0, nI_xor1 hp, oC_t (ix_n (show p ^^^ 1 < mlen 87 from hq) (by decide)), nI_clamp (show p ^^^ 1 < 2147483648 by omega), oL_v, hf]
      refine ⟨x, w1, w2.iff ⟨fun ⟨a, h1, h2⟩ => .inr ⟨a, (mem_chn.mp h1).1, (mem_chn.mp h1).2, h2⟩, fun h => ?_⟩⟩
      rcases h with h | ⟨a, h1, h2, h3⟩
      · exact absurd c0 h.1
      · exact ⟨a, mem_chn.mpr ⟨h1, h2⟩, h3⟩
    · rw [if_neg c0]
      exact ⟨1, rfl, .inl ⟨rfl, .inl ⟨c0, fun a h => by cases h⟩⟩⟩
  | a :: l, c, y, f, hl, hy => by
    obtain ⟨e, hy⟩ := hy
    subst e
    have la := hl a (List.mem_cons_self ..)
    have ha := Q.il a la.1
    have x40 : ix (nI (a / 125)) (mlen 40) = true := ix_n (show a / 125 < mlen 40 by show _ < 30; omega) (by decide)
    have x90 : ix (nI a) (mlen 90) = true := ix_n (show a < mlen 90 from ha) (by decide)
    have x86 : ix (nI a) (mlen 86) = true := ix_n (show a < mlen 86 from ha) (by decide)
    have ul : fX12_isRefuted_33 (f + ((a :: l).length + 1)) u (nI p) c (nI a) = fX12_isRefuted_33F (fX12_isRefuted_33 (f + (l.length + 1))) u (nI p) c (nI a) := rfl
    have go : ∀ c2 : Int32, (¬ c2 = 0 ↔ ¬ c = 0 ∧ (D.k0 a → blk D R a)) → ∃ x, fX12_isRefuted_68 (fX12_isRefuted_33 (f + (l.length + 1))) u (nI p) (nI a) c2 = some x ∧ Tf x ((¬ c = 0 ∧ ∀ b, b ∈ a :: l → D.k0 b → blk D R b) ∨ ∃ b, b ∈ D.ins ∧ D.hd b = p ^^^ 1 ∧ agR D P R p b) := by
      intro c2 h2
      obtain ⟨x, q1, q2⟩ := r33 Q hp l c2 (mA u 86 a) f (fun b hb => hl b (List.mem_cons_of_mem _ hb)) hy
      refine ⟨x, ?_, q2.iff ⟨fun h => ?_, fun h => ?_⟩⟩
      · rw [fX12_isRefuted_68, oC_t x86, nI_clamp (show a < 2147483648 by omega), oL_v]; exact q1
      · rcases h with ⟨h, k⟩ | h
        · refine .inl ⟨(h2.mp h).1, fun b hb => ?_⟩
          rcases List.mem_cons.mp hb with e | e
          · rw [e]; exact (h2.mp h).2
          · exact k b e
        · exact .inr h
      · rcases h with ⟨h, k⟩ | h
        · exact .inl ⟨h2.mpr ⟨h, k a (List.mem_cons_self ..)⟩, fun b hb => k b (List.mem_cons_of_mem _ hb)⟩
        · exact .inr h
    have k0 := Q.k0 a la.1 (by rw [la.2]; exact hp)
    rw [ul, fX12_isRefuted_33F, if_neg (nI_m1 (show a < 2147483648 by omega))]
    by_cases c0 : c = 0
    · rw [if_pos c0]
      exact go 0 ⟨fun h => absurd rfl h, fun h => absurd c0 h.1⟩
    · rw [if_neg c0, nI_d125 ha, oC_t x40, nI_clamp (show a / 125 < 2147483648 by omega), oC_t x90, nI_clamp (show a < 2147483648 by omega)]
      by_cases d : mA u 40 (a / 125) = 0
      · rw [if_pos d]
        rcases (Q.b0 a la.1).cases with ⟨_, e2, e3⟩ | ⟨e1, e2⟩
        · rw [if_neg e2]
          exact go 1 ⟨fun _ => ⟨c0, fun _ => e3⟩, fun _ => by decide⟩
        · rw [if_pos e1]
          exact go 0 ⟨fun h => absurd rfl h, fun h => absurd (h.2 (k0.mp d)) e2⟩
      · rw [if_neg d]
        exact go 1 ⟨fun _ => ⟨c0, fun h => absurd (k0.mpr h) d⟩, fun _ => by decide⟩
theorem isRefutedM {u : MS} {D : Mdl} {P R : Nat → Prop} (Q : RQ u D P R) {p : Nat} (hp : p < 600) : ∃ x, fX12_isRefuted u (nI p) = some x ∧ Tf x (ref D P R p) := by
  have hq := xor1_lt hp
  have cp : Int32.toNatClampNeg (nI p) = p := nI_clamp (by omega)
  rw [fX12_isRefuted, fX12_isRefuted_0, oC_t (ix_n (show p < mlen 91 from hp) (by decide)), cp]
  rcases (Q.f1 p hp).cases with ⟨_, a2, a3⟩ | ⟨a1, a2⟩
  · rw [if_neg a2]
    exact ⟨0, rfl, .inr ⟨rfl, fun h => h.1 a3⟩⟩
  · rw [if_pos a1, nI_xor1 hp, oC_t (ix_n (show p ^^^ 1 < mlen 91 from hq) (by decide)), nI_clamp (show p ^^^ 1 < 2147483648 by omega)]
    rcases (Q.f1 _ hq).cases with ⟨_, b2, b3⟩ | ⟨b1, b2⟩
    · rw [if_neg b2]
      exact ⟨1, rfl, .inl ⟨rfl, a2, .inl b3⟩⟩
    · have ll : (chn D p).length ≤ 3750 := Nat.le_trans chn_len Q.ln
      obtain ⟨f', hf⟩ : ∃ f', FU = f' + ((chn D p).length + 1) := ⟨FU - ((chn D p).length + 1), by have : FU = 100000 := rfl; omega⟩
      obtain ⟨x, w1, w2⟩ := r33 Q hp (chn D p) 1 (mA u 87 p) f' (fun b hb => mem_chn.mp hb) (Q.ch p hp)
      rw [if_pos b1, oC_t (ix_n (show p < mlen 87 from hp) (by decide)), oL_v, hf]
      refine ⟨x, w1, w2.iff ⟨fun h => ⟨a2, .inr ?_⟩, fun h => ?_⟩⟩
      · rcases h with ⟨_, h⟩ | h
        · exact .inl fun y h1 h2 h3 => h y (mem_chn.mpr ⟨h1, h2⟩) h3
        · exact .inr h
      · rcases h.2 with h | h | h
        · exact absurd h b2
        · exact .inl ⟨by decide, fun a ha hk => h a (mem_chn.mp ha).1 (mem_chn.mp ha).2 hk⟩
        · exact .inr h
