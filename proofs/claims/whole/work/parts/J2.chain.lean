/-! the reference's chains of instances -/
def Ch (u : MS) : Int32 → List Nat → Prop
  | x, [] => x = -1
  | x, a :: l => x = nI a ∧ Ch u (mA u 86 a) l
def chn (D : Mdl) (p : Nat) : List Nat := D.ins.filter (fun x => decide (D.hd x = p))
theorem mem_chn {D : Mdl} {p x : Nat} : x ∈ chn D p ↔ x ∈ D.ins ∧ D.hd x = p := by
  unfold chn
  rw [List.mem_filter, decide_eq_true_iff]
theorem chn_len {D : Mdl} {p : Nat} : (chn D p).length ≤ D.ins.length := List.length_filter_le ..
def RQ (u : MS) (D : Mdl) (P : Nat → Prop) (R : Nat → Prop) : Prop := (∀ p, p < 600 → Ch u (mA u 87 p) (chn D p)) ∧ (∀ x, x ∈ D.ins → x < 3750) ∧ (D.ins.length ≤ 3750) ∧ (∀ x, x ∈ D.ins → D.hd x < 600 → (mA u 40 (x / 125) = 0 ↔ D.k0 x)) ∧ (∀ x, x ∈ D.ins → Tf (mA u 89 x) (apl D P x)) ∧ (∀ x, x ∈ D.ins → Tf (mA u 90 x) (blk D R x)) ∧ (∀ x y, x ∈ D.ins → y ∈ D.ins → Tf (mA u 94 (30 * (y / 125) + x / 125)) (D.hi y x)) ∧ (∀ p, p < 600 → Tf (mA u 91 p) (D.fa p))
theorem RQ.ch {u : MS} {D : Mdl} {P : Nat → Prop} {R : Nat → Prop} (X_ : RQ u D P R) : ∀ p, p < 600 → Ch u (mA u 87 p) (chn D p) := X_.1
theorem RQ.il {u : MS} {D : Mdl} {P : Nat → Prop} {R : Nat → Prop} (X_ : RQ u D P R) : ∀ x, x ∈ D.ins → x < 3750 := X_.2.1
theorem RQ.ln {u : MS} {D : Mdl} {P : Nat → Prop} {R : Nat → Prop} (X_ : RQ u D P R) : D.ins.length ≤ 3750 := X_.2.2.1
theorem RQ.k0 {u : MS} {D : Mdl} {P : Nat → Prop} {R : Nat → Prop} (X_ : RQ u D P R) : ∀ x, x ∈ D.ins → D.hd x < 600 → (mA u 40 (x / 125) = 0 ↔ D.k0 x) := X_.2.2.2.1
theorem RQ.a9 {u : MS} {D : Mdl} {P : Nat → Prop} {R : Nat → Prop} (X_ : RQ u D P R) : ∀ x, x ∈ D.ins → Tf (mA u 89 x) (apl D P x) := X_.2.2.2.2.1
theorem RQ.b0 {u : MS} {D : Mdl} {P : Nat → Prop} {R : Nat → Prop} (X_ : RQ u D P R) : ∀ x, x ∈ D.ins → Tf (mA u 90 x) (blk D R x) := X_.2.2.2.2.2.1
theorem RQ.h4 {u : MS} {D : Mdl} {P : Nat → Prop} {R : Nat → Prop} (X_ : RQ u D P R) : ∀ x y, x ∈ D.ins → y ∈ D.ins → Tf (mA u 94 (30 * (y / 125) + x / 125)) (D.hi y x) := X_.2.2.2.2.2.2.1
theorem RQ.f1 {u : MS} {D : Mdl} {P : Nat → Prop} {R : Nat → Prop} (X_ : RQ u D P R) : ∀ p, p < 600 → Tf (mA u 91 p) (D.fa p) := X_.2.2.2.2.2.2.2
theorem RQ.mk {u : MS} {D : Mdl} {P : Nat → Prop} {R : Nat → Prop} (ch_ : ∀ p, p < 600 → Ch u (mA u 87 p) (chn D p)) (il_ : ∀ x, x ∈ D.ins → x < 3750) (ln_ : D.ins.length ≤ 3750) (k0_ : ∀ x, x ∈ D.ins → D.hd x < 600 → (mA u 40 (x / 125) = 0 ↔ D.k0 x)) (a9_ : ∀ x, x ∈ D.ins → Tf (mA u 89 x) (apl D P x)) (b0_ : ∀ x, x ∈ D.ins → Tf (mA u 90 x) (blk D R x)) (h4_ : ∀ x y, x ∈ D.ins → y ∈ D.ins → Tf (mA u 94 (30 * (y / 125) + x / 125)) (D.hi y x)) (f1_ : ∀ p, p < 600 → Tf (mA u 91 p) (D.fa p)) : RQ u D P R := ⟨ch_, il_, ln_, k0_, a9_, b0_, h4_, f1_⟩
theorem nI_d125 {x : Nat} (h : x < 3750) : nI x / 125 = nI (x / 125) := nI_div (b := 125) (by omega) (by decide)
theorem nI_30 {a b : Nat} : 30 * nI a + nI b = nI (30 * a + b) := by
  rw [show (30 : Int32) = nI 30 from rfl, nI_mul, nI_add]
/-- a yes or a no -/
theorem Tf.cases {x : Int32} {P : Prop} (t : Tf x P) : (x = 1 ∧ ¬ x = 0 ∧ P) ∨ (x = 0 ∧ ¬ P) := by
  rcases t with ⟨a, b⟩ | ⟨a, b⟩
  · exact .inl ⟨a, by rw [a]; decide, b⟩
  · exact .inr ⟨a, b⟩
theorem p115 {u : MS} {D : Mdl} {P R : Nat → Prop} (Q : RQ u D P R) {k94 : MS → Int32 → Int32 → Option Int32} {p x : Nat} (hx : x ∈ D.ins) (hp : p < 600) : ∀ (l : List Nat) (c y : Int32) (f : Nat), (∀ a, a ∈ l → a ∈ D.ins ∧ D.hd a = p) → Ch u y l → ∃ c', fX12_isProved_115 k94 (f + (l.length + 1)) u (nI p) (nI x) c y = fX12_isProved_189 k94 u (nI p) (nI x) c' ∧ (¬ c' = 0 ↔ ¬ c = 0 ∨ ∃ a, a ∈ l ∧ byR D P p a ∧ D.hi a x)
  | [], c, y, f, _, hy => by
    refine ⟨c, ?_, ⟨fun h => .inl h, fun h => ?_⟩⟩
    · have e : y = -1 := hy
      show fX12_isProved_115F k94 (fX12_isProved_115 k94 f) u (nI p) (nI x) c y = _
      rw [fX12_isProved_115F, if_pos e]
    · rcases h with h | ⟨a, h, _⟩
      · exact h
      · cases h
  | a :: l, c, y, f, hl, hy => by
    obtain ⟨e, hy⟩ := hy
    subst e
    have la := hl a (List.mem_cons_self ..)
    have ha := Q.il a la.1
    have hx' := Q.il x hx
    have x40 : ix (nI (a / 125)) (mlen 40) = true := ix_n (show a / 125 < mlen 40 by show _ < 30; omega) (by decide)
    have x89 : ix (nI a) (mlen 89) = true := ix_n (show a < mlen 89 from ha) (by decide)
    have x86 : ix (nI a) (mlen 86) = true := ix_n (show a < mlen 86 from ha) (by decide)
    have x94 : ix (nI (30 * (a / 125) + x / 125)) (mlen 94) = true := ix_n (show 30 * (a / 125) + x / 125 < mlen 94 by show _ < 900; omega) (by decide)
    have ul : fX12_isProved_115 k94 (f + ((a :: l).length + 1)) u (nI p) (nI x) c (nI a) = fX12_isProved_115F k94 (fX12_isProved_115 k94 (f + (l.length + 1))) u (nI p) (nI x) c (nI a) := rfl
    rw [ul, fX12_isProved_115F, if_neg (nI_m1 (show a < 2147483648 by omega))]
    by_cases c0 : c = 0
    · have go : ∀ c2 : Int32, (¬ c2 = 0 ↔ byR D P p a ∧ D.hi a x) → ∃ c', fX12_isProved_175 k94 (fX12_isProved_115 k94 (f + (l.length + 1))) u (nI p) (nI x) (nI a) c2 = fX12_isProved_189 k94 u (nI p) (nI x) c' ∧ (¬ c' = 0 ↔ ¬ c = 0 ∨ ∃ a', a' ∈ a :: l ∧ byR D P p a' ∧ D.hi a' x) := by
        intro c2 h2
        obtain ⟨c', q1, q2⟩ := p115 Q hx hp l c2 (mA u 86 a) f (fun b hb => hl b (List.mem_cons_of_mem _ hb)) hy
        refine ⟨c', ?_, q2.trans ⟨fun h => ?_, fun h => ?_⟩⟩
        · rw [fX12_isProved_175, oC_t x86, nI_clamp (show a < 2147483648 by omega), oL_v]; exact q1
        · rcases h with h | ⟨b, h, hh⟩
          · exact .inr ⟨a, List.mem_cons_self .., h2.mp h⟩
          · exact .inr ⟨b, List.mem_cons_of_mem _ h, hh⟩
        · rcases h with h | ⟨b, h, hh⟩
          · exact absurd c0 h
          · rcases List.mem_cons.mp h with e | e
            · rw [e] at hh; exact .inl (h2.mpr hh)
            · exact .inr ⟨b, e, hh⟩
      have k0 := Q.k0 a la.1 (by rw [la.2]; exact hp)
      rw [if_pos c0, nI_d125 ha, nI_d125 hx', oC_t x40, nI_clamp (show a / 125 < 2147483648 by omega), oC_t x89, nI_clamp (show a < 2147483648 by omega), nI_30, oC_t x94, nI_clamp (show 30 * (a / 125) + x / 125 < 2147483648 by omega)]
      by_cases d : mA u 40 (a / 125) = 0
      · rw [if_pos d]
        rcases (Q.a9 a la.1).cases with ⟨_, e2, e3⟩ | ⟨e1, e2⟩
        · rw [if_neg e2]
          rcases (Q.h4 x a hx la.1).cases with ⟨_, f2, f3⟩ | ⟨f1, f2⟩
          · rw [if_neg f2]
            exact go 1 ⟨fun _ => ⟨⟨la.1, la.2, k0.mp d, e3⟩, f3⟩, fun _ => by decide⟩
          · rw [if_pos f1]
            exact go 0 ⟨fun h => absurd rfl h, fun h => absurd h.2 f2⟩
        · rw [if_pos e1]
          exact go 0 ⟨fun h => absurd rfl h, fun h => absurd h.1.2.2.2 e2⟩
      · rw [if_neg d]
        exact go 0 ⟨fun h => absurd rfl h, fun h => absurd (k0.mpr h.1.2.2.1) d⟩
    · rw [if_neg c0]
      exact ⟨c, rfl, ⟨fun h => .inl h, fun _ => c0⟩⟩
theorem p94 {u : MS} {D : Mdl} {P R : Nat → Prop} (Q : RQ u D P R) {p : Nat} (hp : p < 600) : ∀ (l : List Nat) (y : Int32) (f : Nat), (∀ a, a ∈ l → a ∈ D.ins) → Ch u y l → ∃ x, fX12_isProved_94 (f + (l.length + 1)) u (nI p) y = some x ∧ Tf x (∀ a, a ∈ l → blk D R a ∨ ∃ w, byR D P p w ∧ D.hi w a)
  | [], y, f, _, hy => by
    have e : y = -1 := hy
    refine ⟨1, ?_, .inl ⟨rfl, fun a h => by cases h⟩⟩
    show fX12_isProved_94F (fX12_isProved_94 f) u (nI p) y = _
    rw [fX12_isProved_94F, if_pos e]
  | a :: l, y, f, hl, hy => by
    obtain ⟨e, hy⟩ := hy
    subst e
    have la := hl a (List.mem_cons_self ..)
    have ha := Q.il a la
    have x90 : ix (nI a) (mlen 90) = true := ix_n (show a < mlen 90 from ha) (by decide)
    have x86 : ix (nI a) (mlen 86) = true := ix_n (show a < mlen 86 from ha) (by decide)
    have x87 : ix (nI p) (mlen 87) = true := ix_n (show p < mlen 87 from hp) (by decide)
    have ul : fX12_isProved_94 (f + ((a :: l).length + 1)) u (nI p) (nI a) = fX12_isProved_94F (fX12_isProved_94 (f + (l.length + 1))) u (nI p) (nI a) := rfl
    have ll : (chn D p).length ≤ 3750 := Nat.le_trans chn_len Q.ln
    obtain ⟨f', hf⟩ : ∃ f', FU = f' + ((chn D p).length + 1) := ⟨FU - ((chn D p).length + 1), by have : FU = 100000 := rfl; omega⟩
    obtain ⟨c', q1, q2⟩ := p115 Q (k94 := fX12_isProved_94 (f + (l.length + 1))) la hp (chn D p) (mA u 90 a) (mA u 87 p) f' (fun b hb => mem_chn.mp hb) (Q.ch p hp)
    rw [ul, fX12_isProved_94F, if_neg (nI_m1 (show a < 2147483648 by omega)), oC_t x90, nI_clamp (show a < 2147483648 by omega), oL_v, oC_t x87, nI_clamp (show p < 2147483648 by omega), oL_v, hf, q1, fX12_isProved_189]
    have key : ¬ c' = 0 ↔ blk D R a ∨ ∃ w, byR D P p w ∧ D.hi w a := by
      refine q2.trans ⟨fun h => ?_, fun h => ?_⟩
      · rcases h with h | ⟨b, _, hh⟩
        · rcases (Q.b0 a la).cases with ⟨_, _, g⟩ | ⟨g, _⟩
          · exact .inl g
          · exact absurd g h
        · exact .inr ⟨b, hh⟩
      · rcases h with h | ⟨b, hh⟩
        · rcases (Q.b0 a la).cases with ⟨_, g, _⟩ | ⟨_, g⟩
          · exact .inl g
          · exact absurd h g
        · exact .inr ⟨b, mem_chn.mpr ⟨hh.1.1, hh.1.2.1⟩, hh⟩
    by_cases c0 : c' = 0
    · rw [if_pos c0]
      exact ⟨0, rfl, .inr ⟨rfl, fun h => key.mpr (h a (List.mem_cons_self ..)) c0⟩⟩
    · rw [if_neg c0, oC_t x86, nI_clamp (show a < 2147483648 by omega), oL_v]
      obtain ⟨x, w1, w2⟩ := p94 Q hp l (mA u 86 a) f (fun b hb => hl b (List.mem_cons_of_mem _ hb)) hy
      refine ⟨x, w1, w2.iff ⟨fun h b hb => ?_, fun h b hb => h b (List.mem_cons_of_mem _ hb)⟩⟩
      rcases List.mem_cons.mp hb with e | e
      · rw [e]; exact key.mp c0
      · exact h b e
