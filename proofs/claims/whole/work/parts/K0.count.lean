/-! the rounds end -/
theorem count_le {p q : Nat → Bool} : ∀ {l : List Nat}, (∀ x, x ∈ l → q x = true → p x = true) → l.countP q ≤ l.countP p
  | [], _ => Nat.le_refl _
  | a :: l, h => by
    have ih := count_le (l := l) fun x hx => h x (List.mem_cons_of_mem _ hx)
    have ha := h a (List.mem_cons_self ..)
    rw [List.countP_cons, List.countP_cons]
    by_cases c : q a = true
    · rw [if_pos c, if_pos (ha c)]; omega
    · rw [if_neg c]; omega
theorem count_lt {p q : Nat → Bool} : ∀ {l : List Nat}, (∀ x, x ∈ l → q x = true → p x = true) → (∃ x, x ∈ l ∧ p x = true ∧ q x = false) → l.countP q < l.countP p
  | [], _, ⟨x, hx, _⟩ => by cases hx
  | a :: l, h, ⟨x, hx, h1, h2⟩ => by
    have ha := h a (List.mem_cons_self ..)
    rw [List.countP_cons, List.countP_cons]
    rcases List.mem_cons.mp hx with e | e
    · rw [← e, h1, h2]
      have := count_le (l := l) fun x hx => h x (List.mem_cons_of_mem _ hx)
      simp only [if_true]
      rw [if_neg (by decide)]
      omega
    · have := count_lt (l := l) (fun x hx => h x (List.mem_cons_of_mem _ hx)) ⟨x, e, h1, h2⟩
      by_cases c : q a = true
      · rw [if_pos c, if_pos (ha c)]; omega
      · rw [if_neg c]; omega
def cz1 (u : MS) (k : Nat) : Nat := (List.range 600).countP (fun q => decide (mA u k q = 0))
theorem cz1_le (u : MS) (k : Nat) : cz1 u k ≤ 600 := by
  have := List.countP_le_length (p := fun q => decide (mA u k q = 0)) (l := List.range 600)
  rw [List.length_range] at this
  exact this
theorem cz1_mono {u u' : MS} {k : Nat} (h : ∀ q, q < 600 → mA u' k q = 0 → mA u k q = 0) : cz1 u' k ≤ cz1 u k := by
  apply count_le
  intro x hx e
  rw [decide_eq_true_iff] at e ⊢
  exact h x (List.mem_range.mp hx) e
theorem cz1_lt {u u' : MS} {k q : Nat} (h : ∀ q, q < 600 → mA u' k q = 0 → mA u k q = 0) (hq : q < 600) (h0 : mA u k q = 0) (h1 : mA u' k q = 1) : cz1 u' k < cz1 u k := by
  apply count_lt
  · intro x hx e
    rw [decide_eq_true_iff] at e ⊢
    exact h x (List.mem_range.mp hx) e
  · refine ⟨q, List.mem_range.mpr hq, by rw [decide_eq_true_iff]; exact h0, ?_⟩
    rw [decide_eq_false_iff_not, h1]
    decide
/-- what is left to settle -/
def cz (u : MS) : Nat := cz1 u 92 + cz1 u 93
theorem GRn.cz {u u' : MS} {D : Mdl} {P R : Nat → Prop} {p : Nat} (g : GRn u u' D P R p 0 1) (b : ∀ q, q < 600 → b01 (mA u 92 q) ∧ b01 (mA u 93 q)) : cz u' < cz u := by
  have m2 : ∀ q, q < 600 → mA u' 92 q = 0 → mA u 92 q = 0 := fun q hq e => (b q hq).1.n1 fun z => by
    have := (g.n2 q hq).2.mpr (.inl z)
    rw [e] at this
    exact absurd this (by decide)
  have m3 : ∀ q, q < 600 → mA u' 93 q = 0 → mA u 93 q = 0 := fun q hq e => (b q hq).2.n1 fun z => by
    have := (g.n3 q hq).2.mpr (.inl z)
    rw [e] at this
    exact absurd this (by decide)
  have l2 := cz1_mono m2
  have l3 := cz1_mono m3
  show cz1 u' 92 + cz1 u' 93 < cz1 u 92 + cz1 u 93
  rcases g.cy rfl with h | ⟨q, hq, h | h⟩
  · exact absurd h (by decide)
  · have := cz1_lt m2 hq h.1 h.2
    omega
  · have := cz1_lt m3 hq h.1 h.2
    omega
/-- the reference between the rounds -/
def RI (u0 : MS) (u : MS) (z : Sz) (nu : Nat → Int32) (E1 : Nat → List Tok) (E2 : Nat → List Tok) (d1 : Int32) (d2 : Int32) (fa : Nat → Prop) : Prop := (SBn u0 u z nu) ∧ (∀ q, q < 600 → b01 (mA u 92 q) ∧ b01 (mA u 93 q)) ∧ (∀ r b, r < z.nr → b < z.np ^ vN u0 r → Tf (mA u 84 (125 * r + b)) (hox u0 nu E1 E2 d1 d2 z.np (125 * r + b))) ∧ (∀ p, p < 600 → Ch u (mA u 87 p) (chn (mkD u0 z nu E1 E2 d1 d2 fa) p)) ∧ (∀ r s, r < z.nr → s < z.nr → Tf (mA u 94 (30 * r + s)) (hix u0 (125 * r) (125 * s))) ∧ (∀ p, p < 600 → Tf (mA u 91 p) (fa p))
theorem RI.B {u0 : MS} {u : MS} {z : Sz} {nu : Nat → Int32} {E1 : Nat → List Tok} {E2 : Nat → List Tok} {d1 : Int32} {d2 : Int32} {fa : Nat → Prop} (X_ : RI u0 u z nu E1 E2 d1 d2 fa) : SBn u0 u z nu := X_.1
theorem RI.b23 {u0 : MS} {u : MS} {z : Sz} {nu : Nat → Int32} {E1 : Nat → List Tok} {E2 : Nat → List Tok} {d1 : Int32} {d2 : Int32} {fa : Nat → Prop} (X_ : RI u0 u z nu E1 E2 d1 d2 fa) : ∀ q, q < 600 → b01 (mA u 92 q) ∧ b01 (mA u 93 q) := X_.2.1
theorem RI.ho {u0 : MS} {u : MS} {z : Sz} {nu : Nat → Int32} {E1 : Nat → List Tok} {E2 : Nat → List Tok} {d1 : Int32} {d2 : Int32} {fa : Nat → Prop} (X_ : RI u0 u z nu E1 E2 d1 d2 fa) : ∀ r b, r < z.nr → b < z.np ^ vN u0 r → Tf (mA u 84 (125 * r + b)) (hox u0 nu E1 E2 d1 d2 z.np (125 * r + b)) := X_.2.2.1
theorem RI.ch {u0 : MS} {u : MS} {z : Sz} {nu : Nat → Int32} {E1 : Nat → List Tok} {E2 : Nat → List Tok} {d1 : Int32} {d2 : Int32} {fa : Nat → Prop} (X_ : RI u0 u z nu E1 E2 d1 d2 fa) : ∀ p, p < 600 → Ch u (mA u 87 p) (chn (mkD u0 z nu E1 E2 d1 d2 fa) p) := X_.2.2.2.1
theorem RI.h4 {u0 : MS} {u : MS} {z : Sz} {nu : Nat → Int32} {E1 : Nat → List Tok} {E2 : Nat → List Tok} {d1 : Int32} {d2 : Int32} {fa : Nat → Prop} (X_ : RI u0 u z nu E1 E2 d1 d2 fa) : ∀ r s, r < z.nr → s < z.nr → Tf (mA u 94 (30 * r + s)) (hix u0 (125 * r) (125 * s)) := X_.2.2.2.2.1
theorem RI.f1 {u0 : MS} {u : MS} {z : Sz} {nu : Nat → Int32} {E1 : Nat → List Tok} {E2 : Nat → List Tok} {d1 : Int32} {d2 : Int32} {fa : Nat → Prop} (X_ : RI u0 u z nu E1 E2 d1 d2 fa) : ∀ p, p < 600 → Tf (mA u 91 p) (fa p) := X_.2.2.2.2.2
theorem RI.mk {u0 : MS} {u : MS} {z : Sz} {nu : Nat → Int32} {E1 : Nat → List Tok} {E2 : Nat → List Tok} {d1 : Int32} {d2 : Int32} {fa : Nat → Prop} (B_ : SBn u0 u z nu) (b23_ : ∀ q, q < 600 → b01 (mA u 92 q) ∧ b01 (mA u 93 q)) (ho_ : ∀ r b, r < z.nr → b < z.np ^ vN u0 r → Tf (mA u 84 (125 * r + b)) (hox u0 nu E1 E2 d1 d2 z.np (125 * r + b))) (ch_ : ∀ p, p < 600 → Ch u (mA u 87 p) (chn (mkD u0 z nu E1 E2 d1 d2 fa) p)) (h4_ : ∀ r s, r < z.nr → s < z.nr → Tf (mA u 94 (30 * r + s)) (hix u0 (125 * r) (125 * s))) (f1_ : ∀ p, p < 600 → Tf (mA u 91 p) (fa p)) : RI u0 u z nu E1 E2 d1 d2 fa := ⟨B_, b23_, ho_, ch_, h4_, f1_⟩
def p92 (u : MS) (l : Nat) : Prop := l < 600 ∧ mA u 92 l = 1
def p93 (u : MS) (l : Nat) : Prop := l < 600 ∧ mA u 93 l = 1
