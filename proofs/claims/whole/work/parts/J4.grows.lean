/-! a round of the reference -/
theorem nI_dm {p a b : Nat} (hp : p < 600) (ha : 0 < a) (hb : a < 1000) : nI p / nI a - nI p / nI a / 5 * 5 = nI (p / a % 5) := by
  have : p / a ≤ p := Nat.div_le_self _ _
  rw [nI_div (show p < 2147483648 by omega) (show a < 2147483648 by omega), show (5 : Int32) = nI 5 from rfl, nI_mod (show p / a < 2147483648 by omega) (by decide)]
theorem isLiteralM {u : MS} {nw np p : Nat} (m18 : mI u 18 = nI np) (m19 : mI u 19 = nI nw) (h5 : np ≤ 5) (hw : nw ≤ 12) (pl : ∀ w, w < nw → ∃ k, k ≤ 2 ∧ mA u 28 w = nI k) (hp : p < 600) : ∃ x, fX12_isLiteral u (nI p) = some x ∧ Tf x (isLit (plN u) nw np p) := by
  have e0 : nI p / 50 = nI (p / 50) := nI_div (b := 50) (by omega) (by decide)
  have e1 : nI p / 10 - nI p / 10 / 5 * 5 = nI (p / 10 % 5) := nI_dm (a := 10) (b := 0) hp (by decide) (by decide)
  have e2 : nI p / 2 - nI p / 2 / 5 * 5 = nI (p / 2 % 5) := nI_dm (a := 2) (b := 0) hp (by decide) (by decide)
  rw [fX12_isLiteral, fX12_isLiteral_0, e0, e1, e2, oL_v, oL_v, oL_v, m19]
  by_cases c : p / 50 < nw
  · obtain ⟨k, k2, ek⟩ := pl (p / 50) c
    have ep : plN u (p / 50) = k := by unfold plN; rw [ek, nI_clamp (by omega)]
    have x28 : ix (nI (p / 50)) (mlen 28) = true := ix_n (show p / 50 < mlen 28 by show _ < 12; omega) (by decide)
    have sec : ∃ x, fX12_isLiteral_53 u (nI (p / 50)) (nI (p / 2 % 5)) = some x ∧ Tf x (if 1 < k then p / 2 % 5 < np else p / 2 % 5 = 0) := by
      rw [fX12_isLiteral_53, oC_t x28, nI_clamp (show p / 50 < 2147483648 by omega), ek, m18]
      by_cases d : 1 < k
      · rw [if_neg (show ¬ nI k ≤ 1 from nI_ge (a := 1) d (by omega))]
        simp only [if_pos d]
        by_cases f : p / 2 % 5 < np
        · rw [if_neg (nI_ge f (by omega))]; exact ⟨1, rfl, .inl ⟨rfl, f⟩⟩
        · rw [if_pos (nI_le (by omega) (by omega))]; exact ⟨0, rfl, .inr ⟨rfl, f⟩⟩
      · rw [if_pos (show nI k ≤ 1 from nI_le (b := 1) (by omega) (by omega))]
        simp only [if_neg d]
        by_cases f : p / 2 % 5 = 0
        · rw [f, if_pos (show nI 0 = 0 from rfl)]; exact ⟨1, rfl, .inl ⟨rfl, rfl⟩⟩
        · rw [if_neg (by rw [show (0 : Int32) = nI 0 from rfl, nI_eq (by omega) (by decide)]; exact f)]; exact ⟨0, rfl, .inr ⟨rfl, f⟩⟩
    rw [if_pos (nI_lt c (by omega)), oC_t x28, nI_clamp (show p / 50 < 2147483648 by omega), ek, m18]
    unfold isLit
    rw [ep]
    by_cases d : 0 < k
    · rw [if_neg (show ¬ nI k ≤ 0 from nI_ge (a := 0) d (by omega))]
      by_cases f : p / 10 % 5 < np
      · rw [if_neg (nI_ge f (by omega))]
        obtain ⟨x, s1, s2⟩ := sec
        exact ⟨x, s1, s2.iff ⟨fun h => ⟨c, by rw [if_pos d]; exact f, h⟩, fun h => h.2.2⟩⟩
      · rw [if_pos (nI_le (by omega) (by omega))]
        exact ⟨0, rfl, .inr ⟨rfl, fun h => f (by have := h.2.1; rw [if_pos d] at this; exact this)⟩⟩
    · rw [if_pos (show nI k ≤ 0 from nI_le (b := 0) (by omega) (by omega))]
      by_cases f : p / 10 % 5 = 0
      · rw [f, if_pos (show nI 0 = 0 from rfl)]
        obtain ⟨x, s1, s2⟩ := sec
        exact ⟨x, s1, s2.iff ⟨fun h => ⟨c, by rw [if_neg d], h⟩, fun h => h.2.2⟩⟩
      · rw [if_neg (by rw [show (0 : Int32) = nI 0 from rfl, nI_eq (by omega) (by decide)]; exact f)]
        exact ⟨0, rfl, .inr ⟨rfl, fun h => f (by have := h.2.1; rw [if_neg d] at this; exact this)⟩⟩
  · rw [if_neg (nI_nlt (by omega) (by omega))]
    exact ⟨0, rfl, .inr ⟨rfl, fun h => c h.1⟩⟩
def g92 (k : Nat) : Prop := k ≠ 92 ∧ k ≠ 93
theorem RQ.fr {u u' : MS} {D : Mdl} {P R : Nat → Prop} (Q : RQ u D P R) (g : MAg g92 u u') : RQ u' D P R := by
  have m : ∀ k, g92 k → ∀ i, mA u' k i = mA u k i := fun k hk => (g k hk).2.2.1
  have m86 := m 86 (by unfold g92; omega)
  have cc : ∀ l x, Ch u x l → Ch u' x l := by
    intro l
    induction l with
    | nil => exact fun x h => h
    | cons a l ih => exact fun x h => ⟨h.1, by rw [m86]; exact ih _ h.2⟩
  apply RQ.mk
  · intro p hp; rw [m 87 (by unfold g92; omega)]; exact cc _ _ (Q.ch p hp)
  · exact Q.il
  · exact Q.ln
  · intro x hx hh; rw [m 40 (by unfold g92; omega)]; exact Q.k0 x hx hh
  · intro x hx; rw [m 89 (by unfold g92; omega)]; exact Q.a9 x hx
  · intro x hx; rw [m 90 (by unfold g92; omega)]; exact Q.b0 x hx
  · intro x y hx hy; rw [m 94 (by unfold g92; omega)]; exact Q.h4 x y hx hy
  · intro p hp; rw [m 91 (by unfold g92; omega)]; exact Q.f1 p hp
def GL (u : MS) (D : Mdl) (nw : Nat) (np : Nat) : Prop := (mI u 18 = nI np) ∧ (mI u 19 = nI nw) ∧ (np ≤ 5) ∧ (nw ≤ 12) ∧ (∀ w, w < nw → ∃ k, k ≤ 2 ∧ mA u 28 w = nI k) ∧ (∀ p, p < 600 → (D.li p ↔ isLit (plN u) nw np p))
theorem GL.m18 {u : MS} {D : Mdl} {nw : Nat} {np : Nat} (X_ : GL u D nw np) : mI u 18 = nI np := X_.1
theorem GL.m19 {u : MS} {D : Mdl} {nw : Nat} {np : Nat} (X_ : GL u D nw np) : mI u 19 = nI nw := X_.2.1
theorem GL.h5 {u : MS} {D : Mdl} {nw : Nat} {np : Nat} (X_ : GL u D nw np) : np ≤ 5 := X_.2.2.1
theorem GL.hw {u : MS} {D : Mdl} {nw : Nat} {np : Nat} (X_ : GL u D nw np) : nw ≤ 12 := X_.2.2.2.1
theorem GL.pl {u : MS} {D : Mdl} {nw : Nat} {np : Nat} (X_ : GL u D nw np) : ∀ w, w < nw → ∃ k, k ≤ 2 ∧ mA u 28 w = nI k := X_.2.2.2.2.1
theorem GL.li {u : MS} {D : Mdl} {nw : Nat} {np : Nat} (X_ : GL u D nw np) : ∀ p, p < 600 → (D.li p ↔ isLit (plN u) nw np p) := X_.2.2.2.2.2
theorem GL.mk {u : MS} {D : Mdl} {nw : Nat} {np : Nat} (m18_ : mI u 18 = nI np) (m19_ : mI u 19 = nI nw) (h5_ : np ≤ 5) (hw_ : nw ≤ 12) (pl_ : ∀ w, w < nw → ∃ k, k ≤ 2 ∧ mA u 28 w = nI k) (li_ : ∀ p, p < 600 → (D.li p ↔ isLit (plN u) nw np p)) : GL u D nw np := ⟨m18_, m19_, h5_, hw_, pl_, li_⟩
theorem GL.fr {u u' : MS} {D : Mdl} {nw np : Nat} (L : GL u D nw np) (e18 : mI u' 18 = mI u 18) (e19 : mI u' 19 = mI u 19) (e28 : ∀ i, mA u' 28 i = mA u 28 i) : GL u' D nw np := by
  apply GL.mk
  · rw [e18]; exact L.m18
  · rw [e19]; exact L.m19
  · exact L.h5
  · exact L.hw
  · intro w hw; rw [e28]; exact L.pl w hw
  · intro p hp
    have : plN u' = plN u := by funext w; unfold plN; rw [e28]
    rw [this]; exact L.li p hp
def b01 (x : Int32) : Prop := x = 0 ∨ x = 1
/-- from p on: what is new -/
def GRn (u : MS) (u' : MS) (D : Mdl) (P : Nat → Prop) (R : Nat → Prop) (p : Nat) (c : Int32) (c' : Int32) : Prop := (MAg g92 u u') ∧ (∀ q, q < 600 → b01 (mA u' 92 q) ∧ (mA u' 92 q = 1 ↔ mA u 92 q = 1 ∨ (p ≤ q ∧ D.li q ∧ prv D P R q))) ∧ (∀ q, q < 600 → b01 (mA u' 93 q) ∧ (mA u' 93 q = 1 ↔ mA u 93 q = 1 ∨ (p ≤ q ∧ D.li q ∧ ref D P R q))) ∧ (b01 c') ∧ (c' = 0 → c = 0 ∧ (∀ q, q < 600 → mA u' 92 q = mA u 92 q ∧ mA u' 93 q = mA u 93 q)) ∧ (c' = 1 → c = 1 ∨ ∃ q, q < 600 ∧ ((mA u 92 q = 0 ∧ mA u' 92 q = 1) ∨ (mA u 93 q = 0 ∧ mA u' 93 q = 1)))
theorem GRn.ag {u : MS} {u' : MS} {D : Mdl} {P : Nat → Prop} {R : Nat → Prop} {p : Nat} {c : Int32} {c' : Int32} (X_ : GRn u u' D P R p c c') : MAg g92 u u' := X_.1
theorem GRn.n2 {u : MS} {u' : MS} {D : Mdl} {P : Nat → Prop} {R : Nat → Prop} {p : Nat} {c : Int32} {c' : Int32} (X_ : GRn u u' D P R p c c') : ∀ q, q < 600 → b01 (mA u' 92 q) ∧ (mA u' 92 q = 1 ↔ mA u 92 q = 1 ∨ (p ≤ q ∧ D.li q ∧ prv D P R q)) := X_.2.1
theorem GRn.n3 {u : MS} {u' : MS} {D : Mdl} {P : Nat → Prop} {R : Nat → Prop} {p : Nat} {c : Int32} {c' : Int32} (X_ : GRn u u' D P R p c c') : ∀ q, q < 600 → b01 (mA u' 93 q) ∧ (mA u' 93 q = 1 ↔ mA u 93 q = 1 ∨ (p ≤ q ∧ D.li q ∧ ref D P R q)) := X_.2.2.1
theorem GRn.cb {u : MS} {u' : MS} {D : Mdl} {P : Nat → Prop} {R : Nat → Prop} {p : Nat} {c : Int32} {c' : Int32} (X_ : GRn u u' D P R p c c') : b01 c' := X_.2.2.2.1
theorem GRn.cn {u : MS} {u' : MS} {D : Mdl} {P : Nat → Prop} {R : Nat → Prop} {p : Nat} {c : Int32} {c' : Int32} (X_ : GRn u u' D P R p c c') : c' = 0 → c = 0 ∧ (∀ q, q < 600 → mA u' 92 q = mA u 92 q ∧ mA u' 93 q = mA u 93 q) := X_.2.2.2.2.1
theorem GRn.cy {u : MS} {u' : MS} {D : Mdl} {P : Nat → Prop} {R : Nat → Prop} {p : Nat} {c : Int32} {c' : Int32} (X_ : GRn u u' D P R p c c') : c' = 1 → c = 1 ∨ ∃ q, q < 600 ∧ ((mA u 92 q = 0 ∧ mA u' 92 q = 1) ∨ (mA u 93 q = 0 ∧ mA u' 93 q = 1)) := X_.2.2.2.2.2
theorem GRn.mk {u : MS} {u' : MS} {D : Mdl} {P : Nat → Prop} {R : Nat → Prop} {p : Nat} {c : Int32} {c' : Int32} (ag_ : MAg g92 u u') (n2_ : ∀ q, q < 600 → b01 (mA u' 92 q) ∧ (mA u' 92 q = 1 ↔ mA u 92 q = 1 ∨ (p ≤ q ∧ D.li q ∧ prv D P R q))) (n3_ : ∀ q, q < 600 → b01 (mA u' 93 q) ∧ (mA u' 93 q = 1 ↔ mA u 93 q = 1 ∨ (p ≤ q ∧ D.li q ∧ ref D P R q))) (cb_ : b01 c') (cn_ : c' = 0 → c = 0 ∧ (∀ q, q < 600 → mA u' 92 q = mA u 92 q ∧ mA u' 93 q = mA u 93 q)) (cy_ : c' = 1 → c = 1 ∨ ∃ q, q < 600 ∧ ((mA u 92 q = 0 ∧ mA u' 92 q = 1) ∨ (mA u 93 q = 0 ∧ mA u' 93 q = 1))) : GRn u u' D P R p c c' := ⟨ag_, n2_, n3_, cb_, cn_, cy_⟩
