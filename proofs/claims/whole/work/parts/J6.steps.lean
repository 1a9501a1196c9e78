/-! the model of a judgment, of the reference's data -/
def insL (nr np : Nat) (v : Nat → Nat) : List Nat := (List.range nr).flatMap fun r => (List.range (np ^ v r)).map fun b => 125 * r + b
theorem mem_insL {nr np : Nat} {v : Nat → Nat} {x : Nat} : x ∈ insL nr np v ↔ ∃ r b, r < nr ∧ b < np ^ v r ∧ x = 125 * r + b := by
  unfold insL
  simp only [List.mem_flatMap, List.mem_map, List.mem_range]
  constructor
  · rintro ⟨r, hr, b, hb, e⟩
    exact ⟨r, b, hr, hb, e.symm⟩
  · rintro ⟨r, b, hr, hb, e⟩
    exact ⟨r, hr, b, hb, e.symm⟩
def btx (u : MS) (np x : Nat) : Nat → Nat := bt np (vN u (x / 125)) (x % 125)
def ltc (u : MS) (β : Nat → Nat) (i : Nat) : Nat := ltM β (mA u 52 i) (mA u 53 i) (mA u 54 i) (mA u 55 i)
def ltx (u : MS) (np x l : Nat) : Prop := ∃ i, i < cN u (x / 125) ∧ mA u 51 (6 * (x / 125) + i) = 0 ∧ l = ltc u (btx u np x) (6 * (x / 125) + i)
def hdx (u : MS) (np x : Nat) : Nat := if mA u 40 (x / 125) = 2 then 600 + 5 * (mA u 44 (x / 125)).toNatClampNeg + pM (btx u np x) (mA u 46 (x / 125)) else ltM (btx u np x) (mA u 44 (x / 125)) (mA u 45 (x / 125)) (mA u 46 (x / 125)) (mA u 47 (x / 125))
def hox (u : MS) (nu : Nat → Int32) (E1 E2 : Nat → List Tok) (d1 d2 : Int32) (np x : Nat) : Prop := inf u d1 d2 (x / 125) ∧ allP (fun i => cnP u nu E1 E2 (btx u np x) (6 * (x / 125) + i)) 0 (cN u (x / 125))
def hix (u : MS) (y x : Nat) : Prop := fX12_isHigher u (mA u 39 (y / 125)) (mA u 39 (x / 125)) (nI (y / 125)) (nI (x / 125)) = some 1
def mkD (u : MS) (z : Sz) (nu : Nat → Int32) (E1 E2 : Nat → List Tok) (d1 d2 : Int32) (fa : Nat → Prop) : Mdl := Mdl.mk (insL z.nr z.np (vN u)) (fun x => mA u 40 (x / 125) = 0) (hdx u z.np) (hox u nu E1 E2 d1 d2 z.np) (ltx u z.np) (hix u) fa (fun p => p < 600 ∧ isLit (plN u) z.nw z.np p)
theorem tf1 {x : Int32} (b : b01 x) : Tf x (x = 1) := by
  rcases b with b | b
  · exact .inr ⟨b, by rw [b]; decide⟩
  · exact .inl ⟨b, b⟩
theorem Tf.b {x : Int32} {P : Prop} (t : Tf x P) : b01 x := by
  rcases t with ⟨a, _⟩ | ⟨a, _⟩
  · exact .inr a
  · exact .inl a
theorem Tf.one {x : Int32} {P : Prop} (t : Tf x P) : x = 1 ↔ P := by
  rcases t with ⟨a, b⟩ | ⟨a, b⟩
  · exact ⟨fun _ => b, fun _ => a⟩
  · exact ⟨fun h => absurd (a.symm.trans h) (by decide), fun h => absurd h b⟩
/-! the steps of the reference: one condition -/
def g89 (k : Nat) : Prop := k ≠ 89 ∧ k ≠ 90
def set2 (u : MS) (x : Nat) (a o : Int32) : MS := mSA (mSA u 89 x a) 90 x o
theorem step206 {k2 : MS → Int32 → Option MS} {k12 : MS → Int32 → Int32 → Option MS} {k84 : MS → Int32 → Int32 → Int32 → Int32 → Option MS} {u : MS} {r b x l : Nat} {i : Nat} {a : Int32} (hx : x < 3750) (hl : l < 600) (ba : b01 a) (b0 : b01 (mA u 90 x)) (b3 : b01 (mA u 93 l)) : ∃ o, fX12_steps_176 k2 k12 k84 u (nI r) (nI b) (nI x) (nI i) (nI l) a (nI x) = k84 (set2 u x a o) (nI r) (nI b) (nI x) (nI (i + 1)) ∧ Tf o (mA u 90 x = 1 ∨ mA u 93 l = 1) := by
  have cx : Int32.toNatClampNeg (nI x) = x := nI_clamp (by omega)
  have cl : Int32.toNatClampNeg (nI l) = l := nI_clamp (by omega)
  have x89 : ix (nI x) (mlen 89) = true := ix_n (show x < mlen 89 from hx) (by decide)
  have x90 : ix (nI x) (mlen 90) = true := ix_n (show x < mlen 90 from hx) (by decide)
  have x93 : ix (nI l) (mlen 93) = true := ix_n (show l < mlen 93 from hl) (by decide)
  have e90 : mA (mSA u 89 x a) 90 x = mA u 90 x := by simp only [z_mI_mSI, z_mL_mSI, z_mA_mSI, z_mB_mSI, z_mI_mSL, z_mL_mSL, z_mA_mSL, z_mB_mSL, z_mI_mSA, z_mL_mSA, z_mA_mSA, z_mB_mSA, z_mI_mSB, z_mL_mSB, z_mA_mSB, z_mB_mSB, show ¬ (90 = 89) by decide, if_true, if_false, and_false, false_and, and_true, true_and, and_self, decide_true, decide_false, reduceCtorEq, not_false_eq_true, not_true_eq_false, Nat.reduceEqDiff, Nat.reduceAdd, Nat.reduceMul, Nat.add_zero, Nat.zero_add]
  have e93 : mA (mSA u 89 x a) 93 l = mA u 93 l := by simp only [z_mI_mSI, z_mL_mSI, z_mA_mSI, z_mB_mSI, z_mI_mSL, z_mL_mSL, z_mA_mSL, z_mB_mSL, z_mI_mSA, z_mL_mSA, z_mA_mSA, z_mB_mSA, z_mI_mSB, z_mL_mSB, z_mA_mSB, z_mB_mSB, show ¬ (93 = 89) by decide, if_true, if_false, and_false, false_and, and_true, true_and, and_self, decide_true, decide_false, reduceCtorEq, not_false_eq_true, not_true_eq_false, Nat.reduceEqDiff, Nat.reduceAdd, Nat.reduceMul, Nat.add_zero, Nat.zero_add]
  have ib : isB a = true := by rcases ba with h | h <;> rw [h] <;> rfl
  have e1 : nI i + 1 = nI (i + 1) := nI_add i 1
  have fin : ∀ o, b01 o → fX12_steps_206 k2 k12 k84 (mSA u 89 x a) (nI r) (nI b) (nI x) (nI i) o (nI x) = k84 (set2 u x a o) (nI r) (nI b) (nI x) (nI (i + 1)) := by
    intro o bo
    have io : isB o = true := by rcases bo with h | h <;> rw [h] <;> rfl
    rw [fX12_steps_206, oC_t io, oC_t x90, cx, oL_v, fX12_steps_207, oL_v, e1]
    rfl
  rw [fX12_steps_176, oC_t ib, oC_t x89, cx, oL_v, oC_t x90, e90]
  by_cases c : mA u 90 x = 0
  · rw [if_pos c, oC_t x93, cl, e93]
    by_cases d : mA u 93 l = 0
    · rw [if_pos d]
      refine ⟨0, fin 0 (.inl rfl), .inr ⟨rfl, fun h => ?_⟩⟩
      rcases h with h | h
      · rw [c] at h; exact absurd h (by decide)
      · rw [d] at h; exact absurd h (by decide)
    · rw [if_neg d]
      exact ⟨1, fin 1 (.inr rfl), .inl ⟨rfl, .inr (b3.ne d)⟩⟩
  · rw [if_neg c]
    exact ⟨1, fin 1 (.inr rfl), .inl ⟨rfl, .inl (b0.ne c)⟩⟩
