/-! why: the first instance -/
def oi : Option Nat → Int32
  | some y => nI y
  | none => -1
noncomputable def byF (D : Mdl) (p : Nat) : Option Nat := (chn D p).find? (cd fun y => D.k0 y ∧ apl D (LfP D) y)
noncomputable def agF (D : Mdl) (p : Nat) : Option Nat := (chn D (p ^^^ 1)).find? (cd (agR D (LfP D) (LfR D) p))
theorem find_y {P : Nat → Prop} {l : List Nat} {x : Nat} (h : P x) : (x :: l).find? (cd P) = some x := List.find?_cons_of_pos (cd_y h)
theorem find_n {P : Nat → Prop} {l : List Nat} {x : Nat} (h : ¬ P x) : (x :: l).find? (cd P) = l.find? (cd P) := List.find?_cons_of_neg (by rw [cd_n h]; decide)
theorem bc73 {u : MS} {D : Mdl} {P R : Nat → Prop} (Q : RQ u D P R) {p : Nat} (hp : p < 600) : ∀ (l : List Nat) (y : Int32) (f : Nat), (∀ a, a ∈ l → a ∈ D.ins ∧ D.hd a = p) → Ch u y l → fX12_because_73 (f + (l.length + 2)) u (nI p) (-1) y = fX12_because_194 u (nI p) (oi (l.find? (cd fun y => D.k0 y ∧ apl D P y)))
  | [], y, f, _, hy => by
    have e : y = -1 := hy
    have ul : fX12_because_73 (f + (([] : List Nat).length + 2)) u (nI p) (-1) y = fX12_because_73F (fX12_because_73 (f + 1)) u (nI p) (-1) y := rfl
    rw [ul, fX12_because_73F, if_pos e]
    rfl
  | a :: l, y, f, hl, hy => by
    obtain ⟨e, hy⟩ := hy
    subst e
    have la := hl a (List.mem_cons_self ..)
    have ha := Q.il a la.1
    have x40 : ix (nI (a / 125)) (mlen 40) = true := ix_n (show a / 125 < mlen 40 by show _ < 30; omega) (by decide)
    have x89 : ix (nI a) (mlen 89) = true := ix_n (show a < mlen 89 from ha) (by decide)
    have x86 : ix (nI a) (mlen 86) = true := ix_n (show a < mlen 86 from ha) (by decide)
    have ca : Int32.toNatClampNeg (nI a) = a := nI_clamp (by omega)
    have na : ¬ nI a = -1 := nI_m1 (by omega)
    have k0 := Q.k0 a la.1 (by rw [la.2]; exact hp)
    have ul : fX12_because_73 (f + ((a :: l).length + 2)) u (nI p) (-1) (nI a) = fX12_because_73F (fX12_because_73 (f + (l.length + 2))) u (nI p) (-1) (nI a) := rfl
    have no : ¬ (D.k0 a ∧ apl D P a) → fX12_because_106 (fX12_because_73 (f + (l.length + 2))) u (nI p) (-1) (nI a) = fX12_because_194 u (nI p) (oi ((a :: l).find? (cd fun y => D.k0 y ∧ apl D P y))) := by
      intro h
      rw [find_n (P := fun y => D.k0 y ∧ apl D P y) h, fX12_because_106, oC_t x86, ca, oL_v]
      exact bc73 Q hp l (mA u 86 a) f (fun b hb => hl b (List.mem_cons_of_mem _ hb)) hy
    rw [ul, fX12_because_73F, if_neg na, if_pos rfl, nI_d125 ha, oC_t x40, nI_clamp (show a / 125 < 2147483648 by omega)]
    by_cases d : mA u 40 (a / 125) = 0
    · rw [if_pos d, oC_t x89, ca]
      rcases (Q.a9 a la.1).cases with ⟨_, g2, g3⟩ | ⟨g1, g2⟩
      · have hy' : D.k0 a ∧ apl D P a := ⟨k0.mp d, g3⟩
        rw [if_neg g2, find_y (P := fun y => D.k0 y ∧ apl D P y) hy', fX12_because_106, oC_t x86, ca, oL_v]
        have ul2 : fX12_because_73 (f + (l.length + 2)) u (nI p) (nI a) (mA u 86 a) = fX12_because_73F (fX12_because_73 (f + (l.length + 1))) u (nI p) (nI a) (mA u 86 a) := rfl
        rw [ul2, fX12_because_73F]
        by_cases e : mA u 86 a = -1
        · rw [if_pos e]; rfl
        · rw [if_neg e, if_neg na]; rfl
      · rw [if_pos g1]
        exact no fun h => g2 h.2
    · rw [if_neg d]
      exact no fun h => d (k0.mpr h.1)
theorem bc163 {u : MS} {D : Mdl} {P R : Nat → Prop} (Q : RQ u D P R) {p : Nat} (hp : p < 600) : ∀ (l : List Nat) (y : Int32) (f : Nat), (∀ a, a ∈ l → a ∈ D.ins) → Ch u y l → fX12_because_163 (f + (l.length + 2)) u (nI p) (-1) y = fX12_because_194 u (nI p) (oi (l.find? (cd (agR D P R p))))
  | [], y, f, _, hy => by
    have e : y = -1 := hy
    have ul : fX12_because_163 (f + (([] : List Nat).length + 2)) u (nI p) (-1) y = fX12_because_163F (fX12_because_163 (f + 1)) u (nI p) (-1) y := rfl
    rw [ul, fX12_because_163F, if_pos e]
    rfl
  | a :: l, y, f, hl, hy => by
    obtain ⟨e, hy⟩ := hy
    subst e
    have la := hl a (List.mem_cons_self ..)
    have ha := Q.il a la
    have x86 : ix (nI a) (mlen 86) = true := ix_n (show a < mlen 86 from ha) (by decide)
    have ca : Int32.toNatClampNeg (nI a) = a := nI_clamp (by omega)
    have na : ¬ nI a = -1 := nI_m1 (by omega)
    have ul : fX12_because_163 (f + ((a :: l).length + 2)) u (nI p) (-1) (nI a) = fX12_because_163F (fX12_because_163 (f + (l.length + 2))) u (nI p) (-1) (nI a) := rfl
    obtain ⟨w, w1, w2⟩ := isAgainstM Q la hp
    rw [ul, fX12_because_163F, if_neg na, if_pos rfl, w1, oB_v]
    rcases w2.cases with ⟨_, g2, g3⟩ | ⟨g1, g2⟩
    · rw [if_neg g2, find_y g3, fX12_because_184, oC_t x86, ca, oL_v]
      have ul2 : fX12_because_163 (f + (l.length + 2)) u (nI p) (nI a) (mA u 86 a) = fX12_because_163F (fX12_because_163 (f + (l.length + 1))) u (nI p) (nI a) (mA u 86 a) := rfl
      rw [ul2, fX12_because_163F]
      by_cases e : mA u 86 a = -1
      · rw [if_pos e]; rfl
      · rw [if_neg e, if_neg na]; rfl
    · rw [if_pos g1, find_n g2, fX12_because_184, oC_t x86, ca, oL_v]
      exact bc163 Q hp l (mA u 86 a) f (fun b hb => hl b (List.mem_cons_of_mem _ hb)) hy
/-- the answer's three cells of p, nothing else -/
def BCc (u : MS) (u' : MS) (p : Nat) (k : Int32) (i : Int32) (v : Nat → Int32) : Prop := (MAg (fun k => k ≠ 95 ∧ k ≠ 105 ∧ k ≠ 106 ∧ k ≠ 107) u u') ∧ (∀ q, q ≠ p → mA u' 105 q = mA u 105 q ∧ mA u' 106 q = mA u 106 q ∧ ∀ w, w < 3 → mA u' 107 (3 * q + w) = mA u 107 (3 * q + w)) ∧ (mA u' 105 p = k) ∧ (mA u' 106 p = i) ∧ (∀ w, w < 3 → mA u' 107 (3 * p + w) = v w)
theorem BCc.ag {u : MS} {u' : MS} {p : Nat} {k : Int32} {i : Int32} {v : Nat → Int32} (X_ : BCc u u' p k i v) : MAg (fun k => k ≠ 95 ∧ k ≠ 105 ∧ k ≠ 106 ∧ k ≠ 107) u u' := X_.1
theorem BCc.o5 {u : MS} {u' : MS} {p : Nat} {k : Int32} {i : Int32} {v : Nat → Int32} (X_ : BCc u u' p k i v) : ∀ q, q ≠ p → mA u' 105 q = mA u 105 q ∧ mA u' 106 q = mA u 106 q ∧ ∀ w, w < 3 → mA u' 107 (3 * q + w) = mA u 107 (3 * q + w) := X_.2.1
theorem BCc.n5 {u : MS} {u' : MS} {p : Nat} {k : Int32} {i : Int32} {v : Nat → Int32} (X_ : BCc u u' p k i v) : mA u' 105 p = k := X_.2.2.1
theorem BCc.n6 {u : MS} {u' : MS} {p : Nat} {k : Int32} {i : Int32} {v : Nat → Int32} (X_ : BCc u u' p k i v) : mA u' 106 p = i := X_.2.2.2.1
theorem BCc.n7 {u : MS} {u' : MS} {p : Nat} {k : Int32} {i : Int32} {v : Nat → Int32} (X_ : BCc u u' p k i v) : ∀ w, w < 3 → mA u' 107 (3 * p + w) = v w := X_.2.2.2.2
theorem BCc.mk {u : MS} {u' : MS} {p : Nat} {k : Int32} {i : Int32} {v : Nat → Int32} (ag_ : MAg (fun k => k ≠ 95 ∧ k ≠ 105 ∧ k ≠ 106 ∧ k ≠ 107) u u') (o5_ : ∀ q, q ≠ p → mA u' 105 q = mA u 105 q ∧ mA u' 106 q = mA u 106 q ∧ ∀ w, w < 3 → mA u' 107 (3 * q + w) = mA u 107 (3 * q + w)) (n5_ : mA u' 105 p = k) (n6_ : mA u' 106 p = i) (n7_ : ∀ w, w < 3 → mA u' 107 (3 * p + w) = v w) : BCc u u' p k i v := ⟨ag_, o5_, n5_, n6_, n7_⟩
theorem nI_3 {a b : Nat} : 3 * nI a + nI b = nI (3 * a + b) := by
  rw [show (3 : Int32) = nI 3 from rfl, nI_mul, nI_add]
theorem bc231 {u : MS} {p : Nat} (hp : p < 600) : ∃ u', fX12_because_231 FU u (nI p) 0 = some u' ∧ MAg (fun k => k ≠ 107) u u' ∧ (∀ w, w < 3 → mA u' 107 (3 * p + w) = mA u 95 w) ∧ ∀ q, (∀ w, w < 3 → q ≠ 3 * p + w) → mA u' 107 q = mA u 107 q := by
  have st : ∀ f (x : MS) j, j < 3 → fX12_because_231 (f + 1) x (nI p) (nI j) = fX12_because_231 f (mSA x 107 (3 * p + j) (mA x 95 j)) (nI p) (nI (j + 1)) := by
    intro f x j hj
    have ul : fX12_because_231 (f + 1) x (nI p) (nI j) = fX12_because_231F (fX12_because_231 f) x (nI p) (nI j) := rfl
    rw [ul, fX12_because_231F, if_neg (show ¬ (3 : Int32) ≤ nI j from nI_ge (b := 3) hj (by decide)), oC_t (ix_n (show j < mlen 95 from hj) (by decide)), nI_3, oC_t (ix_n (show 3 * p + j < mlen 107 by show _ < 1800; omega) (by decide)), nI_clamp (show 3 * p + j < 2147483648 by omega), nI_clamp (show j < 2147483648 by omega), oL_v, oL_v, show nI j + 1 = nI (j + 1) from nI_add j 1]
  have en : ∀ f (x : MS), fX12_because_231 (f + 1) x (nI p) (nI 3) = some x := by
    intro f x
    have ul : fX12_because_231 (f + 1) x (nI p) (nI 3) = fX12_because_231F (fX12_because_231 f) x (nI p) (nI 3) := rfl
    rw [ul, fX12_because_231F, if_pos (show (3 : Int32) ≤ nI 3 from Int32.le_refl _)]
  have hf : FU = 99996 + 1 + 1 + 1 + 1 := rfl
  rw [hf, show (0 : Int32) = nI 0 from rfl, st _ _ 0 (by decide), st _ _ 1 (by decide), st _ _ 2 (by decide), en]
  refine ⟨_, rfl, (((MAg.refl u).sA (fun q => q rfl)).sA (fun q => q rfl)).sA (fun q => q rfl), ?_, ?_⟩
  · intro w hw
    simp only [z_mI_mSI, z_mL_mSI, z_mA_mSI, z_mB_mSI, z_mI_mSL, z_mL_mSL, z_mA_mSL, z_mB_mSL, z_mI_mSA, z_mL_mSA, z_mA_mSA, z_mB_mSA, z_mI_mSB, z_mL_mSB, z_mA_mSB, z_mB_mSB, if_true, if_false, and_false, false_and, and_true, true_and, and_self, decide_true, decide_false, reduceCtorEq, not_false_eq_true, not_true_eq_false, Nat.reduceEqDiff, Nat.reduceAdd, Nat.reduceMul, Nat.add_zero, Nat.zero_add]
    rcases (show w = 0 ∨ w = 1 ∨ w = 2 by omega) with e | e | e <;> subst e
    · rw [if_neg (by omega), if_neg (by omega), if_pos (by omega)]
    · rw [if_neg (by omega), if_pos (by omega)]
    · rw [if_pos (by omega)]
  · intro q hq
    have h0 := hq 0 (by decide)
    have h1 := hq 1 (by decide)
    have h2 := hq 2 (by decide)
    simp only [z_mI_mSI, z_mL_mSI, z_mA_mSI, z_mB_mSI, z_mI_mSL, z_mL_mSL, z_mA_mSL, z_mB_mSL, z_mI_mSA, z_mL_mSA, z_mA_mSA, z_mB_mSA, z_mI_mSB, z_mL_mSB, z_mA_mSB, z_mB_mSB, if_true, if_false, and_false, false_and, and_true, true_and, and_self, decide_true, decide_false, reduceCtorEq, not_false_eq_true, not_true_eq_false, Nat.reduceEqDiff, Nat.reduceAdd, Nat.reduceMul, Nat.add_zero, Nat.zero_add]
    rw [if_neg h2, if_neg h1, if_neg (by omega)]
theorem bc9 {u : MS} {p : Nat} (hp : p < 600) : ∃ u', fX12_because u (nI p) = fX12_because_9F (fX12_because_9 99996) u' (nI p) (nI 3) ∧ BCc u u' p (mA u 105 p) (-1) (fun _ => -1) ∧ mA u' 95 = mA u 95 := by
  have st : ∀ f (x : MS) j, j < 3 → fX12_because_9 (f + 1) x (nI p) (nI j) = fX12_because_9 f (mSA x 107 (3 * p + j) (-1)) (nI p) (nI (j + 1)) := by
    intro f x j hj
    have ul : fX12_because_9 (f + 1) x (nI p) (nI j) = fX12_because_9F (fX12_because_9 f) x (nI p) (nI j) := rfl
    rw [ul, fX12_because_9F, if_neg (show ¬ (3 : Int32) ≤ nI j from nI_ge (b := 3) hj (by decide)), nI_3, oC_t (ix_n (show 3 * p + j < mlen 107 by show _ < 1800; omega) (by decide)), nI_clamp (show 3 * p + j < 2147483648 by omega), oL_v, oL_v, show nI j + 1 = nI (j + 1) from nI_add j 1]
  have hf : FU = 99996 + 1 + 1 + 1 + 1 := rfl
  have en : ∀ (x : MS), fX12_because_9 (99996 + 1) x (nI p) (nI 3) = fX12_because_9F (fX12_because_9 99996) x (nI p) (nI 3) := fun _ => rfl
  rw [fX12_because, fX12_because_0, oC_t (ix_n (show p < mlen 106 from hp) (by decide)), nI_clamp (show p < 2147483648 by omega), oL_v, hf, show (0 : Int32) = nI 0 from rfl, st _ _ 0 (by decide), st _ _ 1 (by decide), st _ _ 2 (by decide), en]
  refine ⟨_, rfl, BCc.mk ?_ ?_ ?_ ?_ ?_, ?_⟩
  · exact ((((MAg.refl u).sA (fun q => q.2.2.1 rfl)).sA (fun q => q.2.2.2 rfl)).sA (fun q => q.2.2.2 rfl)).sA (fun q => q.2.2.2 rfl)
  · intro q hq
    simp only [z_mI_mSI, z_mL_mSI, z_mA_mSI, z_mB_mSI, z_mI_mSL, z_mL_mSL, z_mA_mSL, z_mB_mSL, z_mI_mSA, z_mL_mSA, z_mA_mSA, z_mB_mSA, z_mI_mSB, z_mL_mSB, z_mA_mSB, z_mB_mSB, if_true, if_false, and_false, false_and, and_true, true_and, and_self, decide_true, decide_false, reduceCtorEq, not_false_eq_true, not_true_eq_false, Nat.reduceEqDiff, Nat.reduceAdd, Nat.reduceMul, Nat.add_zero, Nat.zero_add]
    refine ⟨by rw [if_neg hq], fun w hw => ?_⟩
    rw [if_neg (by omega), if_neg (by omega), if_neg (by omega)]
  · simp only [z_mI_mSI, z_mL_mSI, z_mA_mSI, z_mB_mSI, z_mI_mSL, z_mL_mSL, z_mA_mSL, z_mB_mSL, z_mI_mSA, z_mL_mSA, z_mA_mSA, z_mB_mSA, z_mI_mSB, z_mL_mSB, z_mA_mSB, z_mB_mSB, if_true, if_false, and_false, false_and, and_true, true_and, and_self, decide_true, decide_false, reduceCtorEq, not_false_eq_true, not_true_eq_false, Nat.reduceEqDiff, Nat.reduceAdd, Nat.reduceMul, Nat.add_zero, Nat.zero_add]
  · simp only [z_mI_mSI, z_mL_mSI, z_mA_mSI, z_mB_mSI, z_mI_mSL, z_mL_mSL, z_mA_mSL, z_mB_mSL, z_mI_mSA, z_mL_mSA, z_mA_mSA, z_mB_mSA, z_mI_mSB, z_mL_mSB, z_mA_mSB, z_mB_mSB, if_true, if_false, and_false, false_and, and_true, true_and, and_self, decide_true, decide_false, reduceCtorEq, not_false_eq_true, not_true_eq_false, Nat.reduceEqDiff, Nat.reduceAdd, Nat.reduceMul, Nat.add_zero, Nat.zero_add]
  · intro w hw
    simp only [z_mI_mSI, z_mL_mSI, z_mA_mSI, z_mB_mSI, z_mI_mSL, z_mL_mSL, z_mA_mSL, z_mB_mSL, z_mI_mSA, z_mL_mSA, z_mA_mSA, z_mB_mSA, z_mI_mSB, z_mL_mSB, z_mA_mSB, z_mB_mSB, if_true, if_false, and_false, false_and, and_true, true_and, and_self, decide_true, decide_false, reduceCtorEq, not_false_eq_true, not_true_eq_false, Nat.reduceEqDiff, Nat.reduceAdd, Nat.reduceMul, Nat.add_zero, Nat.zero_add]
    rcases (show w = 0 ∨ w = 1 ∨ w = 2 by omega) with e | e | e <;> subst e
    · rw [if_neg (by omega), if_neg (by omega), if_pos (by omega)]
    · rw [if_neg (by omega), if_pos (by omega)]
    · rw [if_pos (by omega)]
  · funext i
    simp only [z_mI_mSI, z_mL_mSI, z_mA_mSI, z_mB_mSI, z_mI_mSL, z_mL_mSL, z_mA_mSL, z_mB_mSL, z_mI_mSA, z_mL_mSA, z_mA_mSA, z_mB_mSA, z_mI_mSB, z_mL_mSB, z_mA_mSB, z_mB_mSB, if_true, if_false, and_false, false_and, and_true, true_and, and_self, decide_true, decide_false, reduceCtorEq, not_false_eq_true, not_true_eq_false, Nat.reduceEqDiff, Nat.reduceAdd, Nat.reduceMul, Nat.add_zero, Nat.zero_add]
