/-! the class's rounds -/
def NM (a b : Int32) (x y : Prop) : Prop := (a ≠ 2 ∧ b = a) ∨ (a = 2 ∧ ((b = 1 ∧ x) ∨ (b = 0 ∧ ¬ x ∧ y) ∨ (b = 2 ∧ ¬ x ∧ ¬ y)))
theorem BM.ch {h h' : PH} {G : Gh} {D : Mdl} {P R : Nat → Prop} {nr : Nat} {inf' k0' : Nat → Prop} {B : Nat → Nat → Prop} {T : Nat → Prop} (M : BM h G D P R nr inf' k0' B) (c : CH G T h h') (n : ∀ i, i = 0 ∨ i = 12 ∨ i = 13 ∨ i = 14 → ¬ T i) : BM h' G D P R nr inf' k0' B := by
  have S := M.s
  have J := M.j
  have o0 := (c.own S J (show vj 0 by unfold vj; omega) (n 0 (by omega))).1
  have o12 := (c.own S J (show vj 12 by unfold vj; omega) (n 12 (by omega))).2.2.1
  have o13 := (c.own S J (show vj 13 by unfold vj; omega) (n 13 (by omega))).2.2.1
  have o14 := (c.own S J (show vj 14 by unfold vj; omega) (n 14 (by omega))).2.2.1
  apply BM.mk
  · exact c.sx S
  · exact J
  · intro p hp; rw [o13]; exact M.lv p hp
  · intro p hp; rw [o12]; exact M.pv p hp
  · rw [o0]; exact M.st
  · intro r h1 h2; rw [o14]; exact M.bt' r h1 h2
  · exact M.ho
  · exact M.hi
  · exact M.k0
theorem markC {h : PH} {G : Gh} {D : Mdl} {P R : Nat → Prop} {nr : Nat} {inf' k0' : Nat → Prop} {B : Nat → Nat → Prop} {p : Nat} (M : BM h G D P R nr inf' k0' B) (n30 : nr ≤ 30) (hp : p < 600) : ∃ x, fX5_markOf h (G.jd 0) (nI p) = some x ∧ ((x = 1 ∧ prS D P R p) ∨ (x = 0 ∧ ¬ prS D P R p ∧ reS D P R p) ∨ (x = 2 ∧ ¬ prS D P R p ∧ ¬ reS D P R p)) := by
  obtain ⟨x, x1, x2⟩ := isProvedC M hp
  obtain ⟨y, y1, y2⟩ := isRefutedC M n30 hp
  rw [fX5_markOf, fX5_markOf_0, oC_d (M.s.jt0 M.j), x1, oB_v]
  rcases x2.cases with ⟨_, g2, g3⟩ | ⟨g1, g2⟩
  · rw [if_neg g2]; exact ⟨1, rfl, .inl ⟨rfl, g3⟩⟩
  · rw [if_pos g1, y1, oB_v]
    rcases y2.cases with ⟨_, f2, f3⟩ | ⟨f1, f2⟩
    · rw [if_neg f2]; exact ⟨0, rfl, .inr (.inl ⟨rfl, g2, f3⟩)⟩
    · rw [if_pos f1]; exact ⟨2, rfl, .inr (.inr ⟨rfl, g2, f2⟩)⟩
theorem slL {h0 : PH} {G : Gh} {D : Mdl} {P R : Nat → Prop} {nr : Nat} {inf' k0' : Nat → Prop} {B : Nat → Nat → Prop} (n30 : nr ≤ 30) : ∀ m p f h c, p + m = 600 → BM h G D P R nr inf' k0' B → b01 c → (∀ q, q < 600 → (q < p → NM (hA h0 (G.jd 10) q) (hA h (G.jd 10) q) (prS D P R q) (reS D P R q)) ∧ (p ≤ q → hA h (G.jd 10) q = hA h0 (G.jd 10) q)) → (c = 1 → ∃ q, q < 600 ∧ hA h0 (G.jd 10) q = 2 ∧ ¬ hA h (G.jd 10) q = 2 ∧ q < p) → (c = 0 → ∀ q, q < p → q < 600 → hA h (G.jd 10) q = hA h0 (G.jd 10) q) → ∃ h' c', fX5_settleLiterals_4 (f + (m + 1)) h (G.jd 0) c (nI p) = some (h', c') ∧ CH G (fun k => k = 10) h h' ∧ b01 c' ∧ (∀ q, q < 600 → NM (hA h0 (G.jd 10) q) (hA h' (G.jd 10) q) (prS D P R q) (reS D P R q)) ∧ (c' = 1 → ∃ q, q < 600 ∧ hA h0 (G.jd 10) q = 2 ∧ ¬ hA h' (G.jd 10) q = 2) ∧ (c' = 0 → ∀ q, q < 600 → hA h' (G.jd 10) q = hA h0 (G.jd 10) q) := by
  intro m
  induction m with
  | zero =>
    intro p f h c e M bc V c1 c0
    have ep : p = 600 := e
    subst ep
    have ib : isB c = true := by rcases bc with h | h <;> rw [h] <;> rfl
    have ul : fX5_settleLiterals_4 (f + (0 + 1)) h (G.jd 0) c (nI 600) = fX5_settleLiterals_4F (fX5_settleLiterals_4 f) h (G.jd 0) c (nI 600) := rfl
    refine ⟨h, c, by rw [ul, fX5_settleLiterals_4F, if_pos (show (600 : Int32) ≤ nI 600 from Int32.le_refl _), oC_t ib], CH.refl G _ h, bc, fun q hq => (V q hq).1 hq, fun h1 => ?_, fun h0 q hq => c0 h0 q hq hq⟩
    obtain ⟨q, a, b, d, _⟩ := c1 h1
    exact ⟨q, a, b, d⟩
  | succ m ih =>
    intro p f h c e M bc V c1 c0
    have S := M.s
    have J := M.j
    have hp : p < 600 := by omega
    have v10 : vj 10 := by unfold vj; omega
    have cp : Int32.toNatClampNeg (nI p) = p := nI_clamp (by omega)
    have e1 : nI p + 1 = nI (p + 1) := nI_add p 1
    have x6 : ix (nI p) 600 = true := ix_n hp (by decide)
    have ul : fX5_settleLiterals_4 (f + (m + 1 + 1)) h (G.jd 0) c (nI p) = fX5_settleLiterals_4F (fX5_settleLiterals_4 (f + (m + 1))) h (G.jd 0) c (nI p) := rfl
    have vp := (V p hp).2 (Nat.le_refl _)
    rw [ul, fX5_settleLiterals_4F, if_neg (show ¬ (600 : Int32) ≤ nI p from nI_ge (b := 600) hp (by decide)), oC_d (S.jt0 J), S.jr646 J, oN_v, oC_d (S.jt10 J), S.jn10 J, oC_t x6, cp]
    by_cases a2 : hA h (G.jd 10) p = 2
    · obtain ⟨x, x1, x2⟩ := markC M n30 hp
      have xv : x = 2 ∨ x = 1 ∨ x = 0 := by rcases x2 with a | a | a <;> simp [a.1]
      have y1 := (by_s xv).1
      have ch : CH G (fun k => k = 10) h (sA h (G.jd 10) p x) := (CH.refl G (fun k => k = 10) h).sA v10 rfl
      have M1 := M.ch ch (fun i hi => by omega)
      have vx : ∀ q, hA (sA h (G.jd 10) p x) (G.jd 10) q = if q = p then x else hA h (G.jd 10) q := fun q => by simp only [z_hI_sI, z_hL_sI, z_hR_sI, z_hA_sI, z_hB_sI, z_hC_sI, z_hT_sI, z_hN_sI, z_hZ_sI, z_hI_sL, z_hL_sL, z_hR_sL, z_hA_sL, z_hB_sL, z_hC_sL, z_hT_sL, z_hN_sL, z_hZ_sL, z_hI_sR, z_hL_sR, z_hR_sR, z_hA_sR, z_hB_sR, z_hC_sR, z_hT_sR, z_hN_sR, z_hZ_sR, z_hI_sA, z_hL_sA, z_hR_sA, z_hA_sA, z_hB_sA, z_hC_sA, z_hT_sA, z_hN_sA, z_hZ_sA, z_hI_sB, z_hL_sB, z_hR_sB, z_hA_sB, z_hB_sB, z_hC_sB, z_hT_sB, z_hN_sB, z_hZ_sB, z_hI_sC, z_hL_sC, z_hR_sC, z_hA_sC, z_hB_sC, z_hC_sC, z_hT_sC, z_hN_sC, z_hZ_sC, z_hI_sY, z_hL_sY, z_hR_sY, z_hA_sY, z_hB_sY, z_hC_sY, z_hT_sY, z_hN_sY, z_hZ_sY, z_hI_nO, z_hL_nO, z_hR_nO, z_hA_nO, z_hB_nO, z_hC_nO, z_hT_nO, z_hN_nO, z_hZ_nO, z_hI_nA, z_hL_nA, z_hR_nA, z_hA_nA, z_hB_nA, z_hC_nA, z_hT_nA, z_hN_nA, z_hZ_nA, if_true, if_false, and_false, false_and, and_true, true_and, and_self, decide_true, decide_false, reduceCtorEq, not_false_eq_true, not_true_eq_false, Nat.reduceEqDiff, Nat.reduceAdd, Nat.reduceMul, Nat.add_zero, Nat.zero_add]
      have h02 : hA h0 (G.jd 10) p = 2 := by rw [← vp]; exact a2
      rw [if_pos a2, x1, oB_v, oC_t x6, y1, oL_v]
      have S1 : SX (sA h (G.jd 10) p x) G := S
      have nx : ∀ c2, b01 c2 → (c2 = 1 → (c = 1 ∨ ¬ x = 2)) → (c2 = 0 → c = 0 ∧ x = 2) → ∃ h' c', fX5_settleLiterals_53 (fX5_settleLiterals_4 (f + (m + 1))) (sA h (G.jd 10) p x) (G.jd 0) c2 (nI p) = some (h', c') ∧ CH G (fun k => k = 10) h h' ∧ b01 c' ∧ (∀ q, q < 600 → NM (hA h0 (G.jd 10) q) (hA h' (G.jd 10) q) (prS D P R q) (reS D P R q)) ∧ (c' = 1 → ∃ q, q < 600 ∧ hA h0 (G.jd 10) q = 2 ∧ ¬ hA h' (G.jd 10) q = 2) ∧ (c' = 0 → ∀ q, q < 600 → hA h' (G.jd 10) q = hA h0 (G.jd 10) q) := by
        intro c2 b2 k1 k0
        rw [fX5_settleLiterals_53, oL_v, e1]
        obtain ⟨h', c', z1, z2, z3⟩ := ih (p + 1) f (sA h (G.jd 10) p x) c2 (by omega) M1 b2 (fun q hq => by
          rw [vx]
          by_cases w : q = p
          · rw [if_pos w, w]
            exact ⟨fun _ => .inr ⟨h02, x2⟩, fun h => by omega⟩
          · rw [if_neg w]
            exact ⟨fun h => (V q hq).1 (by omega), fun h => (V q hq).2 (by omega)⟩) (fun h1 => by
          rcases k1 h1 with a | a
          · obtain ⟨q, q1, q2, q3, q4⟩ := c1 a
            exact ⟨q, q1, q2, by rw [vx, if_neg (by omega)]; exact q3, by omega⟩
          · exact ⟨p, hp, h02, by rw [vx, if_pos rfl]; exact a, by omega⟩) (fun h0' q h1 h2 => by
          rw [vx]
          by_cases w : q = p
          · rw [if_pos w, w, h02]; exact (k0 h0').2
          · rw [if_neg w]; exact c0 (k0 h0').1 q (by omega) h2)
        exact ⟨h', c', z1, ch.trans z2, z3⟩
      by_cases cz : c = 0
      · rw [if_pos cz, S1.jr646 J, oN_v, oC_d (S1.jt10 J), S1.jn10 J, oC_t x6, vx, if_pos rfl]
        by_cases x22 : x = 2
        · rw [if_pos x22, fX5_settleLiterals_52]
          exact nx 0 (.inl rfl) (fun h => absurd h (by decide)) (fun _ => ⟨cz, x22⟩)
        · rw [if_neg x22, fX5_settleLiterals_52]
          exact nx 1 (.inr rfl) (fun _ => .inr x22) (fun h => absurd h (by decide))
      · rw [if_neg cz, fX5_settleLiterals_52]
        exact nx 1 (.inr rfl) (fun _ => .inl (bc.ne cz)) (fun h => absurd h (by decide))
    · rw [if_neg a2, fX5_settleLiterals_53, oL_v, e1]
      refine ih (p + 1) f h c (by omega) M bc (fun q hq => ?_) (fun h1 => ?_) (fun h0' q h1 h2 => ?_)
      · refine ⟨fun h => ?_, fun h => (V q hq).2 (by omega)⟩
        by_cases w : q = p
        · rw [w]; exact .inl ⟨by rw [← vp]; exact a2, vp⟩
        · exact (V q hq).1 (by omega)
      · obtain ⟨q, q1, q2, q3, q4⟩ := c1 h1
        exact ⟨q, q1, q2, q3, by omega⟩
      · by_cases w : q = p
        · rw [w]; exact vp
        · exact c0 h0' q (by omega) h2
theorem litsC {h : PH} {G : Gh} {D : Mdl} {P R : Nat → Prop} {nr : Nat} {inf' k0' : Nat → Prop} {B : Nat → Nat → Prop} (M : BM h G D P R nr inf' k0' B) (n30 : nr ≤ 30) : ∃ h' c', fX5_settleLiterals h (G.jd 0) = some (h', c') ∧ CH G (fun k => k = 10) h h' ∧ b01 c' ∧ (∀ q, q < 600 → NM (hA h (G.jd 10) q) (hA h' (G.jd 10) q) (prS D P R q) (reS D P R q)) ∧ (c' = 1 → ∃ q, q < 600 ∧ hA h (G.jd 10) q = 2 ∧ ¬ hA h' (G.jd 10) q = 2) ∧ (c' = 0 → ∀ q, q < 600 → hA h' (G.jd 10) q = hA h (G.jd 10) q) :=
  slL n30 600 0 99399 h 0 rfl M (.inl rfl) (fun q hq => ⟨fun h => by omega, fun _ => rfl⟩) (fun h => absurd h (by decide)) (fun _ q h => by omega)
