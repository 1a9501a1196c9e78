/-! the class explains -/
def Cx (h : PH) (G : Gh) (D : Mdl) (R : Nat → Prop) (q x : Nat) : Prop := (D.hd x = q ∧ D.k0 x ∧ hA h (G.jd 10) q = 1) ∨ (D.hd x = q ^^^ 1 ∧ hA h (G.jd 10) q = 0 ∧ ∀ y, y ∈ D.ins → D.hd y = q → D.k0 y → blk D R y ∨ ¬ D.hi y x)
theorem gr73 {h : PH} {G : Gh} {D : Mdl} {P R : Nat → Prop} {nr : Nat} {inf' k0' : Nat → Prop} {B : Nat → Nat → Prop} {q x : Nat} (M : BM h G D P R nr inf' k0' B) (n30 : nr ≤ 30) (hq : q < 600) (hx : x ∈ D.ins) (ho : D.ho x) : ∃ h', fX5_giveReason_73 h (G.jd 0) (nI x) (nI (x / 125)) (nI q) = some h' ∧ CH G (fun k => k = 11) h h' ∧ ∃ w : Prop, (w ↔ hA h (G.jd 10) q = 0 ∧ ∀ y, y ∈ D.ins → D.hd y = q → D.k0 y → blk D R y ∨ ¬ D.hi y x) ∧ ∀ p, hA h' (G.jd 11) p = @ite _ (p = q ∧ hA h (G.jd 11) q = -1 ∧ w) (Classical.propDecidable _) (nI x) (hA h (G.jd 11) p) := by
  have S := M.s
  have J := M.j
  have v11 : vj 11 := by unfold vj; omega
  have cq : Int32.toNatClampNeg (nI q) = q := nI_clamp (by omega)
  have x6 : ix (nI q) 600 = true := ix_n hq (by decide)
  rw [fX5_giveReason_73, oC_d (S.jt0 J), S.jr646 J, oN_v, oC_d (S.jt10 J), S.jn10 J, oC_t x6, cq]
  by_cases a0 : hA h (G.jd 10) q = 0
  · rw [if_pos a0, S.jr647 J, oN_v, oC_d (S.jt11 J), S.jn11 J, oC_t x6]
    by_cases a1 : hA h (G.jd 11) q = -1
    · obtain ⟨v, v1, v2⟩ := prevailsC M n30 hq hx ho
      rw [if_pos a1, v1, oB_v]
      rcases v2.cases with ⟨_, g2, g3⟩ | ⟨g1, g2⟩
      · rw [if_neg g2, oC_t x6, oL_v]
        refine ⟨_, rfl, (CH.refl G (fun k => k = 11) h).sA v11 rfl, _, Iff.rfl, fun p => ?_⟩
        simp only [z_hI_sI, z_hL_sI, z_hR_sI, z_hA_sI, z_hB_sI, z_hC_sI, z_hT_sI, z_hN_sI, z_hZ_sI, z_hI_sL, z_hL_sL, z_hR_sL, z_hA_sL, z_hB_sL, z_hC_sL, z_hT_sL, z_hN_sL, z_hZ_sL, z_hI_sR, z_hL_sR, z_hR_sR, z_hA_sR, z_hB_sR, z_hC_sR, z_hT_sR, z_hN_sR, z_hZ_sR, z_hI_sA, z_hL_sA, z_hR_sA, z_hA_sA, z_hB_sA, z_hC_sA, z_hT_sA, z_hN_sA, z_hZ_sA, z_hI_sB, z_hL_sB, z_hR_sB, z_hA_sB, z_hB_sB, z_hC_sB, z_hT_sB, z_hN_sB, z_hZ_sB, z_hI_sC, z_hL_sC, z_hR_sC, z_hA_sC, z_hB_sC, z_hC_sC, z_hT_sC, z_hN_sC, z_hZ_sC, z_hI_sY, z_hL_sY, z_hR_sY, z_hA_sY, z_hB_sY, z_hC_sY, z_hT_sY, z_hN_sY, z_hZ_sY, z_hI_nO, z_hL_nO, z_hR_nO, z_hA_nO, z_hB_nO, z_hC_nO, z_hT_nO, z_hN_nO, z_hZ_nO, z_hI_nA, z_hL_nA, z_hR_nA, z_hA_nA, z_hB_nA, z_hC_nA, z_hT_nA, z_hN_nA, z_hZ_nA, if_true, if_false, and_false, false_and, and_true, true_and, and_self, decide_true, decide_false, reduceCtorEq, not_false_eq_true, not_true_eq_false, Nat.reduceEqDiff, Nat.reduceAdd, Nat.reduceMul, Nat.add_zero, Nat.zero_add]
        by_cases e : p = q
        · rw [if_pos e, if_pos ⟨e, a1, a0, g3⟩]
        · rw [if_neg e, if_neg (fun k => e k.1)]
      · rw [if_pos g1]
        exact ⟨h, rfl, CH.refl G _ h, _, Iff.rfl, fun p => by rw [if_neg (fun k => g2 k.2.2.2)]⟩
    · rw [if_neg a1]
      exact ⟨h, rfl, CH.refl G _ h, _, Iff.rfl, fun p => by rw [if_neg (fun k => a1 k.2.1)]⟩
  · rw [if_neg a0]
    exact ⟨h, rfl, CH.refl G _ h, _, Iff.rfl, fun p => by rw [if_neg (fun k => a0 k.2.2.1)]⟩
theorem reasonC {h : PH} {G : Gh} {D : Mdl} {P R : Nat → Prop} {nr : Nat} {inf' k0' : Nat → Prop} {B : Nat → Nat → Prop} {x : Nat} (M : BM h G D P R nr inf' k0' B) (n30 : nr ≤ 30) (hx : x ∈ D.ins) (x3 : x < 3750) (ho : D.ho x) (hd : D.hd x < 2147483648) : ∃ h', fX5_giveReason h (G.jd 0) (nI x) (nI (D.hd x)) = some h' ∧ CH G (fun k => k = 11) h h' ∧ ∀ q, q < 600 → hA h' (G.jd 11) q = @ite _ (hA h (G.jd 11) q = -1 ∧ Cx h G D R q x) (Classical.propDecidable _) (nI x) (hA h (G.jd 11) q) := by
  have S := M.s
  have J := M.j
  have v10 : vj 10 := by unfold vj; omega
  have v11 : vj 11 := by unfold vj; omega
  obtain ⟨p, ep⟩ : ∃ p, p = D.hd x := ⟨_, rfl⟩
  rw [← ep] at hd ⊢
  rw [fX5_giveReason, fX5_giveReason_0, if_neg (nI_pos hd)]
  by_cases c6 : p < 600
  · have hq := xor1_lt c6
    have xx := xor1_xor c6
    have pq : ¬ p = p ^^^ 1 := by rw [xor1 p c6]; split <;> omega
    have cp : Int32.toNatClampNeg (nI p) = p := nI_clamp hd
    have x6 : ix (nI p) 600 = true := ix_n c6 (by decide)
    obtain ⟨s, s1, s2, s3⟩ := M.st
    obtain ⟨i1, i2⟩ := M.ho x hx ho
    have kk : Nat.testBit s (x / 125) = true ↔ D.k0 x := (s3 _).trans ⟨fun a => (M.k0 x).mpr a.2.2, fun a => ⟨i1, i2, (M.k0 x).mp a⟩⟩
    have c1 : ∀ q, q < 600 → q ≠ p → q ≠ p ^^^ 1 → ¬ Cx h G D R q x := fun q hq' n1 n2 a => by
      rcases a with a | a
      · exact n1 (by rw [← a.1, ep])
      · exact n2 (by rw [ep, a.1, xor1_xor hq'])
    have cP : Cx h G D R p x ↔ D.k0 x ∧ hA h (G.jd 10) p = 1 := by
      unfold Cx
      rw [← ep]
      exact ⟨fun a => a.elim (fun a => a.2) (fun a => absurd a.1 pq), fun a => .inl ⟨rfl, a⟩⟩
    have cQ : Cx h G D R (p ^^^ 1) x ↔ hA h (G.jd 10) (p ^^^ 1) = 0 ∧ ∀ y, y ∈ D.ins → D.hd y = p ^^^ 1 → D.k0 y → blk D R y ∨ ¬ D.hi y x := by
      unfold Cx
      rw [xx, ← ep]
      exact ⟨fun a => a.elim (fun a => absurd a.1 pq) (fun a => a.2), fun a => .inr ⟨rfl, a⟩⟩
    have fin : ∀ h1, CH G (fun k => k = 11) h h1 → hA h1 (G.jd 11) (p ^^^ 1) = hA h (G.jd 11) (p ^^^ 1) → (∀ q, q < 600 → q ≠ p ^^^ 1 → hA h1 (G.jd 11) q = @ite _ (hA h (G.jd 11) q = -1 ∧ Cx h G D R q x) (Classical.propDecidable _) (nI x) (hA h (G.jd 11) q)) → ∃ h', fX5_giveReason_73 h1 (G.jd 0) (nI x) (nI (x / 125)) (nI (p ^^^ 1)) = some h' ∧ CH G (fun k => k = 11) h h' ∧ ∀ q, q < 600 → hA h' (G.jd 11) q = @ite _ (hA h (G.jd 11) q = -1 ∧ Cx h G D R q x) (Classical.propDecidable _) (nI x) (hA h (G.jd 11) q) := by
      intro h1 k1 e1 e2
      have M1 := M.ch k1 (fun i hi => by omega)
      have o10 := (k1.own S J v10 (by decide)).2.2.1
      obtain ⟨h', a1, a2, w, a3, a4⟩ := gr73 M1 n30 hq hx ho
      rw [o10] at a3
      refine ⟨h', a1, k1.trans a2, fun q hq' => ?_⟩
      rw [a4]
      by_cases n2 : q = p ^^^ 1
      · rw [n2, e1]
        by_cases d : hA h (G.jd 11) (p ^^^ 1) = -1 ∧ Cx h G D R (p ^^^ 1) x
        · rw [if_pos d, if_pos ⟨rfl, d.1, a3.mpr (cQ.mp d.2)⟩]
        · rw [if_neg d, if_neg (fun k => d ⟨k.2.1, cQ.mpr (a3.mp k.2.2)⟩)]
      · rw [if_neg (fun k => n2 k.1)]
        exact e2 q hq' n2
    rw [if_pos (show nI p < 600 from nI_lt (b := 600) c6 (by decide)), nI_d125 x3, oL_v, nI_xor1 c6, oL_v, oC_d (S.jt0 J), s1]
    by_cases kb : D.k0 x
    · rw [if_pos ((shr_bit (lt30 s2) (by omega)).mpr (kk.mpr kb)), fX5_giveReason_39, if_neg (by decide), oC_d (S.jt0 J), S.jr646 J, oN_v, oC_d (S.jt10 J), S.jn10 J, oC_t x6, cp]
      by_cases m1 : hA h (G.jd 10) p = 1
      · rw [if_pos m1, S.jr647 J, oN_v, oC_d (S.jt11 J), S.jn11 J, oC_t x6]
        by_cases r1 : hA h (G.jd 11) p = -1
        · rw [if_pos r1, oC_t x6, oL_v]
          refine fin _ ((CH.refl G (fun k => k = 11) h).sA v11 rfl) ?_ (fun q hq' n2 => ?_)
          · simp only [z_hI_sI, z_hL_sI, z_hR_sI, z_hA_sI, z_hB_sI, z_hC_sI, z_hT_sI, z_hN_sI, z_hZ_sI, z_hI_sL, z_hL_sL, z_hR_sL, z_hA_sL, z_hB_sL, z_hC_sL, z_hT_sL, z_hN_sL, z_hZ_sL, z_hI_sR, z_hL_sR, z_hR_sR, z_hA_sR, z_hB_sR, z_hC_sR, z_hT_sR, z_hN_sR, z_hZ_sR, z_hI_sA, z_hL_sA, z_hR_sA, z_hA_sA, z_hB_sA, z_hC_sA, z_hT_sA, z_hN_sA, z_hZ_sA, z_hI_sB, z_hL_sB, z_hR_sB, z_hA_sB, z_hB_sB, z_hC_sB, z_hT_sB, z_hN_sB, z_hZ_sB, z_hI_sC, z_hL_sC, z_hR_sC, z_hA_sC, z_hB_sC, z_hC_sC, z_hT_sC, z_hN_sC, z_hZ_sC, z_hI_sY, z_hL_sY, z_hR_sY, z_hA_sY, z_hB_sY, z_hC_sY, z_hT_sY, z_hN_sY, z_hZ_sY, z_hI_nO, z_hL_nO, z_hR_nO, z_hA_nO, z_hB_nO, z_hC_nO, z_hT_nO, z_hN_nO, z_hZ_nO, z_hI_nA, z_hL_nA, z_hR_nA, z_hA_nA, z_hB_nA, z_hC_nA, z_hT_nA, z_hN_nA, z_hZ_nA, if_true, if_false, and_false, false_and, and_true, true_and, and_self, decide_true, decide_false, reduceCtorEq, not_false_eq_true, not_true_eq_false, Nat.reduceEqDiff, Nat.reduceAdd, Nat.reduceMul, Nat.add_zero, Nat.zero_add]
            rw [if_neg (fun e => pq e.symm)]
          · simp only [z_hI_sI, z_hL_sI, z_hR_sI, z_hA_sI, z_hB_sI, z_hC_sI, z_hT_sI, z_hN_sI, z_hZ_sI, z_hI_sL, z_hL_sL, z_hR_sL, z_hA_sL, z_hB_sL, z_hC_sL, z_hT_sL, z_hN_sL, z_hZ_sL, z_hI_sR, z_hL_sR, z_hR_sR, z_hA_sR, z_hB_sR, z_hC_sR, z_hT_sR, z_hN_sR, z_hZ_sR, z_hI_sA, z_hL_sA, z_hR_sA, z_hA_sA, z_hB_sA, z_hC_sA, z_hT_sA, z_hN_sA, z_hZ_sA, z_hI_sB, z_hL_sB, z_hR_sB, z_hA_sB, z_hB_sB, z_hC_sB, z_hT_sB, z_hN_sB, z_hZ_sB, z_hI_sC, z_hL_sC, z_hR_sC, z_hA_sC, z_hB_sC, z_hC_sC, z_hT_sC, z_hN_sC, z_hZ_sC, z_hI_sY, z_hL_sY, z_hR_sY, z_hA_sY, z_hB_sY, z_hC_sY, z_hT_sY, z_hN_sY, z_hZ_sY, z_hI_nO, z_hL_nO, z_hR_nO, z_hA_nO, z_hB_nO, z_hC_nO, z_hT_nO, z_hN_nO, z_hZ_nO, z_hI_nA, z_hL_nA, z_hR_nA, z_hA_nA, z_hB_nA, z_hC_nA, z_hT_nA, z_hN_nA, z_hZ_nA, if_true, if_false, and_false, false_and, and_true, true_and, and_self, decide_true, decide_false, reduceCtorEq, not_false_eq_true, not_true_eq_false, Nat.reduceEqDiff, Nat.reduceAdd, Nat.reduceMul, Nat.add_zero, Nat.zero_add]
            by_cases e : q = p
            · rw [if_pos e, if_pos ⟨by rw [e]; exact r1, by rw [e]; exact cP.mpr ⟨kb, m1⟩⟩]
            · rw [if_neg e, if_neg (fun k => c1 q hq' e n2 k.2)]
        · rw [if_neg r1]
          refine fin h (CH.refl G _ h) rfl (fun q hq' n2 => ?_)
          by_cases e : q = p
          · rw [if_neg (fun k => r1 (by rw [← e]; exact k.1))]
          · rw [if_neg (fun k => c1 q hq' e n2 k.2)]
      · rw [if_neg m1]
        refine fin h (CH.refl G _ h) rfl (fun q hq' n2 => ?_)
        by_cases e : q = p
        · rw [if_neg (fun k => m1 (by have := k.2; rw [e] at this; exact (cP.mp this).2))]
        · rw [if_neg (fun k => c1 q hq' e n2 k.2)]
    · rw [if_neg (fun k => kb (kk.mp ((shr_bit (lt30 s2) (by omega)).mp k))), fX5_giveReason_39, if_pos rfl]
      refine fin h (CH.refl G _ h) rfl (fun q hq' n2 => ?_)
      by_cases e : q = p
      · rw [if_neg (fun k => kb (by have := k.2; rw [e] at this; exact (cP.mp this).1))]
      · rw [if_neg (fun k => c1 q hq' e n2 k.2)]
  · rw [if_neg (show ¬ nI p < 600 from nI_nlt (b := 600) (by omega) hd)]
    refine ⟨h, rfl, CH.refl G _ h, fun q hq' => ?_⟩
    rw [if_neg]
    rintro ⟨_, a | a⟩
    · rw [← ep] at a; omega
    · have := a.1
      have := xor1_lt hq'
      omega
