def gI8 (k : Nat) : Prop := k ≠ 84 ∧ k ≠ 85 ∧ k ≠ 86 ∧ k ≠ 87 ∧ k ≠ 88 ∧ k ≠ 89 ∧ k ≠ 90
theorem hdx_v {u0 : MS} {np r b : Nat} (hb : b < 125) : hdx u0 np (125 * r + b) = if mA u0 40 r = 2 then 600 + 5 * (mA u0 44 r).toNatClampNeg + pM (bt np (vN u0 r) b) (mA u0 46 r) else ltM (bt np (vN u0 r) b) (mA u0 44 r) (mA u0 45 r) (mA u0 46 r) (mA u0 47 r) := by
  have id := inst_n (r := r) (b := b) hb
  unfold hdx btx
  rw [id.1, id.2]
theorem inst122 {h0 : PH} {u0 u : MS} {G : Gh} {z : Sz} {nu : Nat → Int32} {r b : Nat} {l : List Nat} {d1 d2 x4 s0 : Int32} {k2 : MS → Int32 → Int32 → Int32 → Option MS} {k72 : MS → Int32 → Int32 → Int32 → Int32 → Int32 → Option MS} (K : KR h0 u0 G z) (zo : z.ok) (hr : r < z.nr) (hb : b < z.np ^ vN u0 r) (M : MC u (bt z.np (vN u0 r) b) (vN u0 r) z.np nu) (g : MAg kS u0 u) (I : ICn u (hdx u0 z.np) l (125 * r + b)) (bs : b01 s0) : ∃ u', fX12_instantiates_122 k2 k72 u d1 d2 (nI r) x4 (nI b) (nI (125 * r + b)) s0 (nI (125 * r + b)) = k72 u' d1 d2 (nI r) x4 (nI (b + 1)) ∧ MAg gI8 u u' ∧ (∀ a, mA u' 84 a = if a = 125 * r + b then s0 else mA u 84 a) ∧ ICn u' (hdx u0 z.np) (l ++ [125 * r + b]) (125 * r + b + 1) := by
  have nr := zo.2.2.2.2.1
  obtain ⟨m42, v3, m41, c6⟩ := ruV K hr
  have h125 := pow_le zo.1 v3
  obtain ⟨l', kk, n, v, h1, h2, h3, h4, h5, h6, h7, h8, h9, ha, hb', hc', hd, he, hf⟩ := K.ru r hr
  have ev : vN u0 r = v := by unfold vN; rw [hd, nI_clamp (by omega)]
  have hx : 125 * r + b < 3750 := by omega
  have hv := hdx_v (u0 := u0) (np := z.np) (r := r) (b := b) (by omega)
  obtain ⟨x, ex⟩ : ∃ x, x = 125 * r + b := ⟨_, rfl⟩
  rw [← ex] at I hx hv ⊢
  have cx : Int32.toNatClampNeg (nI x) = x := nI_clamp (by omega)
  have cr : Int32.toNatClampNeg (nI r) = r := nI_clamp (by omega)
  have xx : ∀ s, mlen s = 3750 → ix (nI x) (mlen s) = true := fun s hs => ix_n (by rw [hs]; exact hx) (by rw [hs]; decide)
  have xr : ∀ s, mlen s = 30 → ix (nI r) (mlen s) = true := fun s hs => ix_n (by rw [hs]; omega) (by rw [hs]; decide)
  have ib : isB s0 = true := by rcases bs with h | h <;> rw [h] <;> rfl
  have e1 : nI b + 1 = nI (b + 1) := nI_add b 1
  rw [fX12_instantiates_122, oC_t ib, oC_t (xx 84 rfl), cx, oL_v, oC_t (xx 89 rfl), oL_v, oC_t (xx 90 rfl), oL_v, oC_t (xx 86 rfl), oL_v, oC_t (xr 40 rfl), cr]
  have A : MAg gI8 u (mSA (mSA (mSA (mSA u 84 x s0) 89 x 0) 90 x 0) 86 x (-1)) := ((((MAg.refl u).sA (fun q => q.1 rfl)).sA (fun q => q.2.2.2.2.2.1 rfl)).sA (fun q => q.2.2.2.2.2.2 rfl)).sA (fun q => q.2.2.1 rfl)
  have a84 : ∀ a, mA (mSA (mSA (mSA (mSA u 84 x s0) 89 x 0) 90 x 0) 86 x (-1)) 84 a = if a = x then s0 else mA u 84 a := fun a => by simp only [z_mI_mSI, z_mL_mSI, z_mA_mSI, z_mB_mSI, z_mI_mSL, z_mL_mSL, z_mA_mSL, z_mB_mSL, z_mI_mSA, z_mL_mSA, z_mA_mSA, z_mB_mSA, z_mI_mSB, z_mL_mSB, z_mA_mSB, z_mB_mSB, show ¬ (84 = 86) by decide, show ¬ (84 = 90) by decide, show ¬ (84 = 89) by decide, if_true, if_false, and_false, false_and, and_true, true_and, and_self, decide_true, decide_false, reduceCtorEq, not_false_eq_true, not_true_eq_false, Nat.reduceEqDiff, Nat.reduceAdd, Nat.reduceMul, Nat.add_zero, Nat.zero_add]
  have a86 : ∀ a, mA (mSA (mSA (mSA (mSA u 84 x s0) 89 x 0) 90 x 0) 86 x (-1)) 86 a = if a = x then -1 else mA u 86 a := fun a => by simp only [z_mI_mSI, z_mL_mSI, z_mA_mSI, z_mB_mSI, z_mI_mSL, z_mL_mSL, z_mA_mSL, z_mB_mSL, z_mI_mSA, z_mL_mSA, z_mA_mSA, z_mB_mSA, z_mI_mSB, z_mL_mSB, z_mA_mSB, z_mB_mSB, show ¬ (86 = 84) by decide, show ¬ (86 = 90) by decide, show ¬ (86 = 89) by decide, if_true, if_false, and_false, false_and, and_true, true_and, and_self, decide_true, decide_false, reduceCtorEq, not_false_eq_true, not_true_eq_false, Nat.reduceEqDiff, Nat.reduceAdd, Nat.reduceMul, Nat.add_zero, Nat.zero_add]
  have a87 : ∀ a, mA (mSA (mSA (mSA (mSA u 84 x s0) 89 x 0) 90 x 0) 86 x (-1)) 87 a = mA u 87 a := fun a => by simp only [z_mI_mSI, z_mL_mSI, z_mA_mSI, z_mB_mSI, z_mI_mSL, z_mL_mSL, z_mA_mSL, z_mB_mSL, z_mI_mSA, z_mL_mSA, z_mA_mSA, z_mB_mSA, z_mI_mSB, z_mL_mSB, z_mA_mSB, z_mB_mSB, show ¬ (87 = 84) by decide, show ¬ (87 = 90) by decide, show ¬ (87 = 89) by decide, show ¬ (87 = 86) by decide, if_true, if_false, and_false, false_and, and_true, true_and, and_self, decide_true, decide_false, reduceCtorEq, not_false_eq_true, not_true_eq_false, Nat.reduceEqDiff, Nat.reduceAdd, Nat.reduceMul, Nat.add_zero, Nat.zero_add]
  have a88 : ∀ a, mA (mSA (mSA (mSA (mSA u 84 x s0) 89 x 0) 90 x 0) 86 x (-1)) 88 a = mA u 88 a := fun a => by simp only [z_mI_mSI, z_mL_mSI, z_mA_mSI, z_mB_mSI, z_mI_mSL, z_mL_mSL, z_mA_mSL, z_mB_mSL, z_mI_mSA, z_mL_mSA, z_mA_mSA, z_mB_mSA, z_mI_mSB, z_mL_mSB, z_mA_mSB, z_mB_mSB, show ¬ (88 = 84) by decide, show ¬ (88 = 90) by decide, show ¬ (88 = 89) by decide, show ¬ (88 = 86) by decide, if_true, if_false, and_false, false_and, and_true, true_and, and_self, decide_true, decide_false, reduceCtorEq, not_false_eq_true, not_true_eq_false, Nat.reduceEqDiff, Nat.reduceAdd, Nat.reduceMul, Nat.add_zero, Nat.zero_add]
  generalize mSA (mSA (mSA (mSA u 84 x s0) 89 x 0) 90 x 0) 86 x (-1) = w at A a84 a86 a87 a88 ⊢
  have k0 : ∀ q, kS q → ∀ i, mA w q i = mA u0 q i := fun q hq i => ((A q (by unfold kS at hq; unfold gI8; omega)).2.2.1 i).trans ((g q hq).2.2.1 i)
  have Mw : MC w (bt z.np (vN u0 r) b) (vN u0 r) z.np nu := M.ch A (by unfold gI8; omega) (by unfold gI8; omega)
  rw [k0 40 (by unfold kS; omega)]
  by_cases c2 : mA u0 40 r = 2
  · rw [if_pos c2, fX12_instantiates_245, oL_v, e1]
    rw [if_pos c2] at hv
    refine ⟨w, rfl, A, a84, I.skip (by omega) (fun a h => by rw [a86, if_neg h]) a87 a88⟩
  · rw [if_neg c2] at hv
    have LT : LtR u0 z v (hI h0 257 (G.hd r)) (hI h0 258 (G.hd r)) (hI h0 259 (G.hd r)) (hI h0 260 (G.hd r)) (mA u0 44 r) (mA u0 45 r) (mA u0 46 r) (mA u0 47 r) := by
      rcases he with q | q
      · exact q.2
      · exact absurd q.1 c2
    rw [← ev] at LT
    have lm := LT.m Mw zo
    have ll := LT.lit (β := bt z.np (vN u0 r) b) zo (fun w hw => (Mw.b w hw).2)
    rw [← hv] at lm ll
    obtain ⟨p, ep⟩ : ∃ p, p = hdx u0 z.np x := ⟨_, rfl⟩
    rw [← ep] at lm ll
    have hp := ll.2
    have cp : Int32.toNatClampNeg (nI p) = p := nI_clamp (by omega)
    have xp : ∀ s, mlen s = 600 → ix (nI p) (mlen s) = true := fun s hs => ix_n (by rw [hs]; exact hp) (by rw [hs]; decide)
    rw [if_neg c2, oC_t (xr 44 rfl), oC_t (xr 45 rfl), oC_t (xr 46 rfl), oC_t (xr 47 rfl), k0 44 (by unfold kS; omega), k0 45 (by unfold kS; omega), k0 46 (by unfold kS; omega), k0 47 (by unfold kS; omega), lm, oB_v, oC_t (xx 85 rfl), oL_v, oC_t (xp 87 rfl), cp]
    have A2 : MAg gI8 w (mSA w 85 x (nI p)) := (MAg.refl w).sA (fun q => q.2.1 rfl)
    have b84 : ∀ a, mA (mSA w 85 x (nI p)) 84 a = mA w 84 a := fun a => by simp only [z_mI_mSI, z_mL_mSI, z_mA_mSI, z_mB_mSI, z_mI_mSL, z_mL_mSL, z_mA_mSL, z_mB_mSL, z_mI_mSA, z_mL_mSA, z_mA_mSA, z_mB_mSA, z_mI_mSB, z_mL_mSB, z_mA_mSB, z_mB_mSB, show ¬ (84 = 85) by decide, if_true, if_false, and_false, false_and, and_true, true_and, and_self, decide_true, decide_false, reduceCtorEq, not_false_eq_true, not_true_eq_false, Nat.reduceEqDiff, Nat.reduceAdd, Nat.reduceMul, Nat.add_zero, Nat.zero_add]
    have b86 : ∀ a, mA (mSA w 85 x (nI p)) 86 a = mA w 86 a := fun a => by simp only [z_mI_mSI, z_mL_mSI, z_mA_mSI, z_mB_mSI, z_mI_mSL, z_mL_mSL, z_mA_mSL, z_mB_mSL, z_mI_mSA, z_mL_mSA, z_mA_mSA, z_mB_mSA, z_mI_mSB, z_mL_mSB, z_mA_mSB, z_mB_mSB, show ¬ (86 = 85) by decide, if_true, if_false, and_false, false_and, and_true, true_and, and_self, decide_true, decide_false, reduceCtorEq, not_false_eq_true, not_true_eq_false, Nat.reduceEqDiff, Nat.reduceAdd, Nat.reduceMul, Nat.add_zero, Nat.zero_add]
    have b87 : ∀ a, mA (mSA w 85 x (nI p)) 87 a = mA w 87 a := fun a => by simp only [z_mI_mSI, z_mL_mSI, z_mA_mSI, z_mB_mSI, z_mI_mSL, z_mL_mSL, z_mA_mSL, z_mB_mSL, z_mI_mSA, z_mL_mSA, z_mA_mSA, z_mB_mSA, z_mI_mSB, z_mL_mSB, z_mA_mSB, z_mB_mSB, show ¬ (87 = 85) by decide, if_true, if_false, and_false, false_and, and_true, true_and, and_self, decide_true, decide_false, reduceCtorEq, not_false_eq_true, not_true_eq_false, Nat.reduceEqDiff, Nat.reduceAdd, Nat.reduceMul, Nat.add_zero, Nat.zero_add]
    have b88 : ∀ a, mA (mSA w 85 x (nI p)) 88 a = mA w 88 a := fun a => by simp only [z_mI_mSI, z_mL_mSI, z_mA_mSI, z_mB_mSI, z_mI_mSL, z_mL_mSL, z_mA_mSL, z_mB_mSL, z_mI_mSA, z_mL_mSA, z_mA_mSA, z_mB_mSA, z_mI_mSB, z_mL_mSB, z_mA_mSB, z_mB_mSB, show ¬ (88 = 85) by decide, if_true, if_false, and_false, false_and, and_true, true_and, and_self, decide_true, decide_false, reduceCtorEq, not_false_eq_true, not_true_eq_false, Nat.reduceEqDiff, Nat.reduceAdd, Nat.reduceMul, Nat.add_zero, Nat.zero_add]
    generalize mSA w 85 x (nI p) = y at A2 b84 b86 b87 b88 ⊢
    by_cases c3 : mA y 87 p = -1
    · have e0 : mA u 87 (hdx u0 z.np x) = -1 := by rw [← ep, ← a87, ← b87]; exact c3
      rw [if_pos c3, oC_t (xp 87 rfl), oL_v, fX12_instantiates_236, oC_t (xp 88 rfl), cp, oL_v, fX12_instantiates_245, oL_v, e1]
      refine ⟨_, rfl, (A.trans A2).trans (((MAg.refl y).sA (fun q => q.2.2.2.1 rfl)).sA (fun q => q.2.2.2.2.1 rfl)), ?_, I.first hx e0 ?_ ?_ ?_⟩
      · intro a; rw [← a84, ← b84]; simp only [z_mI_mSI, z_mL_mSI, z_mA_mSI, z_mB_mSI, z_mI_mSL, z_mL_mSL, z_mA_mSL, z_mB_mSL, z_mI_mSA, z_mL_mSA, z_mA_mSA, z_mB_mSA, z_mI_mSB, z_mL_mSB, z_mA_mSB, z_mB_mSB, show ¬ (84 = 87) by decide, show ¬ (84 = 88) by decide, if_true, if_false, and_false, false_and, and_true, true_and, and_self, decide_true, decide_false, reduceCtorEq, not_false_eq_true, not_true_eq_false, Nat.reduceEqDiff, Nat.reduceAdd, Nat.reduceMul, Nat.add_zero, Nat.zero_add]
      · intro a; rw [← a86, ← b86]; simp only [z_mI_mSI, z_mL_mSI, z_mA_mSI, z_mB_mSI, z_mI_mSL, z_mL_mSL, z_mA_mSL, z_mB_mSL, z_mI_mSA, z_mL_mSA, z_mA_mSA, z_mB_mSA, z_mI_mSB, z_mL_mSB, z_mA_mSB, z_mB_mSB, show ¬ (86 = 87) by decide, show ¬ (86 = 88) by decide, if_true, if_false, and_false, false_and, and_true, true_and, and_self, decide_true, decide_false, reduceCtorEq, not_false_eq_true, not_true_eq_false, Nat.reduceEqDiff, Nat.reduceAdd, Nat.reduceMul, Nat.add_zero, Nat.zero_add]
      · intro a; rw [← a87, ← b87, ← ep]; simp only [z_mI_mSI, z_mL_mSI, z_mA_mSI, z_mB_mSI, z_mI_mSL, z_mL_mSL, z_mA_mSL, z_mB_mSL, z_mI_mSA, z_mL_mSA, z_mA_mSA, z_mB_mSA, z_mI_mSB, z_mL_mSB, z_mA_mSB, z_mB_mSB, show ¬ (87 = 88) by decide, if_true, if_false, and_false, false_and, and_true, true_and, and_self, decide_true, decide_false, reduceCtorEq, not_false_eq_true, not_true_eq_false, Nat.reduceEqDiff, Nat.reduceAdd, Nat.reduceMul, Nat.add_zero, Nat.zero_add]
      · intro a; rw [← a88, ← b88, ← ep]; simp only [z_mI_mSI, z_mL_mSI, z_mA_mSI, z_mB_mSI, z_mI_mSL, z_mL_mSL, z_mA_mSL, z_mB_mSL, z_mI_mSA, z_mL_mSA, z_mA_mSA, z_mB_mSA, z_mI_mSB, z_mL_mSB, z_mA_mSB, z_mB_mSB, show ¬ (88 = 87) by decide, if_true, if_false, and_false, false_and, and_true, true_and, and_self, decide_true, decide_false, reduceCtorEq, not_false_eq_true, not_true_eq_false, Nat.reduceEqDiff, Nat.reduceAdd, Nat.reduceMul, Nat.add_zero, Nat.zero_add]
    · have e0 : ¬ mA u 87 (hdx u0 z.np x) = -1 := by rw [← ep, ← a87, ← b87]; exact c3
      obtain ⟨c, hc, e88, fin⟩ := I.next (by rw [← ep]; exact hp) e0
      have ec : mA y 88 p = nI c := by rw [b88, a88, ep]; exact e88
      rw [if_neg c3, oC_t (xp 88 rfl), ec, oC_t (ix_n (show c < mlen 86 by show c < 3750; omega) (by decide)), nI_clamp (show c < 2147483648 by omega), oL_v, fX12_instantiates_236, oC_t (xp 88 rfl), cp, oL_v, fX12_instantiates_245, oL_v, e1]
      refine ⟨_, rfl, (A.trans A2).trans (((MAg.refl y).sA (fun q => q.2.2.1 rfl)).sA (fun q => q.2.2.2.2.1 rfl)), ?_, fin _ ?_ ?_ ?_⟩
      · intro a; rw [← a84, ← b84]; simp only [z_mI_mSI, z_mL_mSI, z_mA_mSI, z_mB_mSI, z_mI_mSL, z_mL_mSL, z_mA_mSL, z_mB_mSL, z_mI_mSA, z_mL_mSA, z_mA_mSA, z_mB_mSA, z_mI_mSB, z_mL_mSB, z_mA_mSB, z_mB_mSB, show ¬ (84 = 86) by decide, show ¬ (84 = 88) by decide, if_true, if_false, and_false, false_and, and_true, true_and, and_self, decide_true, decide_false, reduceCtorEq, not_false_eq_true, not_true_eq_false, Nat.reduceEqDiff, Nat.reduceAdd, Nat.reduceMul, Nat.add_zero, Nat.zero_add]
      · intro a; rw [← a86, ← b86]; simp only [z_mI_mSI, z_mL_mSI, z_mA_mSI, z_mB_mSI, z_mI_mSL, z_mL_mSL, z_mA_mSL, z_mB_mSL, z_mI_mSA, z_mL_mSA, z_mA_mSA, z_mB_mSA, z_mI_mSB, z_mL_mSB, z_mA_mSB, z_mB_mSB, show ¬ (86 = 88) by decide, if_true, if_false, and_false, false_and, and_true, true_and, and_self, decide_true, decide_false, reduceCtorEq, not_false_eq_true, not_true_eq_false, Nat.reduceEqDiff, Nat.reduceAdd, Nat.reduceMul, Nat.add_zero, Nat.zero_add]
      · intro a; rw [← a87, ← b87]; simp only [z_mI_mSI, z_mL_mSI, z_mA_mSI, z_mB_mSI, z_mI_mSL, z_mL_mSL, z_mA_mSL, z_mB_mSL, z_mI_mSA, z_mL_mSA, z_mA_mSA, z_mB_mSA, z_mI_mSB, z_mL_mSB, z_mA_mSB, z_mB_mSB, show ¬ (87 = 86) by decide, show ¬ (87 = 88) by decide, if_true, if_false, and_false, false_and, and_true, true_and, and_self, decide_true, decide_false, reduceCtorEq, not_false_eq_true, not_true_eq_false, Nat.reduceEqDiff, Nat.reduceAdd, Nat.reduceMul, Nat.add_zero, Nat.zero_add]
      · intro a; rw [← a88, ← b88, ← ep]; simp only [z_mI_mSI, z_mL_mSI, z_mA_mSI, z_mB_mSI, z_mI_mSL, z_mL_mSL, z_mA_mSL, z_mB_mSL, z_mI_mSA, z_mL_mSA, z_mA_mSA, z_mB_mSA, z_mI_mSB, z_mL_mSB, z_mA_mSB, z_mB_mSB, show ¬ (88 = 86) by decide, if_true, if_false, and_false, false_and, and_true, true_and, and_self, decide_true, decide_false, reduceCtorEq, not_false_eq_true, not_true_eq_false, Nat.reduceEqDiff, Nat.reduceAdd, Nat.reduceMul, Nat.add_zero, Nat.zero_add]
