/-! flaws as the least of a row -/
def fmn (a : Option (Nat × Int32)) (p : Nat) (f : Int32) : Option (Nat × Int32) := match a with
  | none => some (p, f)
  | some (q, g) => if p < q ∨ (p = q ∧ f < g) then some (p, f) else some (q, g)
def CF (h : PH) (a : Option (Nat × Int32)) : Prop := match a with
  | none => hI h 526 23 = 0 ∧ hI h 527 23 = -1
  | some (q, g) => hI h 526 23 = g ∧ g ≠ 0 ∧ hI h 527 23 = nI q ∧ q ≤ 4000
def MF (u : MS) (a : Option (Nat × Int32)) : Prop := match a with
  | none => mI u 15 = 0
  | some (q, g) => mI u 15 = g ∧ g ≠ 0 ∧ mI u 16 = nI q ∧ q ≤ 4000
theorem fmn_i (a : Option (Nat × Int32)) (p : Nat) (f : Int32) : fmn (fmn a p f) p f = fmn a p f := by
  have ii : ¬ f < f := by grind
  cases a with
  | none =>
    show (if p < p ∨ (p = p ∧ f < f) then some (p, f) else some (p, f)) = some (p, f)
    split <;> rfl
  | some x =>
    obtain ⟨q, g⟩ := x
    show fmn (if p < q ∨ (p = q ∧ f < g) then some (p, f) else some (q, g)) p f = (if p < q ∨ (p = q ∧ f < g) then some (p, f) else some (q, g))
    by_cases c : p < q ∨ (p = q ∧ f < g)
    · rw [if_pos c]
      show (if p < p ∨ (p = p ∧ f < f) then some (p, f) else some (p, f)) = some (p, f)
      split <;> rfl
    · rw [if_neg c]
      show (if p < q ∨ (p = q ∧ f < g) then some (p, f) else some (q, g)) = _
      rw [if_neg c]
theorem fmn_c (a : Option (Nat × Int32)) (p q : Nat) (f g : Int32) (hq : p < q) : fmn (fmn a p f) q g = fmn (fmn a q g) p f := by
  cases a with
  | none =>
    show (if q < p ∨ (q = p ∧ g < f) then some (q, g) else some (p, f)) = (if p < q ∨ (p = q ∧ f < g) then some (p, f) else some (q, g))
    rw [if_neg (fun x => by omega), if_pos (.inl hq)]
  | some x =>
    obtain ⟨r, k⟩ := x
    show fmn (if p < r ∨ (p = r ∧ f < k) then some (p, f) else some (r, k)) q g = fmn (if q < r ∨ (q = r ∧ g < k) then some (q, g) else some (r, k)) p f
    by_cases c1 : p < r ∨ (p = r ∧ f < k)
    · rw [if_pos c1]
      have l : fmn (some (p, f)) q g = some (p, f) := by
        show (if q < p ∨ (q = p ∧ g < f) then some (q, g) else some (p, f)) = _
        rw [if_neg (fun x => by omega)]
      rw [l]
      by_cases c2 : q < r ∨ (q = r ∧ g < k)
      · rw [if_pos c2]
        show _ = (if p < q ∨ (p = q ∧ f < g) then some (p, f) else some (q, g))
        rw [if_pos (.inl hq)]
      · rw [if_neg c2]
        show _ = (if p < r ∨ (p = r ∧ f < k) then some (p, f) else some (r, k))
        rw [if_pos c1]
    · have c2 : ¬ (q < r ∨ (q = r ∧ g < k)) := fun x => c1 (.inl (by omega))
      rw [if_neg c1, if_neg c2]
      show (if q < r ∨ (q = r ∧ g < k) then some (q, g) else some (r, k)) = (if p < r ∨ (p = r ∧ f < k) then some (p, f) else some (r, k))
      rw [if_neg c1, if_neg c2]
theorem FL.ex {h : PH} {u : MS} (F : FL h u) : ∃ a, CF h a ∧ MF u a := by
  by_cases c : mI u 15 = 0
  · exact ⟨none, ⟨F.1.trans c, F.2.2 c⟩, c⟩
  · obtain ⟨p, p1, p2, p3⟩ := F.2.1 c
    exact ⟨some (p, mI u 15), ⟨F.1, c, p2, p1⟩, ⟨rfl, c, p3, p1⟩⟩
theorem FL.of {h : PH} {u : MS} {a : Option (Nat × Int32)} (C : CF h a) (M : MF u a) : FL h u := by
  cases a with
  | none =>
    have C' : hI h 526 23 = 0 ∧ hI h 527 23 = -1 := C
    have M' : mI u 15 = 0 := M
    exact ⟨by rw [C'.1, M'], fun q => absurd M' q, fun _ => C'.2⟩
  | some x =>
    obtain ⟨q, g⟩ := x
    have C' : hI h 526 23 = g ∧ g ≠ 0 ∧ hI h 527 23 = nI q ∧ q ≤ 4000 := C
    have M' : mI u 15 = g ∧ g ≠ 0 ∧ mI u 16 = nI q ∧ q ≤ 4000 := M
    exact ⟨by rw [C'.1, M'.1], fun _ => ⟨q, C'.2.2.2, C'.2.2.1, M'.2.2.1⟩, fun e => absurd (M'.1.symm.trans e) M'.2.1⟩
theorem noteC {h : PH} {G : Gh} (S : SX h G) {a : Option (Nat × Int32)} (C : CF h a) {p : Nat} (hp : p ≤ 4000) {f : Int32} (hf : f ≠ 0) : ∃ h', fX4_note h 23 f (nI p) = some h' ∧ CF h' (fmn a p f) ∧ Q h h' ∧ ∀ g, g < 526 → hI h' g 23 = hI h g 23 := by
  have setc : fX4_note_31 h 23 f (nI p) = some (sI (sI h 526 23 f) 527 23 (nI p)) := by
    simp only [fX4_note_31, S.t0, S.t1, S.t3, S.t5, S.t6, S.t8, S.t10, S.t12, S.t14, S.t23, S.t24, S.t7, S.t9, S.t11, S.t13, S.t15, S.t16, S.t17, S.t18, S.t19, S.t20, S.t21, S.t25, S.t29, S.t30, S.t31, S.n7, S.n9, S.n11, S.n13, S.n15, S.n16, S.n17, S.n18, S.n19, S.n20, S.n21, S.n25, S.n29, S.n30, S.n31, S.r1408_0, S.r1409_0, S.r1410_0, S.r1411_0, S.r1412_0, S.r128_5, S.r129_5, S.r130_5, S.r131_5, S.r132_5, S.r133_5, S.r134_5, S.r135_5, S.r136_5, S.r137_5, S.r138_5, S.r512_23, S.r513_23, S.r514_23, S.r515_23, S.r896_6, S.r896_8, S.r896_10, S.r896_12, S.r896_14, S.r1280_24, S.r0_1, S.ttk, S.otk, S.r0_3, S.twk, S.owk, S.r141_5, S.tpg, S.opg, S.r1281_24, S.tkd, S.okd, S.r1282_24, S.tst, S.ost, S.r1283_24, S.tvl, S.ovl, S.o0, S.o1, S.o3, S.o31, S.o5, S.o6, S.o7, S.o8, S.o9, S.o10, S.o11, S.o12, S.o13, S.o14, S.o15, S.o16, S.o17, S.o18, S.o19, S.o20, S.o21, S.o23, S.o24, S.o25, S.o29, S.o30, oN_v, oC_v, oB_v, oB2_v, oB3_v, oB4_v, oK3_v, oK4_v, oL_v, if_true, if_false, and_false, false_and, and_true, true_and, and_self, decide_true, decide_false, reduceCtorEq, not_false_eq_true, not_true_eq_false, Nat.reduceEqDiff, Nat.reduceAdd, Nat.reduceMul, Nat.add_zero, Nat.zero_add]
  have ec : fX4_note h 23 f (nI p) = if hI h 526 23 = 0 then some (sI (sI h 526 23 f) 527 23 (nI p)) else if nI p < hI h 527 23 then some (sI (sI h 526 23 f) 527 23 (nI p)) else if nI p = hI h 527 23 then (if hI h 526 23 ≤ f then some h else some (sI (sI h 526 23 f) 527 23 (nI p))) else some h := by
    unfold fX4_note fX4_note_0
    rw [oC_d S.t23, setc]
  have cs : CF (sI (sI h 526 23 f) 527 23 (nI p)) (some (p, f)) := ⟨by simp only [z_hI_sI, z_hL_sI, z_hR_sI, z_hA_sI, z_hB_sI, z_hC_sI, z_hT_sI, z_hN_sI, z_hZ_sI, z_hI_sL, z_hL_sL, z_hR_sL, z_hA_sL, z_hB_sL, z_hC_sL, z_hT_sL, z_hN_sL, z_hZ_sL, z_hI_sR, z_hL_sR, z_hR_sR, z_hA_sR, z_hB_sR, z_hC_sR, z_hT_sR, z_hN_sR, z_hZ_sR, z_hI_sA, z_hL_sA, z_hR_sA, z_hA_sA, z_hB_sA, z_hC_sA, z_hT_sA, z_hN_sA, z_hZ_sA, z_hI_sB, z_hL_sB, z_hR_sB, z_hA_sB, z_hB_sB, z_hC_sB, z_hT_sB, z_hN_sB, z_hZ_sB, z_hI_sC, z_hL_sC, z_hR_sC, z_hA_sC, z_hB_sC, z_hC_sC, z_hT_sC, z_hN_sC, z_hZ_sC, z_hI_sY, z_hL_sY, z_hR_sY, z_hA_sY, z_hB_sY, z_hC_sY, z_hT_sY, z_hN_sY, z_hZ_sY, z_hI_nO, z_hL_nO, z_hR_nO, z_hA_nO, z_hB_nO, z_hC_nO, z_hT_nO, z_hN_nO, z_hZ_nO, z_hI_nA, z_hL_nA, z_hR_nA, z_hA_nA, z_hB_nA, z_hC_nA, z_hT_nA, z_hN_nA, z_hZ_nA, if_true, if_false, and_false, false_and, and_true, true_and, and_self, decide_true, decide_false, reduceCtorEq, not_false_eq_true, not_true_eq_false, Nat.reduceEqDiff, Nat.reduceAdd, Nat.reduceMul, Nat.add_zero, Nat.zero_add], hf, by simp only [z_hI_sI, z_hL_sI, z_hR_sI, z_hA_sI, z_hB_sI, z_hC_sI, z_hT_sI, z_hN_sI, z_hZ_sI, z_hI_sL, z_hL_sL, z_hR_sL, z_hA_sL, z_hB_sL, z_hC_sL, z_hT_sL, z_hN_sL, z_hZ_sL, z_hI_sR, z_hL_sR, z_hR_sR, z_hA_sR, z_hB_sR, z_hC_sR, z_hT_sR, z_hN_sR, z_hZ_sR, z_hI_sA, z_hL_sA, z_hR_sA, z_hA_sA, z_hB_sA, z_hC_sA, z_hT_sA, z_hN_sA, z_hZ_sA, z_hI_sB, z_hL_sB, z_hR_sB, z_hA_sB, z_hB_sB, z_hC_sB, z_hT_sB, z_hN_sB, z_hZ_sB, z_hI_sC, z_hL_sC, z_hR_sC, z_hA_sC, z_hB_sC, z_hC_sC, z_hT_sC, z_hN_sC, z_hZ_sC, z_hI_sY, z_hL_sY, z_hR_sY, z_hA_sY, z_hB_sY, z_hC_sY, z_hT_sY, z_hN_sY, z_hZ_sY, z_hI_nO, z_hL_nO, z_hR_nO, z_hA_nO, z_hB_nO, z_hC_nO, z_hT_nO, z_hN_nO, z_hZ_nO, z_hI_nA, z_hL_nA, z_hR_nA, z_hA_nA, z_hB_nA, z_hC_nA, z_hT_nA, z_hN_nA, z_hZ_nA, if_true, if_false, and_false, false_and, and_true, true_and, and_self, decide_true, decide_false, reduceCtorEq, not_false_eq_true, not_true_eq_false, Nat.reduceEqDiff, Nat.reduceAdd, Nat.reduceMul, Nat.add_zero, Nat.zero_add], hp⟩
  have qs : Q h (sI (sI h 526 23 f) 527 23 (nI p)) := ((Q.refl h).sI (by omega)).sI (by omega)
  have gs : ∀ g, g < 526 → hI (sI (sI h 526 23 f) 527 23 (nI p)) g 23 = hI h g 23 := fun g hg => by simp only [z_hI_sI, z_hL_sI, z_hR_sI, z_hA_sI, z_hB_sI, z_hC_sI, z_hT_sI, z_hN_sI, z_hZ_sI, z_hI_sL, z_hL_sL, z_hR_sL, z_hA_sL, z_hB_sL, z_hC_sL, z_hT_sL, z_hN_sL, z_hZ_sL, z_hI_sR, z_hL_sR, z_hR_sR, z_hA_sR, z_hB_sR, z_hC_sR, z_hT_sR, z_hN_sR, z_hZ_sR, z_hI_sA, z_hL_sA, z_hR_sA, z_hA_sA, z_hB_sA, z_hC_sA, z_hT_sA, z_hN_sA, z_hZ_sA, z_hI_sB, z_hL_sB, z_hR_sB, z_hA_sB, z_hB_sB, z_hC_sB, z_hT_sB, z_hN_sB, z_hZ_sB, z_hI_sC, z_hL_sC, z_hR_sC, z_hA_sC, z_hB_sC, z_hC_sC, z_hT_sC, z_hN_sC, z_hZ_sC, z_hI_sY, z_hL_sY, z_hR_sY, z_hA_sY, z_hB_sY, z_hC_sY, z_hT_sY, z_hN_sY, z_hZ_sY, z_hI_nO, z_hL_nO, z_hR_nO, z_hA_nO, z_hB_nO, z_hC_nO, z_hT_nO, z_hN_nO, z_hZ_nO, z_hI_nA, z_hL_nA, z_hR_nA, z_hA_nA, z_hB_nA, z_hC_nA, z_hT_nA, z_hN_nA, z_hZ_nA]; rw [if_neg (fun e => by omega), if_neg (fun e => by omega)]
  cases a with
  | none =>
    have C' : hI h 526 23 = 0 ∧ hI h 527 23 = -1 := C
    exact ⟨_, by rw [ec, if_pos C'.1], cs, qs, gs⟩
  | some x =>
    obtain ⟨q, g⟩ := x
    have C' : hI h 526 23 = g ∧ g ≠ 0 ∧ hI h 527 23 = nI q ∧ q ≤ 4000 := C
    obtain ⟨c1, c2, c3, c4⟩ := C'
    have lt : nI p < nI q ↔ p < q := nI_ltI (by omega) (by omega)
    have eq : nI p = nI q ↔ p = q := nI_eq (by omega) (by omega)
    rw [c1, if_neg c2, c3] at ec
    show ∃ h', _ ∧ CF h' (if p < q ∨ (p = q ∧ f < g) then some (p, f) else some (q, g)) ∧ _
    by_cases d1 : p < q
    · rw [if_pos (.inl d1)]
      exact ⟨_, by rw [ec, if_pos (lt.mpr d1)], cs, qs, gs⟩
    · rw [if_neg (fun x => d1 (lt.mp x))] at ec
      by_cases d2 : p = q
      · rw [if_pos (eq.mpr d2)] at ec
        by_cases d3 : f < g
        · rw [if_pos (.inr ⟨d2, d3⟩)]
          exact ⟨_, by rw [ec, if_neg (by grind)], cs, qs, gs⟩
        · rw [if_neg (fun x => by rcases x with x | x; exact d1 x; exact d3 x.2)]
          exact ⟨h, by rw [ec, if_pos (by grind)], C, Q.refl h, fun _ _ => rfl⟩
      · rw [if_neg (fun x => d2 (eq.mp x))] at ec
        rw [if_neg (fun x => by rcases x with x | x; exact d1 x; exact d2 x.1)]
        exact ⟨h, ec, C, Q.refl h, fun _ _ => rfl⟩
theorem wrongM {u : MS} {a : Option (Nat × Int32)} (M : MF u a) (f0 : mI u 13 = 0) {i p : Nat} (hi : i < 1203) (hp : p ≤ 4000) (pl : mA u 6 i = nI p) {f : Int32} (hf : f ≠ 0) : ∃ u', fX12_wrong u f (nI i) = some u' ∧ MF u' (fmn a p f) ∧ W' u u' ∧ mI u' 13 = 0 := by
  have setm : fX12_wrong_46 u f (nI p) = some (mSI (mSI u 15 f) 16 (nI p)) := by
    simp only [fX12_wrong_46, oN_v, oC_v, oB_v, oB2_v, oB3_v, oB4_v, oK3_v, oK4_v, oL_v]
  have em : fX12_wrong u f (nI i) = if mI u 15 = 0 then some (mSI (mSI u 15 f) 16 (nI p)) else if mI u 16 < nI p then some u else if nI p = mI u 16 then (if f < mI u 15 then some (mSI (mSI u 15 f) 16 (nI p)) else some u) else some (mSI (mSI u 15 f) 16 (nI p)) := by
    unfold fX12_wrong fX12_wrong_0
    rw [oC_t (ix_n (show i < mlen 6 from hi) (by decide)), oL_v, nI_clamp (show i < 2147483648 by omega), pl, f0, if_neg (by decide), setm]
  have ms : MF (mSI (mSI u 15 f) 16 (nI p)) (some (p, f)) := ⟨by simp only [z_mI_mSI, z_mL_mSI, z_mA_mSI, z_mB_mSI, z_mI_mSL, z_mL_mSL, z_mA_mSL, z_mB_mSL, z_mI_mSA, z_mL_mSA, z_mA_mSA, z_mB_mSA, z_mI_mSB, z_mL_mSB, z_mA_mSB, z_mB_mSB, if_true, if_false, and_false, false_and, and_true, true_and, and_self, decide_true, decide_false, reduceCtorEq, not_false_eq_true, not_true_eq_false, Nat.reduceEqDiff, Nat.reduceAdd, Nat.reduceMul, Nat.add_zero, Nat.zero_add], hf, by simp only [z_mI_mSI, z_mL_mSI, z_mA_mSI, z_mB_mSI, z_mI_mSL, z_mL_mSL, z_mA_mSL, z_mB_mSL, z_mI_mSA, z_mL_mSA, z_mA_mSA, z_mB_mSA, z_mI_mSB, z_mL_mSB, z_mA_mSB, z_mB_mSB, if_true, if_false, and_false, false_and, and_true, true_and, and_self, decide_true, decide_false, reduceCtorEq, not_false_eq_true, not_true_eq_false, Nat.reduceEqDiff, Nat.reduceAdd, Nat.reduceMul, Nat.add_zero, Nat.zero_add], hp⟩
  have ws : W' u (mSI (mSI u 15 f) 16 (nI p)) := ((W'.refl u).sI (by omega)).sI (by omega)
  have f1 : mI (mSI (mSI u 15 f) 16 (nI p)) 13 = 0 := by simp only [z_mI_mSI, z_mL_mSI, z_mA_mSI, z_mB_mSI, z_mI_mSL, z_mL_mSL, z_mA_mSL, z_mB_mSL, z_mI_mSA, z_mL_mSA, z_mA_mSA, z_mB_mSA, z_mI_mSB, z_mL_mSB, z_mA_mSB, z_mB_mSB, if_true, if_false, and_false, false_and, and_true, true_and, and_self, decide_true, decide_false, reduceCtorEq, not_false_eq_true, not_true_eq_false, Nat.reduceEqDiff, Nat.reduceAdd, Nat.reduceMul, Nat.add_zero, Nat.zero_add]; exact f0
  cases a with
  | none =>
    have M' : mI u 15 = 0 := M
    exact ⟨_, by rw [em, if_pos M'], ms, ws, f1⟩
  | some x =>
    obtain ⟨q, g⟩ := x
    have M' : mI u 15 = g ∧ g ≠ 0 ∧ mI u 16 = nI q ∧ q ≤ 4000 := M
    obtain ⟨c1, c2, c3, c4⟩ := M'
    have gt : nI q < nI p ↔ q < p := nI_ltI (by omega) (by omega)
    have eq : nI p = nI q ↔ p = q := nI_eq (by omega) (by omega)
    rw [c1, if_neg c2, c3] at em
    show ∃ u', _ ∧ MF u' (if p < q ∨ (p = q ∧ f < g) then some (p, f) else some (q, g)) ∧ _
    by_cases d1 : q < p
    · rw [if_neg (fun x => by omega)]
      exact ⟨u, by rw [em, if_pos (gt.mpr d1)], M, W'.refl u, f0⟩
    · rw [if_neg (fun x => d1 (gt.mp x))] at em
      by_cases d2 : p = q
      · rw [if_pos (eq.mpr d2)] at em
        by_cases d3 : f < g
        · rw [if_pos (.inr ⟨d2, d3⟩)]
          exact ⟨_, by rw [em, if_pos d3], ms, ws, f1⟩
        · rw [if_neg (fun x => by rcases x with x | x; omega; exact d3 x.2)]
          exact ⟨u, by rw [em, if_neg d3], M, W'.refl u, f0⟩
      · rw [if_neg (fun x => d2 (eq.mp x))] at em
        rw [if_pos (.inl (by omega))]
        exact ⟨_, em, ms, ws, f1⟩
/-- the reading's overs, j of them resolved -/
def OS (h : PH) (u : MS) (G : Gh) (z : Sz) (c : Sz) (L : Nat) (n : Nat) (D : Nat → Nat × Nat × Nat × List Nat) (t : Nat) (j : Nat) : Prop := (PI h u G z L n D) ∧ (FL h u) ∧ (mI u 13 = 0) ∧ (hI h 524 23 = 0) ∧ (t < n) ∧ (z.le c) ∧ (c.ok) ∧ (hI h 897 6 = nI c.np ∧ hI h 897 8 = nI c.nw ∧ hI h 897 10 = nI c.ns ∧ hI h 897 12 = nI c.nl ∧ hI h 897 14 = nI c.nr ∧ hI h 142 5 = nI c.pc) ∧ (hI h 139 5 = nI (z.no + j)) ∧ (SzM u c) ∧ (hI h 517 23 = nI (c.no - z.no)) ∧ (mI u 63 = nI (2 * (c.no - z.no))) ∧ (∀ i, i < c.no - z.no → ∃ k, k + 1 < n ∧ (D k).2.1 = 1 ∧ (D (k + 1)).2.1 = 1 ∧ hA h 30 i = nI k ∧ mA u 64 (2 * i) = nI k ∧ mA u 64 (2 * i + 1) = nI (k + 1)) ∧ (CT h u G c D t) ∧ (c.pc ≤ hN h G.pg) ∧ (c.pc ≤ z.pc + 1200 * (c.nr - z.nr) ∧ c.rc ≤ z.rc + 1200 * (c.nr - z.nr)) ∧ (mI u 15 = 0 → ∀ i, i < j → ∃ a b, a < c.nr ∧ b < c.nr ∧ a ≠ b ∧ hA h 20 (z.no + i) = nI a ∧ mA u 36 (z.no + i) = nI a ∧ hA h 21 (z.no + i) = nI b ∧ mA u 37 (z.no + i) = nI b)
theorem OS.i {h : PH} {u : MS} {G : Gh} {z : Sz} {c : Sz} {L : Nat} {n : Nat} {D : Nat → Nat × Nat × Nat × List Nat} {t : Nat} {j : Nat} (X_ : OS h u G z c L n D t j) : PI h u G z L n D := X_.1
theorem OS.F {h : PH} {u : MS} {G : Gh} {z : Sz} {c : Sz} {L : Nat} {n : Nat} {D : Nat → Nat × Nat × Nat × List Nat} {t : Nat} {j : Nat} (X_ : OS h u G z c L n D t j) : FL h u := X_.2.1
theorem OS.f0 {h : PH} {u : MS} {G : Gh} {z : Sz} {c : Sz} {L : Nat} {n : Nat} {D : Nat → Nat × Nat × Nat × List Nat} {t : Nat} {j : Nat} (X_ : OS h u G z c L n D t j) : mI u 13 = 0 := X_.2.2.1
theorem OS.st {h : PH} {u : MS} {G : Gh} {z : Sz} {c : Sz} {L : Nat} {n : Nat} {D : Nat → Nat × Nat × Nat × List Nat} {t : Nat} {j : Nat} (X_ : OS h u G z c L n D t j) : hI h 524 23 = 0 := X_.2.2.2.1
theorem OS.lt {h : PH} {u : MS} {G : Gh} {z : Sz} {c : Sz} {L : Nat} {n : Nat} {D : Nat → Nat × Nat × Nat × List Nat} {t : Nat} {j : Nat} (X_ : OS h u G z c L n D t j) : t < n := X_.2.2.2.2.1
theorem OS.le {h : PH} {u : MS} {G : Gh} {z : Sz} {c : Sz} {L : Nat} {n : Nat} {D : Nat → Nat × Nat × Nat × List Nat} {t : Nat} {j : Nat} (X_ : OS h u G z c L n D t j) : z.le c := X_.2.2.2.2.2.1
theorem OS.ok {h : PH} {u : MS} {G : Gh} {z : Sz} {c : Sz} {L : Nat} {n : Nat} {D : Nat → Nat × Nat × Nat × List Nat} {t : Nat} {j : Nat} (X_ : OS h u G z c L n D t j) : c.ok := X_.2.2.2.2.2.2.1
theorem OS.zc {h : PH} {u : MS} {G : Gh} {z : Sz} {c : Sz} {L : Nat} {n : Nat} {D : Nat → Nat × Nat × Nat × List Nat} {t : Nat} {j : Nat} (X_ : OS h u G z c L n D t j) : hI h 897 6 = nI c.np ∧ hI h 897 8 = nI c.nw ∧ hI h 897 10 = nI c.ns ∧ hI h 897 12 = nI c.nl ∧ hI h 897 14 = nI c.nr ∧ hI h 142 5 = nI c.pc := X_.2.2.2.2.2.2.2.1
theorem OS.o9 {h : PH} {u : MS} {G : Gh} {z : Sz} {c : Sz} {L : Nat} {n : Nat} {D : Nat → Nat × Nat × Nat × List Nat} {t : Nat} {j : Nat} (X_ : OS h u G z c L n D t j) : hI h 139 5 = nI (z.no + j) := X_.2.2.2.2.2.2.2.2.1
theorem OS.zm {h : PH} {u : MS} {G : Gh} {z : Sz} {c : Sz} {L : Nat} {n : Nat} {D : Nat → Nat × Nat × Nat × List Nat} {t : Nat} {j : Nat} (X_ : OS h u G z c L n D t j) : SzM u c := X_.2.2.2.2.2.2.2.2.2.1
theorem OS.o1 {h : PH} {u : MS} {G : Gh} {z : Sz} {c : Sz} {L : Nat} {n : Nat} {D : Nat → Nat × Nat × Nat × List Nat} {t : Nat} {j : Nat} (X_ : OS h u G z c L n D t j) : hI h 517 23 = nI (c.no - z.no) := X_.2.2.2.2.2.2.2.2.2.2.1
theorem OS.o2 {h : PH} {u : MS} {G : Gh} {z : Sz} {c : Sz} {L : Nat} {n : Nat} {D : Nat → Nat × Nat × Nat × List Nat} {t : Nat} {j : Nat} (X_ : OS h u G z c L n D t j) : mI u 63 = nI (2 * (c.no - z.no)) := X_.2.2.2.2.2.2.2.2.2.2.2.1
theorem OS.ot {h : PH} {u : MS} {G : Gh} {z : Sz} {c : Sz} {L : Nat} {n : Nat} {D : Nat → Nat × Nat × Nat × List Nat} {t : Nat} {j : Nat} (X_ : OS h u G z c L n D t j) : ∀ i, i < c.no - z.no → ∃ k, k + 1 < n ∧ (D k).2.1 = 1 ∧ (D (k + 1)).2.1 = 1 ∧ hA h 30 i = nI k ∧ mA u 64 (2 * i) = nI k ∧ mA u 64 (2 * i + 1) = nI (k + 1) := X_.2.2.2.2.2.2.2.2.2.2.2.2.1
theorem OS.ct {h : PH} {u : MS} {G : Gh} {z : Sz} {c : Sz} {L : Nat} {n : Nat} {D : Nat → Nat × Nat × Nat × List Nat} {t : Nat} {j : Nat} (X_ : OS h u G z c L n D t j) : CT h u G c D t := X_.2.2.2.2.2.2.2.2.2.2.2.2.2.1
theorem OS.p3 {h : PH} {u : MS} {G : Gh} {z : Sz} {c : Sz} {L : Nat} {n : Nat} {D : Nat → Nat × Nat × Nat × List Nat} {t : Nat} {j : Nat} (X_ : OS h u G z c L n D t j) : c.pc ≤ hN h G.pg := X_.2.2.2.2.2.2.2.2.2.2.2.2.2.2.1
theorem OS.p4 {h : PH} {u : MS} {G : Gh} {z : Sz} {c : Sz} {L : Nat} {n : Nat} {D : Nat → Nat × Nat × Nat × List Nat} {t : Nat} {j : Nat} (X_ : OS h u G z c L n D t j) : c.pc ≤ z.pc + 1200 * (c.nr - z.nr) ∧ c.rc ≤ z.rc + 1200 * (c.nr - z.nr) := X_.2.2.2.2.2.2.2.2.2.2.2.2.2.2.2.1
theorem OS.ov {h : PH} {u : MS} {G : Gh} {z : Sz} {c : Sz} {L : Nat} {n : Nat} {D : Nat → Nat × Nat × Nat × List Nat} {t : Nat} {j : Nat} (X_ : OS h u G z c L n D t j) : mI u 15 = 0 → ∀ i, i < j → ∃ a b, a < c.nr ∧ b < c.nr ∧ a ≠ b ∧ hA h 20 (z.no + i) = nI a ∧ mA u 36 (z.no + i) = nI a ∧ hA h 21 (z.no + i) = nI b ∧ mA u 37 (z.no + i) = nI b := X_.2.2.2.2.2.2.2.2.2.2.2.2.2.2.2.2
theorem OS.mk {h : PH} {u : MS} {G : Gh} {z : Sz} {c : Sz} {L : Nat} {n : Nat} {D : Nat → Nat × Nat × Nat × List Nat} {t : Nat} {j : Nat} (i_ : PI h u G z L n D) (F_ : FL h u) (f0_ : mI u 13 = 0) (st_ : hI h 524 23 = 0) (lt_ : t < n) (le_ : z.le c) (ok_ : c.ok) (zc_ : hI h 897 6 = nI c.np ∧ hI h 897 8 = nI c.nw ∧ hI h 897 10 = nI c.ns ∧ hI h 897 12 = nI c.nl ∧ hI h 897 14 = nI c.nr ∧ hI h 142 5 = nI c.pc) (o9_ : hI h 139 5 = nI (z.no + j)) (zm_ : SzM u c) (o1_ : hI h 517 23 = nI (c.no - z.no)) (o2_ : mI u 63 = nI (2 * (c.no - z.no))) (ot_ : ∀ i, i < c.no - z.no → ∃ k, k + 1 < n ∧ (D k).2.1 = 1 ∧ (D (k + 1)).2.1 = 1 ∧ hA h 30 i = nI k ∧ mA u 64 (2 * i) = nI k ∧ mA u 64 (2 * i + 1) = nI (k + 1)) (ct_ : CT h u G c D t) (p3_ : c.pc ≤ hN h G.pg) (p4_ : c.pc ≤ z.pc + 1200 * (c.nr - z.nr) ∧ c.rc ≤ z.rc + 1200 * (c.nr - z.nr)) (ov_ : mI u 15 = 0 → ∀ i, i < j → ∃ a b, a < c.nr ∧ b < c.nr ∧ a ≠ b ∧ hA h 20 (z.no + i) = nI a ∧ mA u 36 (z.no + i) = nI a ∧ hA h 21 (z.no + i) = nI b ∧ mA u 37 (z.no + i) = nI b) : OS h u G z c L n D t j := ⟨i_, F_, f0_, st_, lt_, le_, ok_, zc_, o9_, zm_, o1_, o2_, ot_, ct_, p3_, p4_, ov_⟩
theorem OS.of {h : PH} {u : MS} {G : Gh} {z c : Sz} {L n t : Nat} {D : Nat → Nat × Nat × Nat × List Nat} (I : PI h u G z L n D) (V : Liv h u D n t) (F : FL h u) (R : LR h u G z c n D t) : OS h u G z c L n D t 0 := by
  obtain ⟨c1, c2, c3, c4, c5, c6, c7⟩ := R.zc
  exact ⟨I, F, V.f0, V.st, V.lt, R.le, R.ok, ⟨c1, c2, c3, c4, c5, c7⟩, c6, R.zm, R.o1, R.o2, R.ot, R.ct, R.p3, R.p4, fun _ i hi => by omega⟩
