/-- a change while a literal is read: its object a, the reference's four, and what a term changes -/
def LD (h : PH) (u : MS) (h' : PH) (u' : MS) (G : Gh) (w : Nat) (a : Nat) : Prop := (∀ zz : Sz, zz.nr ≤ w → zz.nr ≤ G.nr → CD h h' G G zz) ∧ (∀ zz : Sz, zz.nr ≤ w → MD u u' zz) ∧ (∀ f b, b ≠ 23 → b ≠ a → hI h' f b = hI h f b) ∧ (∀ f, f < 520 → f ≠ 516 → hI h' f 23 = hI h f 23) ∧ (hN h' = hN h) ∧ (∀ k, ¬ (k = 11 ∨ (13 ≤ k ∧ k ≤ 16) ∨ (66 ≤ k ∧ k ≤ 69)) → mI u' k = mI u k) ∧ (∀ k i, k ≠ 42 → k ≠ 43 → mA u' k i = mA u k i) ∧ (∀ b i, b ≠ 29 → hA h' b i = hA h b i) ∧ (hB h' = hB h) ∧ (mB u' = mB u) ∧ (hT h' = hT h) ∧ ((mI u 67 = 0 ∨ mI u 67 = 1) → mI u' 67 = 0 ∨ mI u' 67 = 1)
theorem LD.cd {h : PH} {u : MS} {h' : PH} {u' : MS} {G : Gh} {w : Nat} {a : Nat} (X_ : LD h u h' u' G w a) : ∀ zz : Sz, zz.nr ≤ w → zz.nr ≤ G.nr → CD h h' G G zz := X_.1
theorem LD.md {h : PH} {u : MS} {h' : PH} {u' : MS} {G : Gh} {w : Nat} {a : Nat} (X_ : LD h u h' u' G w a) : ∀ zz : Sz, zz.nr ≤ w → MD u u' zz := X_.2.1
theorem LD.I {h : PH} {u : MS} {h' : PH} {u' : MS} {G : Gh} {w : Nat} {a : Nat} (X_ : LD h u h' u' G w a) : ∀ f b, b ≠ 23 → b ≠ a → hI h' f b = hI h f b := X_.2.2.1
theorem LD.g {h : PH} {u : MS} {h' : PH} {u' : MS} {G : Gh} {w : Nat} {a : Nat} (X_ : LD h u h' u' G w a) : ∀ f, f < 520 → f ≠ 516 → hI h' f 23 = hI h f 23 := X_.2.2.2.1
theorem LD.N {h : PH} {u : MS} {h' : PH} {u' : MS} {G : Gh} {w : Nat} {a : Nat} (X_ : LD h u h' u' G w a) : hN h' = hN h := X_.2.2.2.2.1
theorem LD.mi {h : PH} {u : MS} {h' : PH} {u' : MS} {G : Gh} {w : Nat} {a : Nat} (X_ : LD h u h' u' G w a) : ∀ k, ¬ (k = 11 ∨ (13 ≤ k ∧ k ≤ 16) ∨ (66 ≤ k ∧ k ≤ 69)) → mI u' k = mI u k := X_.2.2.2.2.2.1
theorem LD.ma {h : PH} {u : MS} {h' : PH} {u' : MS} {G : Gh} {w : Nat} {a : Nat} (X_ : LD h u h' u' G w a) : ∀ k i, k ≠ 42 → k ≠ 43 → mA u' k i = mA u k i := X_.2.2.2.2.2.2.1
theorem LD.A {h : PH} {u : MS} {h' : PH} {u' : MS} {G : Gh} {w : Nat} {a : Nat} (X_ : LD h u h' u' G w a) : ∀ b i, b ≠ 29 → hA h' b i = hA h b i := X_.2.2.2.2.2.2.2.1
theorem LD.B {h : PH} {u : MS} {h' : PH} {u' : MS} {G : Gh} {w : Nat} {a : Nat} (X_ : LD h u h' u' G w a) : hB h' = hB h := X_.2.2.2.2.2.2.2.2.1
theorem LD.mb {h : PH} {u : MS} {h' : PH} {u' : MS} {G : Gh} {w : Nat} {a : Nat} (X_ : LD h u h' u' G w a) : mB u' = mB u := X_.2.2.2.2.2.2.2.2.2.1
theorem LD.T {h : PH} {u : MS} {h' : PH} {u' : MS} {G : Gh} {w : Nat} {a : Nat} (X_ : LD h u h' u' G w a) : hT h' = hT h := X_.2.2.2.2.2.2.2.2.2.2.1
theorem LD.s67 {h : PH} {u : MS} {h' : PH} {u' : MS} {G : Gh} {w : Nat} {a : Nat} (X_ : LD h u h' u' G w a) : (mI u 67 = 0 ∨ mI u 67 = 1) → mI u' 67 = 0 ∨ mI u' 67 = 1 := X_.2.2.2.2.2.2.2.2.2.2.2
theorem LD.mk {h : PH} {u : MS} {h' : PH} {u' : MS} {G : Gh} {w : Nat} {a : Nat} (cd_ : ∀ zz : Sz, zz.nr ≤ w → zz.nr ≤ G.nr → CD h h' G G zz) (md_ : ∀ zz : Sz, zz.nr ≤ w → MD u u' zz) (I_ : ∀ f b, b ≠ 23 → b ≠ a → hI h' f b = hI h f b) (g_ : ∀ f, f < 520 → f ≠ 516 → hI h' f 23 = hI h f 23) (N_ : hN h' = hN h) (mi_ : ∀ k, ¬ (k = 11 ∨ (13 ≤ k ∧ k ≤ 16) ∨ (66 ≤ k ∧ k ≤ 69)) → mI u' k = mI u k) (ma_ : ∀ k i, k ≠ 42 → k ≠ 43 → mA u' k i = mA u k i) (A_ : ∀ b i, b ≠ 29 → hA h' b i = hA h b i) (B_ : hB h' = hB h) (mb_ : mB u' = mB u) (T_ : hT h' = hT h) (s67_ : (mI u 67 = 0 ∨ mI u 67 = 1) → mI u' 67 = 0 ∨ mI u' 67 = 1) : LD h u h' u' G w a := ⟨cd_, md_, I_, g_, N_, mi_, ma_, A_, B_, mb_, T_, s67_⟩
theorem LD.of {h h' : PH} {u u' : MS} {G : Gh} {w a : Nat} (X : TD h u h' u' G w) : LD h u h' u' G w a := ⟨fun zz _ hz => X.cd zz hz, X.md, fun f b q _ => X.I f b q, X.g, X.N, fun k q => X.mi k (by omega), X.ma, X.A, X.B, X.mb, X.T, fun q => by rw [X.mi 67 (by omega)]; exact q⟩
theorem LD.q {h h' : PH} {u u' : MS} {G : Gh} {w a : Nat} (S : SX h G) (X : Q h h') (M : W' u u') : LD h u h' u' G w a := LD.of (TD.of S X M)
theorem LD.trans {h h1 h2 : PH} {u u1 u2 : MS} {G : Gh} {w a : Nat} (X : LD h u h1 u1 G w a) (Y : LD h1 u1 h2 u2 G w a) : LD h u h2 u2 G w a := ⟨fun zz hw hz => CD.trans hz (X.cd zz hw hz) (Y.cd zz hw hz), fun zz hz => (X.md zz hz).trans (Y.md zz hz), fun f b q1 q2 => (Y.I f b q1 q2).trans (X.I f b q1 q2), fun f q1 q2 => (Y.g f q1 q2).trans (X.g f q1 q2), Y.N.trans X.N, fun k q => (Y.mi k q).trans (X.mi k q), fun k i q1 q2 => (Y.ma k i q1 q2).trans (X.ma k i q1 q2), fun b i q => (Y.A b i q).trans (X.A b i q), Y.B.trans X.B, Y.mb.trans X.mb, Y.T.trans X.T, fun q => Y.s67 (X.s67 q)⟩
/-- an object of rule w: its head, or a condition -/
def OB (G : Gh) (w a : Nat) : Prop := G.ow a = 330000 + w ∨ ∃ k, k < 6 ∧ G.ow a = 340000 + 10 * w + k
section LT
variable {h : PH} {u : MS} {G : Gh} {z c : Sz} {L n t w v p a : Nat} {D : Nat → Nat × Nat × Nat × List Nat}
theorem OB.no (S : SX h G) (o : OB G w a) (hw : w < 30) {zz : Sz} (h1 : zz.nr ≤ w) (h2 : zz.nr ≤ G.nr) : ¬ kO G zz a := by
  rintro ⟨r, hr, q⟩
  have r30 := S.nr30
  rcases q with q | q | ⟨i, hi, q⟩
  · have e := S.rlo r (by omega)
    rw [← q] at e
    rcases o with o | ⟨k, hk, o⟩ <;> rw [o] at e <;> omega
  · have e := S.hdo r (by omega)
    rw [← q] at e
    rcases o with o | ⟨k, hk, o⟩ <;> rw [o] at e <;> omega
  · have e := S.cdo r (by omega) i hi
    have := S.nc6 r (by omega)
    rw [← q] at e
    rcases o with o | ⟨k, hk, o⟩ <;> rw [o] at e <;> omega
theorem OB.g3 (o : OB G w a) (hw : w < 30) : G.ow a / 100000 = 3 := by
  rcases o with o | ⟨k, hk, o⟩ <;> rw [o] <;> omega
theorem OB.n23 (S : SX h G) (o : OB G w a) (hw : w < 30) : a ≠ 23 := fun q => by
  have := o.g3 hw
  rw [q, S.o23] at this
  omega
theorem LD.sI (S : SX h G) (o : OB G w a) (hw : w < 30) (f : Nat) (hf : 256 ≤ f ∧ f ≤ 263) (x : Int32) : LD h u (sI h f a x) u G w a := by
  have n23 := o.n23 S hw
  have g3 := o.g3 hw
  have n24 : a ≠ 24 := fun q => by rw [q, S.o24] at g3; omega
  refine ⟨fun zz h1 h2 => CD.xI S (.inl g3) (o.no S hw h1 h2) (by omega) (by omega) (by omega) (by omega), fun zz _ => MD.refl u zz, fun f' b q1 q2 => ?_, fun f' q1 _ => ?_, rfl, fun _ _ => rfl, fun _ _ _ _ => rfl, fun _ _ _ => rfl, rfl, rfl, rfl, fun q => q⟩
  · simp only [z_hI_sI, z_hL_sI, z_hR_sI, z_hA_sI, z_hB_sI, z_hC_sI, z_hT_sI, z_hN_sI, z_hZ_sI, z_hI_sL, z_hL_sL, z_hR_sL, z_hA_sL, z_hB_sL, z_hC_sL, z_hT_sL, z_hN_sL, z_hZ_sL, z_hI_sR, z_hL_sR, z_hR_sR, z_hA_sR, z_hB_sR, z_hC_sR, z_hT_sR, z_hN_sR, z_hZ_sR, z_hI_sA, z_hL_sA, z_hR_sA, z_hA_sA, z_hB_sA, z_hC_sA, z_hT_sA, z_hN_sA, z_hZ_sA, z_hI_sB, z_hL_sB, z_hR_sB, z_hA_sB, z_hB_sB, z_hC_sB, z_hT_sB, z_hN_sB, z_hZ_sB, z_hI_sC, z_hL_sC, z_hR_sC, z_hA_sC, z_hB_sC, z_hC_sC, z_hT_sC, z_hN_sC, z_hZ_sC, z_hI_sY, z_hL_sY, z_hR_sY, z_hA_sY, z_hB_sY, z_hC_sY, z_hT_sY, z_hN_sY, z_hZ_sY, z_hI_nO, z_hL_nO, z_hR_nO, z_hA_nO, z_hB_nO, z_hC_nO, z_hT_nO, z_hN_nO, z_hZ_nO, z_hI_nA, z_hL_nA, z_hR_nA, z_hA_nA, z_hB_nA, z_hC_nA, z_hT_nA, z_hN_nA, z_hZ_nA]; rw [if_neg (fun e => q2 e.2)]
  · simp only [z_hI_sI, z_hL_sI, z_hR_sI, z_hA_sI, z_hB_sI, z_hC_sI, z_hT_sI, z_hN_sI, z_hZ_sI, z_hI_sL, z_hL_sL, z_hR_sL, z_hA_sL, z_hB_sL, z_hC_sL, z_hT_sL, z_hN_sL, z_hZ_sL, z_hI_sR, z_hL_sR, z_hR_sR, z_hA_sR, z_hB_sR, z_hC_sR, z_hT_sR, z_hN_sR, z_hZ_sR, z_hI_sA, z_hL_sA, z_hR_sA, z_hA_sA, z_hB_sA, z_hC_sA, z_hT_sA, z_hN_sA, z_hZ_sA, z_hI_sB, z_hL_sB, z_hR_sB, z_hA_sB, z_hB_sB, z_hC_sB, z_hT_sB, z_hN_sB, z_hZ_sB, z_hI_sC, z_hL_sC, z_hR_sC, z_hA_sC, z_hB_sC, z_hC_sC, z_hT_sC, z_hN_sC, z_hZ_sC, z_hI_sY, z_hL_sY, z_hR_sY, z_hA_sY, z_hB_sY, z_hC_sY, z_hT_sY, z_hN_sY, z_hZ_sY, z_hI_nO, z_hL_nO, z_hR_nO, z_hA_nO, z_hB_nO, z_hC_nO, z_hT_nO, z_hN_nO, z_hZ_nO, z_hI_nA, z_hL_nA, z_hR_nA, z_hA_nA, z_hB_nA, z_hC_nA, z_hT_nA, z_hN_nA, z_hZ_nA]; rw [if_neg (fun e => n23 e.2.symm)]
theorem LD.mI (S : SX h G) (k : Nat) (hk : 66 ≤ k ∧ k ≤ 69) (x : Int32) (h67 : k = 67 → x = 0 ∨ x = 1 := by first | omega | decide) : LD h u h (mSI u k x) G w a :=
  ⟨fun zz _ _ => CD.refl S zz, fun zz _ => (MD.refl u zz).sI (by omega), fun _ _ _ _ => rfl, fun _ _ _ => rfl, rfl, fun k' q => by simp only [z_mI_mSI, z_mL_mSI, z_mA_mSI, z_mB_mSI, z_mI_mSL, z_mL_mSL, z_mA_mSL, z_mB_mSL, z_mI_mSA, z_mL_mSA, z_mA_mSA, z_mB_mSA, z_mI_mSB, z_mL_mSB, z_mA_mSB, z_mB_mSB]; rw [if_neg (fun e => by omega)], fun _ _ _ _ => rfl, fun _ _ _ => rfl, rfl, rfl, rfl, fun q => by
    simp only [z_mI_mSI, z_mL_mSI, z_mA_mSI, z_mB_mSI, z_mI_mSL, z_mL_mSL, z_mA_mSL, z_mB_mSL, z_mI_mSA, z_mL_mSA, z_mA_mSA, z_mB_mSA, z_mI_mSB, z_mL_mSB, z_mA_mSB, z_mB_mSB]
    by_cases e : (67 : Nat) = k
    · rw [if_pos e]; exact h67 e.symm
    · rw [if_neg e]; exact q⟩
theorem PI.ld {h' : PH} {u' : MS} (I : PI h u G z L n D) (T : LD h u h' u' G w a) (hw : z.nr ≤ w) : PI h' u' G z L n D := I.d (T.cd z hw I.kr.nrG) (T.md z hw) (by rw [T.N]; exact I.rm.p3)
/-- a flaw ahead: a later one changes nothing -/
theorem note_n (S : SX h G) (F : FL h u) (f0 : mI u 13 = 0) {q P i : Nat} (fp : FP u q) (hq : q < P) (hP : P ≤ 4000) (hi : i < 1203) (pl : mA u 6 i = nI P) {f : Int32} : fX4_note h 23 f (nI P) = some h ∧ fX12_wrong u f (nI i) = some u := by
  obtain ⟨p1, p0, p2, p3, p4⟩ := fp
  obtain ⟨p, hp, e1, e2⟩ := F.2.1 p1
  have ep : p = p0 := (nI_eq (by omega) (by omega)).mp (e2.symm.trans p4)
  subst ep
  constructor
  · unfold fX4_note fX4_note_0
    rw [oC_d S.t23, F.1, if_neg p1, e1, if_neg (nI_nlt (by omega) (by omega)), if_neg (fun x => by have := (nI_eq (by omega) (by omega)).mp x; omega)]
  · unfold fX12_wrong fX12_wrong_0
    rw [oC_t (ix_n (show i < mlen 6 from hi) (by decide)), oL_v, nI_clamp (show i < 2147483648 by omega), pl, f0, if_neg (by decide), if_neg p1, e2, if_pos (nI_lt (by omega) (by omega))]
/-- the end of a literal: do its terms fit its word? -/
theorem fit_v (I : PI h u G z L n D) (V : Liv h u D n t) (F : FL h u) (sz : hI h 897 8 = nI c.nw) (c12 : c.nw ≤ 12) (PL : ∀ i, i < c.nw → (∃ k, k ≤ 2 ∧ hA h 16 i = nI k ∧ mA u 28 i = nI k) ∨ ∃ q, FP u q ∧ q < (D t).1) {t0 k : Nat} (ht0 : t0 < t) (hk : k ≤ 2) {r : Int32} (hr : (r = -1 ∧ FP u (D t0).1) ∨ ∃ j, j < c.nw ∧ r = nI j ∧ ((∃ k, k ≤ 2 ∧ hA h 16 j = nI k ∧ mA u 28 j = nI k) ∨ ∃ q, FP u q ∧ q < (D t0).1)) (m66 : mI u 66 = r) : ∃ h' u', fX4_literal_108 h 23 (nI (D t0).1) r (nI k) = some h' ∧ fX12_literal_128 u (nI t0) (nI k) = some u' ∧ Q h h' ∧ W' u u' ∧ Liv h' u' D n t ∧ FL h' u' ∧ FM u u' ∧ (mI u' 15 = 0 → ∃ j, j < c.nw ∧ r = nI j ∧ mA u 28 j = nI k) := by
  have S := I.sx
  have lt := V.lt
  have n2 := I.ts.n2
  have t5 := (I.ts.tk t0 (by omega)).2.2.2.2.1
  have pb := I.ts.pl t0 (by omega)
  have lL := I.lL
  rcases hr with ⟨er, fp⟩ | ⟨j, hj, er, o⟩
  · refine ⟨h, u, ?_, ?_, Q.refl h, W'.refl u, V, F, FM.refl u, fun q => absurd q fp.1⟩
    · unfold fX4_literal_108
      rw [if_pos er]
    · unfold fX12_literal_128
      rw [if_pos V.f0, m66, if_pos er]
  · have nj : ¬ nI j = -1 := nI_m1 (by omega)
    have ep : fX1_placesOf h 5 (nI j) = some (hA h 16 j) := by
      unfold fX1_placesOf fX1_placesOf_0
      rw [if_neg (nI_pos (by omega)), oC_d S.t5, S.r129_5, oN_v, oC_d S.t8, sz, if_neg (nI_ge hj (by omega)), S.r133_5, oN_v, oC_d S.t16, S.n16, oC_t (ix_n (show j < 12 by omega) (by omega)), nI_clamp (show j < 2147483648 by omega)]
    have hC : fX4_literal_108 h 23 (nI (D t0).1) r (nI k) = if hA h 16 j = nI k then some h else oB (fX4_note h 23 5 (nI (D t0).1)) (fun h9 => some h9) := by
      unfold fX4_literal_108
      rw [er, if_neg nj, oC_d S.t23, S.r512_23, oN_v, oC_d S.t5, ep, oB_v]
    have hM : fX12_literal_128 u (nI t0) (nI k) = if mA u 28 j = nI k then some u else oB (fX12_wrong u 5 (nI t0)) (fun h6 => some h6) := by
      unfold fX12_literal_128
      rw [if_pos V.f0, m66, er, if_neg nj, oC_t (ix_n (show j < mlen 28 by show j < 12; omega) (by decide)), nI_clamp (show j < 2147483648 by omega)]
    rcases o with ⟨k0, hk0, a1, a2⟩ | ⟨q, fp, hq⟩
    · by_cases ck : k0 = k
      · refine ⟨h, u, by rw [hC, a1, ck, if_pos rfl], by rw [hM, a2, ck, if_pos rfl], Q.refl h, W'.refl u, V, F, FM.refl u, fun _ => ⟨j, hj, er, by rw [a2, ck]⟩⟩
      · have nk : ¬ nI k0 = nI k := fun x => ck ((nI_eq (by omega) (by omega)).mp x)
        obtain ⟨h2, u2, n1, n3, F2, P2, M2, Q2, W2, b2, l2, b3, c3, d2⟩ := note_v S F V.f0 (i := t0) (p := (D t0).1) (by omega) (by omega) t5 (f := 5) (by decide)
        exact ⟨h2, u2, by rw [hC, a1, if_neg nk, n1, oB_v], by rw [hM, a2, if_neg nk, n3, oB_v], Q2, W2, V.fr b2 l2 b3 c3, F2, M2, fun x => absurd x P2.1⟩
    · obtain ⟨n1, n3⟩ := note_n S F V.f0 fp hq (by omega) (show t0 < 1203 by omega) t5 (f := 5)
      refine ⟨h, u, ?_, ?_, Q.refl h, W'.refl u, V, F, FM.refl u, fun x => absurd x fp.1⟩
      · rw [hC, n1, oB_v]
        split <;> rfl
      · rw [hM, n3, oB_v]
        split <;> rfl
end LT
