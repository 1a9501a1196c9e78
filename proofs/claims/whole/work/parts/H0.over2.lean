/-- a rule that an over names: none, a take, another -/
def RKd (h : PH) (u : MS) (G : Gh) (c : Sz) (r : Int32) (k : Nat) : Prop := (k = 0 ∧ r = -1) ∨ (∃ j, j < c.nr ∧ r = nI j ∧ ∃ y, y ≤ 2 ∧ hI h 1025 (G.rl j) = nI y ∧ mA u 40 j = nI y ∧ k = (if y = 2 then 1 else 2))
def cat (fl : Option (Nat × Int32)) (p k : Nat) : Option (Nat × Int32) := if k = 0 then fmn fl p 4 else if k = 1 then fmn fl p 5 else fl
section OV
variable {h h' : PH} {u u' : MS} {G : Gh} {z c : Sz} {L n t j : Nat} {D : Nat → Nat × Nat × Nat × List Nat} {a : Option (Nat × Int32)}
theorem RKd.q {r : Int32} {k : Nat} (S : SX h G) (rG : c.nr ≤ G.nr) (K : RKd h u G c r k) (X : Q h h') (W : W' u u') : RKd h' u' G c r k := by
  rcases K with q | ⟨j, j1, j2, y, y1, y2, y3, y4⟩
  · exact .inl q
  · have r30 := S.nr30
    exact .inr ⟨j, j1, j2, y, y1, (X.I _ _ (ne_ow (S.rlo j (by omega)) S.o23 (by omega))).trans y2, by rw [W.A]; exact y3, y4⟩
theorem RKd.eq {r : Int32} {k k' : Nat} (K : RKd h u G c r k) (K' : RKd h u G c r k') (c30 : c.nr ≤ 30) : k = k' := by
  rcases K with ⟨q1, q2⟩ | ⟨j, j1, j2, y, y1, y2, y3, y4⟩ <;> rcases K' with ⟨p1, p2⟩ | ⟨i, i1, i2, x, x1, x2, x3, x4⟩
  · omega
  · rw [q2] at i2; exact absurd i2.symm (nI_m1 (by omega))
  · rw [p2] at j2; exact absurd j2.symm (nI_m1 (by omega))
  · rw [j2] at i2
    have e : j = i := (nI_eq (by omega) (by omega)).mp i2
    subst e
    rw [y3] at x3
    have e : y = x := (nI_eq (by omega) (by omega)).mp x3
    subst e
    rw [y4, x4]
theorem noteR (S : SX h G) (s14 : hI h 897 14 = nI c.nr) (rG : c.nr ≤ G.nr) (C : CF h a) {r : Int32} {k : Nat} (K : RKd h u G c r k) {p : Nat} (hp : p ≤ 4000) : ∃ h', fX4_noteRule h 23 r (nI p) = some h' ∧ CF h' (cat a p k) ∧ Q h h' ∧ ∀ g, g < 526 → hI h' g 23 = hI h g 23 := by
  have r30 := S.nr30
  rcases K with ⟨k0, r1⟩ | ⟨j, j1, j2, y, y1, y2, y3, y4⟩
  · obtain ⟨h', e, C', q, g⟩ := noteC S C hp (f := 4) (by decide)
    refine ⟨h', ?_, ?_, q, g⟩
    · unfold fX4_noteRule fX4_noteRule_0
      rw [if_pos r1, oC_d S.t23, e, oB_v]
    · unfold cat
      rw [if_pos k0]; exact C'
  · have ey : nI y = 2 ↔ y = 2 := nI_eq (b := 2) (by omega) (by omega)
    have ir : fX1_isRanked h 5 r = some (if y = 2 then 0 else 1) := by
      unfold fX1_isRanked fX1_isRanked_0
      rw [oC_d S.t5, j2, ruleAt_v S s14 rG j1, oB_v, if_neg (by simp), oN_v, oC_d (S.rlT j (by omega)), y2]
      by_cases q : y = 2
      · rw [if_pos (ey.mpr q), if_pos q]
      · rw [if_neg (fun x => q (ey.mp x)), if_neg q]
    have nr1 : ¬ r = -1 := by rw [j2]; exact nI_m1 (by omega)
    have hd : fX4_noteRule h 23 r (nI p) = if y = 2 then oB (fX4_note h 23 5 (nI p)) (fun h9 => some h9) else some h := by
      unfold fX4_noteRule fX4_noteRule_0
      rw [if_neg nr1, oC_d S.t23, S.r512_23, oN_v, oC_d S.t5, ir, oB_v]
      by_cases q : y = 2
      · rw [if_pos q, if_pos rfl, if_pos q]
      · rw [if_neg q, if_neg (by decide), if_neg q]
    by_cases q : y = 2
    · rw [if_pos q] at hd y4
      obtain ⟨h', e, C', q', g⟩ := noteC S C hp (f := 5) (by decide)
      refine ⟨h', by rw [hd, e, oB_v], ?_, q', g⟩
      unfold cat
      rw [if_neg (by omega), if_pos y4]; exact C'
    · rw [if_neg q] at hd y4
      refine ⟨h, hd, ?_, Q.refl h, fun _ _ => rfl⟩
      unfold cat
      rw [if_neg (by omega), if_neg (by omega)]; exact C
theorem valueAt_v (I : PI h u G z L n D) {k : Nat} (hk : k < n) : fX10_valueAt h 24 (nI k) = some (vD (D k)) := by
  have S := I.sx
  have T := I.ts
  have n2 := T.n2
  have nk := I.nk
  have k2 := I.rm.k2
  have k3 := I.rm.k3
  unfold fX10_valueAt fX10_valueAt_0
  rw [if_neg (nI_pos (by omega)), oC_d S.t24, T.sz, if_neg (nI_ge hk (by omega)), S.r1283_24, oN_v, oC_d S.tvl, k2, oC_t (ix_n (show k < hN h G.kd by omega) (by omega)), nI_clamp (show k < 2147483648 by omega), (T.tk k hk).2.2.1]
  rfl
theorem startAt_v (I : PI h u G z L n D) {k : Nat} (hk : k < n) : fX10_startAt h 24 (nI k) = some (nI (D k).1) := by
  have S := I.sx
  have T := I.ts
  have n2 := T.n2
  have nk := I.nk
  have k1 := I.rm.k1
  have k3 := I.rm.k3
  unfold fX10_startAt fX10_startAt_0
  rw [if_neg (nI_pos (by omega)), oC_d S.t24, T.sz, if_neg (nI_ge hk (by omega)), S.r1282_24, oN_v, oC_d S.tst, k1, oC_t (ix_n (show k < hN h G.kd by omega) (by omega)), nI_clamp (show k < 2147483648 by omega), (T.tk k hk).2.1]
theorem knownM (M : MF u a) (f0 : mI u 13 = 0) {r : Int32} {k p : Nat} (fm : fX12_find u 38 (nI c.nr) (mB u 8 k) = some r) (hk : k < 1203) (hp : p ≤ 4000) (pl : mA u 6 k = nI p) : ∃ u', fX12_known u 38 (nI c.nr) (nI k) = some (u', r) ∧ MF u' (if r = -1 then fmn a p 4 else a) ∧ W' u u' ∧ mI u' 13 = 0 := by
  have i8 : ix (nI k) (mlen 8) = true := ix_n (show k < mlen 8 from hk) (by decide)
  have hd : fX12_known u 38 (nI c.nr) (nI k) = if r = -1 then oB (fX12_wrong u 4 (nI k)) (fun h6 => some (h6, r)) else some (u, r) := by
    unfold fX12_known fX12_known_0
    rw [oC_t (by decide), oC_t i8, nI_clamp (show k < 2147483648 by omega), fm, oB_v]
  by_cases q : r = -1
  · obtain ⟨u', e, M', W, f1⟩ := wrongM M f0 hk hp pl (f := 4) (by decide)
    refine ⟨u', by rw [hd, if_pos q, e, oB_v], ?_, W, f1⟩
    rw [if_pos q]; exact M'
  · refine ⟨u, by rw [hd, if_neg q], ?_, W'.refl u, f0⟩
    rw [if_neg q]; exact M
/-- the order of the flaws does not matter -/
theorem cats {fl : Option (Nat × Int32)} {pa pb ka kb : Nat} {ra rb : Int32} (hp : pa < pb) (h3 : ka ≤ 2) (h3' : kb ≤ 2) (e1 : ra = -1 ↔ ka = 0) (e2 : rb = -1 ↔ kb = 0) (e3 : ra = rb → ka = kb) : (if ra = rb ∧ ra ≠ -1 then fmn (cat (cat fl pa ka) pb kb) pb 5 else cat (cat fl pa ka) pb kb) = (if rb ≠ -1 ∧ (kb = 1 ∨ rb = ra) then fmn (if ka = 1 then fmn (if rb = -1 then fmn (if ra = -1 then fmn fl pa 4 else fl) pb 4 else (if ra = -1 then fmn fl pa 4 else fl)) pa 5 else (if rb = -1 then fmn (if ra = -1 then fmn fl pa 4 else fl) pb 4 else (if ra = -1 then fmn fl pa 4 else fl))) pb 5 else (if ka = 1 then fmn (if rb = -1 then fmn (if ra = -1 then fmn fl pa 4 else fl) pb 4 else (if ra = -1 then fmn fl pa 4 else fl)) pa 5 else (if rb = -1 then fmn (if ra = -1 then fmn fl pa 4 else fl) pb 4 else (if ra = -1 then fmn fl pa 4 else fl)))) := by
  have ha : ka = 0 ∨ ka = 1 ∨ ka = 2 := by omega
  have hb : kb = 0 ∨ kb = 1 ∨ kb = 2 := by omega
  by_cases q : ra = rb
  · have := e3 q
    subst this
    subst q
    rcases ha with q | q | q
    · have r1 := e1.mpr q
      subst q
      simp [cat, r1]
    · have r1 : ¬ ra = -1 := fun x => by have := e1.mp x; omega
      subst q
      simp [cat, r1, fmn_i]
    · have r1 : ¬ ra = -1 := fun x => by have := e1.mp x; omega
      subst q
      simp [cat, r1]
  · have q' : ¬ rb = ra := fun x => q x.symm
    rcases ha with qa | qa | qa <;> rcases hb with qb | qb | qb <;> subst qa <;> subst qb
    · exact absurd ((e1.mpr rfl).trans (e2.mpr rfl).symm) q
    · have r1 := e1.mpr rfl
      have r2 : ¬ rb = -1 := fun x => by have := e2.mp x; omega
      simp [cat, q, q', r1, r2]
    · have r1 := e1.mpr rfl
      have r2 : ¬ rb = -1 := fun x => by have := e2.mp x; omega
      simp [cat, q, q', r1, r2]
    · have r1 : ¬ ra = -1 := fun x => by have := e1.mp x; omega
      have r2 := e2.mpr rfl
      simp [cat, q, q', r1, r2]
      exact fmn_c fl pa pb 5 4 hp
    · have r1 : ¬ ra = -1 := fun x => by have := e1.mp x; omega
      have r2 : ¬ rb = -1 := fun x => by have := e2.mp x; omega
      simp [cat, q, q', r1, r2]
    · have r1 : ¬ ra = -1 := fun x => by have := e1.mp x; omega
      have r2 : ¬ rb = -1 := fun x => by have := e2.mp x; omega
      simp [cat, q, q', r1, r2]
    · have r1 : ¬ ra = -1 := fun x => by have := e1.mp x; omega
      have r2 := e2.mpr rfl
      simp [cat, q, q', r1, r2]
    · have r1 : ¬ ra = -1 := fun x => by have := e1.mp x; omega
      have r2 : ¬ rb = -1 := fun x => by have := e2.mp x; omega
      simp [cat, q, q', r1, r2]
    · have r1 : ¬ ra = -1 := fun x => by have := e1.mp x; omega
      have r2 : ¬ rb = -1 := fun x => by have := e2.mp x; omega
      simp [cat, q, q', r1, r2]
theorem addOver_v (S : SX h G) {m : Nat} (o9 : hI h 139 5 = nI m) (hm : m < 20) (x y : Int32) : fX1_addOver h 5 x y = some (sI (sA (sA h 20 m x) 21 m y) 139 5 (nI (m + 1))) := by
  simp only [fX1_addOver, fX1_addOver_0, S.t0, S.t1, S.t3, S.t5, S.t6, S.t8, S.t10, S.t12, S.t14, S.t23, S.t24, S.t7, S.t9, S.t11, S.t13, S.t15, S.t16, S.t17, S.t18, S.t19, S.t20, S.t21, S.t25, S.t29, S.t30, S.t31, S.n7, S.n9, S.n11, S.n13, S.n15, S.n16, S.n17, S.n18, S.n19, S.n20, S.n21, S.n25, S.n29, S.n30, S.n31, S.r1408_0, S.r1409_0, S.r1410_0, S.r1411_0, S.r1412_0, S.r128_5, S.r129_5, S.r130_5, S.r131_5, S.r132_5, S.r133_5, S.r134_5, S.r135_5, S.r136_5, S.r137_5, S.r138_5, S.r512_23, S.r513_23, S.r514_23, S.r515_23, S.r896_6, S.r896_8, S.r896_10, S.r896_12, S.r896_14, S.r1280_24, S.r0_1, S.ttk, S.otk, S.r0_3, S.twk, S.owk, S.r141_5, S.tpg, S.opg, S.r1281_24, S.tkd, S.okd, S.r1282_24, S.tst, S.ost, S.r1283_24, S.tvl, S.ovl, S.o0, S.o1, S.o3, S.o31, S.o5, S.o6, S.o7, S.o8, S.o9, S.o10, S.o11, S.o12, S.o13, S.o14, S.o15, S.o16, S.o17, S.o18, S.o19, S.o20, S.o21, S.o23, S.o24, S.o25, S.o29, S.o30, oN_v, oC_v, oB_v, oB2_v, oB3_v, oB4_v, oK3_v, oK4_v, oL_v, if_true, if_false, and_false, false_and, and_true, true_and, and_self, decide_true, decide_false, reduceCtorEq, not_false_eq_true, not_true_eq_false, Nat.reduceEqDiff, Nat.reduceAdd, Nat.reduceMul, Nat.add_zero, Nat.zero_add, o9, if_neg (show ¬ (20 : Int32) ≤ nI m from nI_ge (b := 20) hm (by omega)), oC_t (ix_n hm (show 20 < 2147483648 by omega)), nI_clamp (show m < 2147483648 by omega), z_hI_sA, z_hR_sA, z_hT_sA, z_hN_sA, nI_1]
end OV
