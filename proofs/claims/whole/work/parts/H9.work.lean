/-! the class works a formula -/
def pe (β : Nat → Nat) (t : Nat) : Nat := if t < 5 then t else β (t - 5)
def WC (h : PH) (G : Gh) (β : Nat → Nat) (nv : Nat) (np : Nat) (c : Nat) (nu : Nat → Int32) : Prop := (SX h G) ∧ (G.jj = true) ∧ (∀ p, p < 5 → hA h (G.jd 2) p = nI p) ∧ (∀ v, v < nv → hA h (G.jd 2) (5 + v) = nI (β v) ∧ β v < np) ∧ (nv ≤ 3) ∧ (np ≤ 5) ∧ (∀ i, i < 20 → hA h 17 i = nu i ∧ (nu i).toInt.natAbs ≤ 999999) ∧ (hI h 142 5 = nI c) ∧ (c ≤ hN h G.pg) ∧ (hN h G.pg ≤ 131072)
theorem WC.s {h : PH} {G : Gh} {β : Nat → Nat} {nv : Nat} {np : Nat} {c : Nat} {nu : Nat → Int32} (X_ : WC h G β nv np c nu) : SX h G := X_.1
theorem WC.j {h : PH} {G : Gh} {β : Nat → Nat} {nv : Nat} {np : Nat} {c : Nat} {nu : Nat → Int32} (X_ : WC h G β nv np c nu) : G.jj = true := X_.2.1
theorem WC.w {h : PH} {G : Gh} {β : Nat → Nat} {nv : Nat} {np : Nat} {c : Nat} {nu : Nat → Int32} (X_ : WC h G β nv np c nu) : ∀ p, p < 5 → hA h (G.jd 2) p = nI p := X_.2.2.1
theorem WC.b {h : PH} {G : Gh} {β : Nat → Nat} {nv : Nat} {np : Nat} {c : Nat} {nu : Nat → Int32} (X_ : WC h G β nv np c nu) : ∀ v, v < nv → hA h (G.jd 2) (5 + v) = nI (β v) ∧ β v < np := X_.2.2.2.1
theorem WC.n3 {h : PH} {G : Gh} {β : Nat → Nat} {nv : Nat} {np : Nat} {c : Nat} {nu : Nat → Int32} (X_ : WC h G β nv np c nu) : nv ≤ 3 := X_.2.2.2.2.1
theorem WC.p5 {h : PH} {G : Gh} {β : Nat → Nat} {nv : Nat} {np : Nat} {c : Nat} {nu : Nat → Int32} (X_ : WC h G β nv np c nu) : np ≤ 5 := X_.2.2.2.2.2.1
theorem WC.nm {h : PH} {G : Gh} {β : Nat → Nat} {nv : Nat} {np : Nat} {c : Nat} {nu : Nat → Int32} (X_ : WC h G β nv np c nu) : ∀ i, i < 20 → hA h 17 i = nu i ∧ (nu i).toInt.natAbs ≤ 999999 := X_.2.2.2.2.2.2.1
theorem WC.pc {h : PH} {G : Gh} {β : Nat → Nat} {nv : Nat} {np : Nat} {c : Nat} {nu : Nat → Int32} (X_ : WC h G β nv np c nu) : hI h 142 5 = nI c := X_.2.2.2.2.2.2.2.1
theorem WC.pl {h : PH} {G : Gh} {β : Nat → Nat} {nv : Nat} {np : Nat} {c : Nat} {nu : Nat → Int32} (X_ : WC h G β nv np c nu) : c ≤ hN h G.pg := X_.2.2.2.2.2.2.2.2.1
theorem WC.pm {h : PH} {G : Gh} {β : Nat → Nat} {nv : Nat} {np : Nat} {c : Nat} {nu : Nat → Int32} (X_ : WC h G β nv np c nu) : hN h G.pg ≤ 131072 := X_.2.2.2.2.2.2.2.2.2
theorem WC.mk {h : PH} {G : Gh} {β : Nat → Nat} {nv : Nat} {np : Nat} {c : Nat} {nu : Nat → Int32} (s_ : SX h G) (j_ : G.jj = true) (w_ : ∀ p, p < 5 → hA h (G.jd 2) p = nI p) (b_ : ∀ v, v < nv → hA h (G.jd 2) (5 + v) = nI (β v) ∧ β v < np) (n3_ : nv ≤ 3) (p5_ : np ≤ 5) (nm_ : ∀ i, i < 20 → hA h 17 i = nu i ∧ (nu i).toInt.natAbs ≤ 999999) (pc_ : hI h 142 5 = nI c) (pl_ : c ≤ hN h G.pg) (pm_ : hN h G.pg ≤ 131072) : WC h G β nv np c nu := ⟨s_, j_, w_, b_, n3_, p5_, nm_, pc_, pl_, pm_⟩
theorem WC.ch {h h' : PH} {G : Gh} {P : Nat → Prop} {β : Nat → Nat} {nv np c : Nat} {nu : Nat → Int32} (W : WC h G β nv np c nu) (k : CH G P h h') (n2 : ¬ P 2) : WC h' G β nv np c nu := by
  have S := W.s
  have J := W.j
  have e2 := (k.own S J (j := 2) (.inl (by decide)) n2).2.2.1
  have e17 := (k.out S J (a := 17) (by rw [S.o17]; decide)).2.2.1
  have e5 := (k.out S J (a := 5) (by rw [S.o5]; decide)).1
  have eN : hN h' = hN h := k.1.2.2.2.1
  apply WC.mk
  · exact k.sx S
  · exact J
  · intro p hp; rw [e2]; exact W.w p hp
  · intro v hv; rw [e2]; exact W.b v hv
  · exact W.n3
  · exact W.p5
  · intro i hi; rw [e17]; exact W.nm i hi
  · rw [e5]; exact W.pc
  · rw [eN]; exact W.pl
  · rw [eN]; exact W.pm
theorem pe_lt {β : Nat → Nat} {nv np t : Nat} (b : ∀ v, v < nv → β v < np) (o : okTm nv np t) : pe β t < np := by
  unfold pe
  rcases o with ⟨o1, o2⟩ | ⟨o1, o2, o3⟩
  · rw [if_pos o2]; exact o1
  · rw [if_neg (by omega)]; exact b _ (by omega)
theorem personC {h : PH} {G : Gh} {β : Nat → Nat} {nv np c t : Nat} {nu : Nat → Int32} (W : WC h G β nv np c nu) (o : okTm nv np t) : fX6_personOf h (G.jd 1) (nI t) = some (nI (pe β t)) := by
  have S := W.s
  have J := W.j
  have t8 : t < 8 := by
    have := W.n3
    rcases o with ⟨o1, o2⟩ | ⟨o1, o2, o3⟩ <;> omega
  have e : hA h (G.jd 2) t = nI (pe β t) := by
    unfold pe
    rcases o with ⟨o1, o2⟩ | ⟨o1, o2, o3⟩
    · rw [if_pos o2]; exact W.w t o2
    · rw [if_neg (by omega)]
      have := (W.b (t - 5) (by omega)).1
      rw [show 5 + (t - 5) = t by omega] at this
      exact this
  unfold fX6_personOf fX6_personOf_0
  simp only [if_neg (nI_pos (show t < 2147483648 by omega)), S.jY J, S.jt0 J, S.jt1 J, S.jt2 J, S.jt3 J, S.jt4 J, S.jt5 J, S.jt6 J, S.jt7 J, S.jt8 J, S.jt9 J, S.jt10 J, S.jt11 J, S.jt12 J, S.jt13 J, S.jt14 J, S.jt15 J, S.jt16 J, S.jt17 J, S.jt18 J, S.jt19 J, S.jt20 J, S.jn2 J, S.jn3 J, S.jn9 J, S.jn10 J, S.jn11 J, S.jn12 J, S.jn13 J, S.jn14 J, S.jn18 J, S.jn19 J, S.jn20 J, S.jr640 J, S.jr641 J, S.jr768 J, S.jr769 J, S.jr770 J, S.jr771 J, S.jr772 J, S.jr773 J, S.jr774 J, S.jr775 J, S.jr645 J, S.jr646 J, S.jr647 J, S.jr648 J, S.jr649 J, S.jr650 J, S.jr652 J, S.jr653 J, S.jr654 J, S.jr656 J, S.jr657 J, S.jr658 J, oN_v, oC_v, oB_v, oB2_v, oB3_v, oB4_v, oK3_v, oK4_v, oL_v, if_true, if_false, and_false, false_and, and_true, true_and, and_self, decide_true, decide_false, reduceCtorEq, not_false_eq_true, not_true_eq_false, Nat.reduceEqDiff, Nat.reduceAdd, Nat.reduceMul, Nat.add_zero, Nat.zero_add, if_neg (nI_ge t8 (by decide)), oC_t (ix_n t8 (by decide)), nI_clamp (show t < 2147483648 by omega), e]
theorem numberC {h : PH} {G : Gh} {β : Nat → Nat} {nv np c t k : Nat} {nu : Nat → Int32} (W : WC h G β nv np c nu) (o : okTm nv np t) (hk : k < 4) : fX6_numberOf h (G.jd 1) (nI (4 * t + k)) = some (nu (4 * pe β t + k)) := by
  have S := W.s
  have J := W.j
  have l := pe_lt (fun v hv => (W.b v hv).2) o
  have p5 := W.p5
  have t8 : t < 8 := by
    have := W.n3
    rcases o with ⟨o1, o2⟩ | ⟨o1, o2, o3⟩ <;> omega
  have e1 : nI (4 * t + k) / 4 = nI t := by
    rw [show (4 : Int32) = nI 4 from rfl, nI_div (by omega) (by decide)]
    congr 1; omega
  have e2 : nI (4 * t + k) - nI t * 4 = nI k := by
    rw [show (4 : Int32) = nI 4 from rfl, nI_mul, nI_sub (by omega)]
    congr 1; omega
  have e3 : nI (pe β t) * 4 + nI k = nI (4 * pe β t + k) := by
    rw [show (4 : Int32) = nI 4 from rfl, nI_mul, nI_add, Nat.mul_comm]
  have l20 : 4 * pe β t + k < 20 := by omega
  unfold fX6_numberOf fX6_numberOf_0
  simp only [S.jY J, S.jt0 J, S.jt1 J, S.jt2 J, S.jt3 J, S.jt4 J, S.jt5 J, S.jt6 J, S.jt7 J, S.jt8 J, S.jt9 J, S.jt10 J, S.jt11 J, S.jt12 J, S.jt13 J, S.jt14 J, S.jt15 J, S.jt16 J, S.jt17 J, S.jt18 J, S.jt19 J, S.jt20 J, S.jn2 J, S.jn3 J, S.jn9 J, S.jn10 J, S.jn11 J, S.jn12 J, S.jn13 J, S.jn14 J, S.jn18 J, S.jn19 J, S.jn20 J, S.jr640 J, S.jr641 J, S.jr768 J, S.jr769 J, S.jr770 J, S.jr771 J, S.jr772 J, S.jr773 J, S.jr774 J, S.jr775 J, S.jr645 J, S.jr646 J, S.jr647 J, S.jr648 J, S.jr649 J, S.jr650 J, S.jr652 J, S.jr653 J, S.jr654 J, S.jr656 J, S.jr657 J, S.jr658 J, e1, personC W o, oN_v, oC_v, oB_v, oB2_v, oB3_v, oB4_v, oK3_v, oK4_v, oL_v, if_true, if_false, and_false, false_and, and_true, true_and, and_self, decide_true, decide_false, reduceCtorEq, not_false_eq_true, not_true_eq_false, Nat.reduceEqDiff, Nat.reduceAdd, Nat.reduceMul, Nat.add_zero, Nat.zero_add, e2, e3, if_neg (nI_pos (show 4 * pe β t + k < 2147483648 by omega)), S.t0, S.t1, S.t3, S.t5, S.t6, S.t8, S.t10, S.t12, S.t14, S.t23, S.t24, S.t7, S.t9, S.t11, S.t13, S.t15, S.t16, S.t17, S.t18, S.t19, S.t20, S.t21, S.t25, S.t29, S.t30, S.t31, S.n7, S.n9, S.n11, S.n13, S.n15, S.n16, S.n17, S.n18, S.n19, S.n20, S.n21, S.n25, S.n29, S.n30, S.n31, S.r1408_0, S.r1409_0, S.r1410_0, S.r1411_0, S.r1412_0, S.r128_5, S.r129_5, S.r130_5, S.r131_5, S.r132_5, S.r133_5, S.r134_5, S.r135_5, S.r136_5, S.r137_5, S.r138_5, S.r512_23, S.r513_23, S.r514_23, S.r515_23, S.r896_6, S.r896_8, S.r896_10, S.r896_12, S.r896_14, S.r1280_24, S.r0_1, S.ttk, S.otk, S.r0_3, S.twk, S.owk, S.r141_5, S.tpg, S.opg, S.r1281_24, S.tkd, S.okd, S.r1282_24, S.tst, S.ost, S.r1283_24, S.tvl, S.ovl, S.o0, S.o1, S.o3, S.o31, S.o5, S.o6, S.o7, S.o8, S.o9, S.o10, S.o11, S.o12, S.o13, S.o14, S.o15, S.o16, S.o17, S.o18, S.o19, S.o20, S.o21, S.o23, S.o24, S.o25, S.o29, S.o30, if_neg (nI_ge l20 (by decide)), oC_t (ix_n l20 (by decide)), nI_clamp (show 4 * pe β t + k < 2147483648 by omega), (W.nm _ l20).1]
/-! one step -/
theorem work_in {h : PH} {G : Gh} {β : Nat → Nat} {nv np c n E d i op x : Nat} {nu : Nat → Int32} (W : WC h G β nv np c nu) (hi : i < E) (hE : E ≤ c) (ho : op ≤ 7) (hx : x < 1048576) (e : hA h G.pg i = nI (1048576 * op + x)) :
    fX6_work_9 (n + 1) h (G.jd 1) (nI E) (nI d) (nI i) = (if nI op = 0 then (fX6_work_68 (fX6_work_9 n) h (G.jd 1) (nI E) (nI d) (nI i) (nI op) (nI x)) else (if nI op = 2 then (fX6_work_68 (fX6_work_9 n) h (G.jd 1) (nI E) (nI d) (nI i) (nI op) (nI x)) else (if nI op = 1 then (oN (hR h 770 (G.jd 1)) (fun a48 => oC (decide (hT h a48 = 107)) (oC (ix (nI d) (hN h a48)) (oN (hC h a48 (Int32.toNatClampNeg (nI d))) (fun a51 => oC (decide (hT h a51 = 4)) (oB (fX3_multiply h a51 1 (Int32.toInt64 (nI x)) 0) (fun h54 => fX6_work_180 (fX6_work_9 n) h54 (G.jd 1) (nI E) (nI d) (nI i)))))))) else (if nI op = 3 then (oN (hR h 770 (G.jd 1)) (fun a41 => oC (decide (hT h a41 = 107)) (oC (ix (nI d) (hN h a41)) (oN (hC h a41 (Int32.toNatClampNeg (nI d))) (fun a44 => oC (decide (hT h a44 = 4)) (oB (fX3_negate h a44) (fun h47 => fX6_work_180 (fX6_work_9 n) h47 (G.jd 1) (nI E) (nI d) (nI i)))))))) else (oL (if (nI d - 1) < 0 then 0 else (nI d - 1)) (fun y34 => oN (hR h 770 (G.jd 1)) (fun a35 => oC (decide (hT h a35 = 107)) (oC (ix y34 (hN h a35)) (oC (ix (y34 + 1) (hN h a35)) (oB (fX6_combine h (nI op) (hC h a35 (Int32.toNatClampNeg y34)) (hC h a35 (Int32.toNatClampNeg (y34 + 1)))) (fun h40 => fX6_work_180 (fX6_work_9 n) h40 (G.jd 1) (nI E) y34 (nI i)))))))))))) := by
  have S := W.s
  have J := W.j
  have a1 := W.pl
  have a2 := W.pm
  show fX6_work_9F (fX6_work_9 n) h (G.jd 1) (nI E) (nI d) (nI i) = _
  unfold fX6_work_9F
  rw [if_neg (nI_ge hi (show E < 2147483648 by omega))]
  simp only [S.jY J, S.jt0 J, S.jt1 J, S.jt2 J, S.jt3 J, S.jt4 J, S.jt5 J, S.jt6 J, S.jt7 J, S.jt8 J, S.jt9 J, S.jt10 J, S.jt11 J, S.jt12 J, S.jt13 J, S.jt14 J, S.jt15 J, S.jt16 J, S.jt17 J, S.jt18 J, S.jt19 J, S.jt20 J, S.jn2 J, S.jn3 J, S.jn9 J, S.jn10 J, S.jn11 J, S.jn12 J, S.jn13 J, S.jn14 J, S.jn18 J, S.jn19 J, S.jn20 J, S.jr640 J, S.jr641 J, S.jr768 J, S.jr769 J, S.jr770 J, S.jr771 J, S.jr772 J, S.jr773 J, S.jr774 J, S.jr775 J, S.jr645 J, S.jr646 J, S.jr647 J, S.jr648 J, S.jr649 J, S.jr650 J, S.jr652 J, S.jr653 J, S.jr654 J, S.jr656 J, S.jr657 J, S.jr658 J, S.t0, S.t1, S.t3, S.t5, S.t6, S.t8, S.t10, S.t12, S.t14, S.t23, S.t24, S.t7, S.t9, S.t11, S.t13, S.t15, S.t16, S.t17, S.t18, S.t19, S.t20, S.t21, S.t25, S.t29, S.t30, S.t31, S.n7, S.n9, S.n11, S.n13, S.n15, S.n16, S.n17, S.n18, S.n19, S.n20, S.n21, S.n25, S.n29, S.n30, S.n31, S.r1408_0, S.r1409_0, S.r1410_0, S.r1411_0, S.r1412_0, S.r128_5, S.r129_5, S.r130_5, S.r131_5, S.r132_5, S.r133_5, S.r134_5, S.r135_5, S.r136_5, S.r137_5, S.r138_5, S.r512_23, S.r513_23, S.r514_23, S.r515_23, S.r896_6, S.r896_8, S.r896_10, S.r896_12, S.r896_14, S.r1280_24, S.r0_1, S.ttk, S.otk, S.r0_3, S.twk, S.owk, S.r141_5, S.tpg, S.opg, S.r1281_24, S.tkd, S.okd, S.r1282_24, S.tst, S.ost, S.r1283_24, S.tvl, S.ovl, S.o0, S.o1, S.o3, S.o31, S.o5, S.o6, S.o7, S.o8, S.o9, S.o10, S.o11, S.o12, S.o13, S.o14, S.o15, S.o16, S.o17, S.o18, S.o19, S.o20, S.o21, S.o23, S.o24, S.o25, S.o29, S.o30, oN_v, oC_v, oB_v, oB2_v, oB3_v, oB4_v, oK3_v, oK4_v, oL_v, if_true, if_false, and_false, false_and, and_true, true_and, and_self, decide_true, decide_false, reduceCtorEq, not_false_eq_true, not_true_eq_false, Nat.reduceEqDiff, Nat.reduceAdd, Nat.reduceMul, Nat.add_zero, Nat.zero_add, W.pc, if_neg (nI_ge (show i < c by omega) (show c < 2147483648 by omega)), oC_t (ix_n (show i < hN h G.pg by omega) (by omega)), nI_clamp (show i < 2147483648 by omega), e, code_hi ho hx, code_lo ho hx]
