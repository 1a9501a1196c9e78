def Sz.wL (c : Sz) : Sz := Sz.mk c.np c.nw c.ns (c.nl + 1) c.nr c.no c.pc c.rc
theorem Sz.leL (c : Sz) : c.le c.wL := ⟨Nat.le_refl _, Nat.le_refl _, Nat.le_refl _, Nat.le_succ _, Nat.le_refl _, Nat.le_refl _, Nat.le_refl _, Nat.le_refl _⟩
theorem CT.wL {h : PH} {u : MS} {G : Gh} {c : Sz} {D : Nat → Nat × Nat × Nat × List Nat} {t : Nat} (C : CT h u G c D t) (N : NR (hB h 13 c.nl) (mB u 30 c.nl)) (P : mI u 15 = 0 → hA h 18 (5 * c.nl) = mA u 31 c.nl ∧ hA h 18 (5 * c.nl + 1) = mA u 32 c.nl ∧ hA h 18 (5 * c.nl + 2) = mA u 33 c.nl ∧ hA h 18 (5 * c.nl + 3) = mA u 34 c.nl ∧ hA h 18 (5 * c.nl + 4) = mA u 35 c.nl) : CT h u G c.wL D t :=
  CT.mk C.pn C.wn C.sn (fun i hi => by
    by_cases q : i = c.nl
    · rw [q]; exact N
    · exact C.ln i (by have : i < c.nl + 1 := hi; omega)) C.rn C.rG C.kd C.pl (fun e i hi => by
    by_cases q : i = c.nl
    · rw [q]; exact P e
    · exact C.lw e i (by have : i < c.nl + 1 := hi; omega)) (fun e r hr => (C.ru e r hr).mono c.leL)
/-- a law's row -/
def lwH (h : PH) (s : Nat) (a b c d : Int32) : PH := sA (sA (sA (sA (sA h 18 (5 * s) a) 18 (5 * s + 1) b) 18 (5 * s + 2) c) 18 (5 * s + 3) d) 18 (5 * s + 4) 0
section LW
variable {h : PH} {u : MS} {G : Gh} {z c : Sz} {L n t : Nat} {D : Nat → Nat × Nat × Nat × List Nat}
theorem setLaw_v (S : SX h G) {s m : Nat} {a b c d : Int32} (sz : hI h 897 12 = nI m) (hs : s < m) (hm : m ≤ 10) : fX1_setLaw h 5 (nI s) a b c d = some (lwH h s a b c d) := by
  have e : nI s * 5 = nI (5 * s) := by rw [show (5 : Int32) = nI 5 from rfl, nI_mul]; congr 1; omega
  have e0 : nI (5 * s) + 0 = nI (5 * s) := nI_add (5 * s) 0
  have e1 : nI (5 * s) + 1 = nI (5 * s + 1) := nI_add (5 * s) 1
  have e2 : nI (5 * s) + 2 = nI (5 * s + 2) := nI_add (5 * s) 2
  have e3 : nI (5 * s) + 3 = nI (5 * s + 3) := nI_add (5 * s) 3
  have e4 : nI (5 * s) + 4 = nI (5 * s + 4) := nI_add (5 * s) 4
  unfold lwH
  simp only [fX1_setLaw, fX1_setLaw_0, if_neg (nI_pos (n := s) (show s < 2147483648 by omega)), S.t0, S.t1, S.t3, S.t5, S.t6, S.t8, S.t10, S.t12, S.t14, S.t23, S.t24, S.t7, S.t9, S.t11, S.t13, S.t15, S.t16, S.t17, S.t18, S.t19, S.t20, S.t21, S.t25, S.t29, S.t30, S.t31, S.n7, S.n9, S.n11, S.n13, S.n15, S.n16, S.n17, S.n18, S.n19, S.n20, S.n21, S.n25, S.n29, S.n30, S.n31, S.r1408_0, S.r1409_0, S.r1410_0, S.r1411_0, S.r1412_0, S.r128_5, S.r129_5, S.r130_5, S.r131_5, S.r132_5, S.r133_5, S.r134_5, S.r135_5, S.r136_5, S.r137_5, S.r138_5, S.r512_23, S.r513_23, S.r514_23, S.r515_23, S.r896_6, S.r896_8, S.r896_10, S.r896_12, S.r896_14, S.r1280_24, S.r0_1, S.ttk, S.otk, S.r0_3, S.twk, S.owk, S.r141_5, S.tpg, S.opg, S.r1281_24, S.tkd, S.okd, S.r1282_24, S.tst, S.ost, S.r1283_24, S.tvl, S.ovl, S.o0, S.o1, S.o3, S.o31, S.o5, S.o6, S.o7, S.o8, S.o9, S.o10, S.o11, S.o12, S.o13, S.o14, S.o15, S.o16, S.o17, S.o18, S.o19, S.o20, S.o21, S.o23, S.o24, S.o25, S.o29, S.o30, oN_v, oC_v, oB_v, oB2_v, oB3_v, oB4_v, oK3_v, oK4_v, oL_v, if_true, if_false, and_false, false_and, and_true, true_and, and_self, decide_true, decide_false, reduceCtorEq, not_false_eq_true, not_true_eq_false, Nat.reduceEqDiff, Nat.reduceAdd, Nat.reduceMul, Nat.add_zero, Nat.zero_add, sz, if_pos (nI_lt hs (show m < 2147483648 by omega)), e, e0, e1, e2, e3, e4, z_hR_sA, z_hT_sA, z_hN_sA, oC_t (ix_n (show 5 * s < 50 by omega) (by omega)), oC_t (ix_n (show 5 * s + 1 < 50 by omega) (by omega)), oC_t (ix_n (show 5 * s + 2 < 50 by omega) (by omega)), oC_t (ix_n (show 5 * s + 3 < 50 by omega) (by omega)), oC_t (ix_n (show 5 * s + 4 < 50 by omega) (by omega)), nI_clamp (show 5 * s < 2147483648 by omega), nI_clamp (show 5 * s + 1 < 2147483648 by omega), nI_clamp (show 5 * s + 2 < 2147483648 by omega), nI_clamp (show 5 * s + 3 < 2147483648 by omega), nI_clamp (show 5 * s + 4 < 2147483648 by omega)]
theorem setLaw_n (a b c d : Int32) : fX1_setLaw h 5 (-1) a b c d = some h := by
  unfold fX1_setLaw fX1_setLaw_0
  rw [if_pos (by decide)]
theorem CD.lw1 (S : SX h G) {z : Sz} {i : Nat} (hi : 5 * z.nl ≤ i) (x : Int32) : CD h (sA h 18 i x) G G z := CD.xA S (.inl (by rw [S.o18])) (ne_ow S.o18 S.okd (by omega)) (ne_ow S.o18 S.ost (by omega)) (by unfold kC; omega) (fun q => by have := ne_ow S.o18 S.opg (by omega); exact this q.1)
theorem CD.lw (S : SX h G) {z : Sz} (nr : z.nr ≤ G.nr) {s : Nat} (hs : z.nl ≤ s) (a b c d : Int32) : CD h (lwH h s a b c d) G G z :=
  CD.trans nr (CD.trans nr (CD.trans nr (CD.trans nr (CD.lw1 S (by omega) a) (CD.lw1 (h := sA h 18 (5 * s) a) S (by omega) b)) (CD.lw1 (h := sA (sA h 18 (5 * s) a) 18 (5 * s + 1) b) S (by omega) c)) (CD.lw1 (h := sA (sA (sA h 18 (5 * s) a) 18 (5 * s + 1) b) 18 (5 * s + 2) c) S (by omega) d)) (CD.lw1 (h := sA (sA (sA (sA h 18 (5 * s) a) 18 (5 * s + 1) b) 18 (5 * s + 2) c) 18 (5 * s + 3) d) S (by omega) 0)
/-- the head's end: a semicolon, the row set -/
theorem law75_h (S : SX h G) {h1 : PH} {r x1 x2 x3 s0 : Int32} (e : fX4_expect h 23 59 = some (h1, r)) (q : Q h h1) (hr : r = 0 ∨ r = 1) : fX4_tellLaw_75 h 23 x1 x2 x3 s0 = oB (fX1_setLaw (sI h1 519 23 r) 5 x1 x2 (hI h 518 23) x3 s0) (fun h12 => some h12) := by
  have S1 : SX h1 G := q.sx S
  have hb : isB r = true := by rcases hr with q | q <;> rw [q] <;> decide
  have e518 : hI (sI h1 519 23 r) 518 23 = hI h 518 23 := by simp only [z_hI_sI, z_hL_sI, z_hR_sI, z_hA_sI, z_hB_sI, z_hC_sI, z_hT_sI, z_hN_sI, z_hZ_sI, z_hI_sL, z_hL_sL, z_hR_sL, z_hA_sL, z_hB_sL, z_hC_sL, z_hT_sL, z_hN_sL, z_hZ_sL, z_hI_sR, z_hL_sR, z_hR_sR, z_hA_sR, z_hB_sR, z_hC_sR, z_hT_sR, z_hN_sR, z_hZ_sR, z_hI_sA, z_hL_sA, z_hR_sA, z_hA_sA, z_hB_sA, z_hC_sA, z_hT_sA, z_hN_sA, z_hZ_sA, z_hI_sB, z_hL_sB, z_hR_sB, z_hA_sB, z_hB_sB, z_hC_sB, z_hT_sB, z_hN_sB, z_hZ_sB, z_hI_sC, z_hL_sC, z_hR_sC, z_hA_sC, z_hB_sC, z_hC_sC, z_hT_sC, z_hN_sC, z_hZ_sC, z_hI_sY, z_hL_sY, z_hR_sY, z_hA_sY, z_hB_sY, z_hC_sY, z_hT_sY, z_hN_sY, z_hZ_sY, z_hI_nO, z_hL_nO, z_hR_nO, z_hA_nO, z_hB_nO, z_hC_nO, z_hT_nO, z_hN_nO, z_hZ_nO, z_hI_nA, z_hL_nA, z_hR_nA, z_hA_nA, z_hB_nA, z_hC_nA, z_hT_nA, z_hN_nA, z_hZ_nA, if_true, if_false, and_false, false_and, and_true, true_and, and_self, decide_true, decide_false, reduceCtorEq, not_false_eq_true, not_true_eq_false, Nat.reduceEqDiff, Nat.reduceAdd, Nat.reduceMul, Nat.add_zero, Nat.zero_add]; exact q.g 518 (by omega)
  have S2 : SX (sI h1 519 23 r) G := S1
  unfold fX4_tellLaw_75
  rw [oC_d S.t23, e, oB2_v, oC_t hb, oC_d S1.t23, oL_v, S2.r512_23, oN_v, oC_d S2.t5, e518]
theorem law75_n (S : SX h G) {h1 : PH} {r x2 x3 s0 : Int32} (e : fX4_expect h 23 59 = some (h1, r)) (q : Q h h1) (hr : r = 0 ∨ r = 1) : fX4_tellLaw_75 h 23 (-1) x2 x3 s0 = some (sI h1 519 23 r) := by
  rw [law75_h S e q hr, setLaw_n, oB_v]
theorem law75_y (S : SX h G) {h1 : PH} {r x2 x3 s0 : Int32} {s m : Nat} (e : fX4_expect h 23 59 = some (h1, r)) (q : Q h h1) (hr : r = 0 ∨ r = 1) (q2 : s < m) (q3 : m ≤ 10) (q4 : hI h 897 12 = nI m) : fX4_tellLaw_75 h 23 (nI s) x2 x3 s0 = some (lwH (sI h1 519 23 r) s x2 (hI h 518 23) x3 s0) := by
  have S2 : SX (sI h1 519 23 r) G := q.sx S
  have sz : hI (sI h1 519 23 r) 897 12 = nI m := by simp only [z_hI_sI, z_hL_sI, z_hR_sI, z_hA_sI, z_hB_sI, z_hC_sI, z_hT_sI, z_hN_sI, z_hZ_sI, z_hI_sL, z_hL_sL, z_hR_sL, z_hA_sL, z_hB_sL, z_hC_sL, z_hT_sL, z_hN_sL, z_hZ_sL, z_hI_sR, z_hL_sR, z_hR_sR, z_hA_sR, z_hB_sR, z_hC_sR, z_hT_sR, z_hN_sR, z_hZ_sR, z_hI_sA, z_hL_sA, z_hR_sA, z_hA_sA, z_hB_sA, z_hC_sA, z_hT_sA, z_hN_sA, z_hZ_sA, z_hI_sB, z_hL_sB, z_hR_sB, z_hA_sB, z_hB_sB, z_hC_sB, z_hT_sB, z_hN_sB, z_hZ_sB, z_hI_sC, z_hL_sC, z_hR_sC, z_hA_sC, z_hB_sC, z_hC_sC, z_hT_sC, z_hN_sC, z_hZ_sC, z_hI_sY, z_hL_sY, z_hR_sY, z_hA_sY, z_hB_sY, z_hC_sY, z_hT_sY, z_hN_sY, z_hZ_sY, z_hI_nO, z_hL_nO, z_hR_nO, z_hA_nO, z_hB_nO, z_hC_nO, z_hT_nO, z_hN_nO, z_hZ_nO, z_hI_nA, z_hL_nA, z_hR_nA, z_hA_nA, z_hB_nA, z_hC_nA, z_hT_nA, z_hN_nA, z_hZ_nA, if_true, if_false, and_false, false_and, and_true, true_and, and_self, decide_true, decide_false, reduceCtorEq, not_false_eq_true, not_true_eq_false, Nat.reduceEqDiff, Nat.reduceAdd, Nat.reduceMul, Nat.add_zero, Nat.zero_add]; exact (q.I _ _ (by omega)).trans q4
  rw [law75_h S e q hr, setLaw_v S2 sz q2 q3, oB_v]
end LW
