/-! the class's tokens -/
def SC (h : PH) (h' : PH) (G : Gh) : Prop := (hR h' = hR h) ∧ (hC h' = hC h) ∧ (hT h' = hT h) ∧ (hN h' = hN h) ∧ (hZ h' = hZ h) ∧ (hL h' = hL h) ∧ (∀ f a, ¬ (a = 24 ∧ (f = 1284 ∨ f = 1286)) → hI h' f a = hI h f a) ∧ (∀ a, a ≠ G.kd → a ≠ G.st → hA h' a = hA h a) ∧ (∀ a, a ≠ G.vl → hB h' a = hB h a)
theorem SC.R {h : PH} {h' : PH} {G : Gh} (X_ : SC h h' G) : hR h' = hR h := X_.1
theorem SC.C {h : PH} {h' : PH} {G : Gh} (X_ : SC h h' G) : hC h' = hC h := X_.2.1
theorem SC.T {h : PH} {h' : PH} {G : Gh} (X_ : SC h h' G) : hT h' = hT h := X_.2.2.1
theorem SC.N {h : PH} {h' : PH} {G : Gh} (X_ : SC h h' G) : hN h' = hN h := X_.2.2.2.1
theorem SC.Z {h : PH} {h' : PH} {G : Gh} (X_ : SC h h' G) : hZ h' = hZ h := X_.2.2.2.2.1
theorem SC.L {h : PH} {h' : PH} {G : Gh} (X_ : SC h h' G) : hL h' = hL h := X_.2.2.2.2.2.1
theorem SC.I {h : PH} {h' : PH} {G : Gh} (X_ : SC h h' G) : ∀ f a, ¬ (a = 24 ∧ (f = 1284 ∨ f = 1286)) → hI h' f a = hI h f a := X_.2.2.2.2.2.2.1
theorem SC.A {h : PH} {h' : PH} {G : Gh} (X_ : SC h h' G) : ∀ a, a ≠ G.kd → a ≠ G.st → hA h' a = hA h a := X_.2.2.2.2.2.2.2.1
theorem SC.B {h : PH} {h' : PH} {G : Gh} (X_ : SC h h' G) : ∀ a, a ≠ G.vl → hB h' a = hB h a := X_.2.2.2.2.2.2.2.2
theorem SC.mk {h : PH} {h' : PH} {G : Gh} (R_ : hR h' = hR h) (C_ : hC h' = hC h) (T_ : hT h' = hT h) (N_ : hN h' = hN h) (Z_ : hZ h' = hZ h) (L_ : hL h' = hL h) (I_ : ∀ f a, ¬ (a = 24 ∧ (f = 1284 ∨ f = 1286)) → hI h' f a = hI h f a) (A_ : ∀ a, a ≠ G.kd → a ≠ G.st → hA h' a = hA h a) (B_ : ∀ a, a ≠ G.vl → hB h' a = hB h a) : SC h h' G := ⟨R_, C_, T_, N_, Z_, L_, I_, A_, B_⟩
theorem SC.refl (h : PH) (G : Gh) : SC h h G := ⟨rfl, rfl, rfl, rfl, rfl, rfl, fun _ _ _ => rfl, fun _ _ _ => rfl, fun _ _ => rfl⟩
theorem SC.trans {h h1 h2 : PH} {G : Gh} (X : SC h h1 G) (Y : SC h1 h2 G) : SC h h2 G := ⟨Y.R.trans X.R, Y.C.trans X.C, Y.T.trans X.T, Y.N.trans X.N, Y.Z.trans X.Z, Y.L.trans X.L, fun f a q => (Y.I f a q).trans (X.I f a q), fun a p q => (Y.A a p q).trans (X.A a p q), fun a p => (Y.B a p).trans (X.B a p)⟩
theorem SC.sI {h h' : PH} {G : Gh} (X : SC h h' G) {f : Nat} {v : Int32} (hf : f = 1284 ∨ f = 1286) : SC h (sI h' f 24 v) G := by
  refine X.trans ⟨rfl, rfl, rfl, rfl, rfl, rfl, fun f' a q => ?_, fun _ _ _ => rfl, fun _ _ => rfl⟩
  simp only [z_hI_sI, z_hL_sI, z_hR_sI, z_hA_sI, z_hB_sI, z_hC_sI, z_hT_sI, z_hN_sI, z_hZ_sI, z_hI_sL, z_hL_sL, z_hR_sL, z_hA_sL, z_hB_sL, z_hC_sL, z_hT_sL, z_hN_sL, z_hZ_sL, z_hI_sR, z_hL_sR, z_hR_sR, z_hA_sR, z_hB_sR, z_hC_sR, z_hT_sR, z_hN_sR, z_hZ_sR, z_hI_sA, z_hL_sA, z_hR_sA, z_hA_sA, z_hB_sA, z_hC_sA, z_hT_sA, z_hN_sA, z_hZ_sA, z_hI_sB, z_hL_sB, z_hR_sB, z_hA_sB, z_hB_sB, z_hC_sB, z_hT_sB, z_hN_sB, z_hZ_sB, z_hI_sC, z_hL_sC, z_hR_sC, z_hA_sC, z_hB_sC, z_hC_sC, z_hT_sC, z_hN_sC, z_hZ_sC, z_hI_sY, z_hL_sY, z_hR_sY, z_hA_sY, z_hB_sY, z_hC_sY, z_hT_sY, z_hN_sY, z_hZ_sY, z_hI_nO, z_hL_nO, z_hR_nO, z_hA_nO, z_hB_nO, z_hC_nO, z_hT_nO, z_hN_nO, z_hZ_nO, z_hI_nA, z_hL_nA, z_hR_nA, z_hA_nA, z_hB_nA, z_hC_nA, z_hT_nA, z_hN_nA, z_hZ_nA]
  rw [if_neg (fun p => q ⟨p.2, by omega⟩)]
theorem SC.sA {h h' : PH} {G : Gh} (X : SC h h' G) {a i : Nat} {v : Int32} (ha : a = G.kd ∨ a = G.st) : SC h (sA h' a i v) G := by
  refine X.trans ⟨rfl, rfl, rfl, rfl, rfl, rfl, fun _ _ _ => rfl, fun a' q1 q2 => ?_, fun _ _ => rfl⟩
  funext j
  simp only [z_hI_sI, z_hL_sI, z_hR_sI, z_hA_sI, z_hB_sI, z_hC_sI, z_hT_sI, z_hN_sI, z_hZ_sI, z_hI_sL, z_hL_sL, z_hR_sL, z_hA_sL, z_hB_sL, z_hC_sL, z_hT_sL, z_hN_sL, z_hZ_sL, z_hI_sR, z_hL_sR, z_hR_sR, z_hA_sR, z_hB_sR, z_hC_sR, z_hT_sR, z_hN_sR, z_hZ_sR, z_hI_sA, z_hL_sA, z_hR_sA, z_hA_sA, z_hB_sA, z_hC_sA, z_hT_sA, z_hN_sA, z_hZ_sA, z_hI_sB, z_hL_sB, z_hR_sB, z_hA_sB, z_hB_sB, z_hC_sB, z_hT_sB, z_hN_sB, z_hZ_sB, z_hI_sC, z_hL_sC, z_hR_sC, z_hA_sC, z_hB_sC, z_hC_sC, z_hT_sC, z_hN_sC, z_hZ_sC, z_hI_sY, z_hL_sY, z_hR_sY, z_hA_sY, z_hB_sY, z_hC_sY, z_hT_sY, z_hN_sY, z_hZ_sY, z_hI_nO, z_hL_nO, z_hR_nO, z_hA_nO, z_hB_nO, z_hC_nO, z_hT_nO, z_hN_nO, z_hZ_nO, z_hI_nA, z_hL_nA, z_hR_nA, z_hA_nA, z_hB_nA, z_hC_nA, z_hT_nA, z_hN_nA, z_hZ_nA]
  rw [if_neg (fun p => by rcases ha with q | q <;> simp_all)]
theorem SC.sB {h h' : PH} {G : Gh} (X : SC h h' G) {i : Nat} {v : Int64} : SC h (sB h' G.vl i v) G := by
  refine X.trans ⟨rfl, rfl, rfl, rfl, rfl, rfl, fun _ _ _ => rfl, fun _ _ _ => rfl, fun a' q1 => ?_⟩
  funext j
  simp only [z_hI_sI, z_hL_sI, z_hR_sI, z_hA_sI, z_hB_sI, z_hC_sI, z_hT_sI, z_hN_sI, z_hZ_sI, z_hI_sL, z_hL_sL, z_hR_sL, z_hA_sL, z_hB_sL, z_hC_sL, z_hT_sL, z_hN_sL, z_hZ_sL, z_hI_sR, z_hL_sR, z_hR_sR, z_hA_sR, z_hB_sR, z_hC_sR, z_hT_sR, z_hN_sR, z_hZ_sR, z_hI_sA, z_hL_sA, z_hR_sA, z_hA_sA, z_hB_sA, z_hC_sA, z_hT_sA, z_hN_sA, z_hZ_sA, z_hI_sB, z_hL_sB, z_hR_sB, z_hA_sB, z_hB_sB, z_hC_sB, z_hT_sB, z_hN_sB, z_hZ_sB, z_hI_sC, z_hL_sC, z_hR_sC, z_hA_sC, z_hB_sC, z_hC_sC, z_hT_sC, z_hN_sC, z_hZ_sC, z_hI_sY, z_hL_sY, z_hR_sY, z_hA_sY, z_hB_sY, z_hC_sY, z_hT_sY, z_hN_sY, z_hZ_sY, z_hI_nO, z_hL_nO, z_hR_nO, z_hA_nO, z_hB_nO, z_hC_nO, z_hT_nO, z_hN_nO, z_hZ_nO, z_hI_nA, z_hL_nA, z_hR_nA, z_hA_nA, z_hB_nA, z_hC_nA, z_hT_nA, z_hN_nA, z_hZ_nA]
  rw [if_neg (fun p => q1 p.1)]
/-- what a scan reads -/
def SE (h : PH) (G : Gh) (L : Nat) (b : Nat → Nat) (m : Nat) : Prop := (hT h 24 = 11) ∧ (hR h 1285 24 = some 1) ∧ (hT h 1 = 1) ∧ (hI h 1 1 = nI L) ∧ (hR h 0 1 = some G.tk) ∧ (hT h G.tk = 100) ∧ (L ≤ hN h G.tk) ∧ (hN h G.tk ≤ 4000) ∧ (∀ q, q < L → hA h G.tk q &&& 255 = nI (b q)) ∧ (∀ q, b q < 256) ∧ (hR h 1280 24 = some 25) ∧ (hT h 25 = 102) ∧ (hN h 25 = 18) ∧ (∀ i, i < 18 → hB h 25 i = KWS.getD i 0) ∧ (hR h 1281 24 = some G.kd) ∧ (hR h 1282 24 = some G.st) ∧ (hR h 1283 24 = some G.vl) ∧ (hT h G.kd = 101) ∧ (hT h G.st = 101) ∧ (hT h G.vl = 102) ∧ (hN h G.kd = m) ∧ (hN h G.st = m) ∧ (hN h G.vl = m) ∧ (m ≤ 1201) ∧ (G.tk ≠ G.kd) ∧ (G.tk ≠ G.st) ∧ (G.kd ≠ G.st) ∧ (25 ≠ G.vl)
theorem SE.t24 {h : PH} {G : Gh} {L : Nat} {b : Nat → Nat} {m : Nat} (X_ : SE h G L b m) : hT h 24 = 11 := X_.1
theorem SE.src {h : PH} {G : Gh} {L : Nat} {b : Nat → Nat} {m : Nat} (X_ : SE h G L b m) : hR h 1285 24 = some 1 := X_.2.1
theorem SE.t1 {h : PH} {G : Gh} {L : Nat} {b : Nat → Nat} {m : Nat} (X_ : SE h G L b m) : hT h 1 = 1 := X_.2.2.1
theorem SE.len {h : PH} {G : Gh} {L : Nat} {b : Nat → Nat} {m : Nat} (X_ : SE h G L b m) : hI h 1 1 = nI L := X_.2.2.2.1
theorem SE.r0 {h : PH} {G : Gh} {L : Nat} {b : Nat → Nat} {m : Nat} (X_ : SE h G L b m) : hR h 0 1 = some G.tk := X_.2.2.2.2.1
theorem SE.ttk {h : PH} {G : Gh} {L : Nat} {b : Nat → Nat} {m : Nat} (X_ : SE h G L b m) : hT h G.tk = 100 := X_.2.2.2.2.2.1
theorem SE.hn {h : PH} {G : Gh} {L : Nat} {b : Nat → Nat} {m : Nat} (X_ : SE h G L b m) : L ≤ hN h G.tk := X_.2.2.2.2.2.2.1
theorem SE.hm {h : PH} {G : Gh} {L : Nat} {b : Nat → Nat} {m : Nat} (X_ : SE h G L b m) : hN h G.tk ≤ 4000 := X_.2.2.2.2.2.2.2.1
theorem SE.bt {h : PH} {G : Gh} {L : Nat} {b : Nat → Nat} {m : Nat} (X_ : SE h G L b m) : ∀ q, q < L → hA h G.tk q &&& 255 = nI (b q) := X_.2.2.2.2.2.2.2.2.1
theorem SE.bb {h : PH} {G : Gh} {L : Nat} {b : Nat → Nat} {m : Nat} (X_ : SE h G L b m) : ∀ q, b q < 256 := X_.2.2.2.2.2.2.2.2.2.1
theorem SE.r0k {h : PH} {G : Gh} {L : Nat} {b : Nat → Nat} {m : Nat} (X_ : SE h G L b m) : hR h 1280 24 = some 25 := X_.2.2.2.2.2.2.2.2.2.2.1
theorem SE.t25 {h : PH} {G : Gh} {L : Nat} {b : Nat → Nat} {m : Nat} (X_ : SE h G L b m) : hT h 25 = 102 := X_.2.2.2.2.2.2.2.2.2.2.2.1
theorem SE.n25 {h : PH} {G : Gh} {L : Nat} {b : Nat → Nat} {m : Nat} (X_ : SE h G L b m) : hN h 25 = 18 := X_.2.2.2.2.2.2.2.2.2.2.2.2.1
theorem SE.kw {h : PH} {G : Gh} {L : Nat} {b : Nat → Nat} {m : Nat} (X_ : SE h G L b m) : ∀ i, i < 18 → hB h 25 i = KWS.getD i 0 := X_.2.2.2.2.2.2.2.2.2.2.2.2.2.1
theorem SE.rk {h : PH} {G : Gh} {L : Nat} {b : Nat → Nat} {m : Nat} (X_ : SE h G L b m) : hR h 1281 24 = some G.kd := X_.2.2.2.2.2.2.2.2.2.2.2.2.2.2.1
theorem SE.rs {h : PH} {G : Gh} {L : Nat} {b : Nat → Nat} {m : Nat} (X_ : SE h G L b m) : hR h 1282 24 = some G.st := X_.2.2.2.2.2.2.2.2.2.2.2.2.2.2.2.1
theorem SE.rv {h : PH} {G : Gh} {L : Nat} {b : Nat → Nat} {m : Nat} (X_ : SE h G L b m) : hR h 1283 24 = some G.vl := X_.2.2.2.2.2.2.2.2.2.2.2.2.2.2.2.2.1
theorem SE.tkd {h : PH} {G : Gh} {L : Nat} {b : Nat → Nat} {m : Nat} (X_ : SE h G L b m) : hT h G.kd = 101 := X_.2.2.2.2.2.2.2.2.2.2.2.2.2.2.2.2.2.1
theorem SE.tst {h : PH} {G : Gh} {L : Nat} {b : Nat → Nat} {m : Nat} (X_ : SE h G L b m) : hT h G.st = 101 := X_.2.2.2.2.2.2.2.2.2.2.2.2.2.2.2.2.2.2.1
theorem SE.tvl {h : PH} {G : Gh} {L : Nat} {b : Nat → Nat} {m : Nat} (X_ : SE h G L b m) : hT h G.vl = 102 := X_.2.2.2.2.2.2.2.2.2.2.2.2.2.2.2.2.2.2.2.1
theorem SE.nkd {h : PH} {G : Gh} {L : Nat} {b : Nat → Nat} {m : Nat} (X_ : SE h G L b m) : hN h G.kd = m := X_.2.2.2.2.2.2.2.2.2.2.2.2.2.2.2.2.2.2.2.2.1
theorem SE.nst {h : PH} {G : Gh} {L : Nat} {b : Nat → Nat} {m : Nat} (X_ : SE h G L b m) : hN h G.st = m := X_.2.2.2.2.2.2.2.2.2.2.2.2.2.2.2.2.2.2.2.2.2.1
theorem SE.nvl {h : PH} {G : Gh} {L : Nat} {b : Nat → Nat} {m : Nat} (X_ : SE h G L b m) : hN h G.vl = m := X_.2.2.2.2.2.2.2.2.2.2.2.2.2.2.2.2.2.2.2.2.2.2.1
theorem SE.m1 {h : PH} {G : Gh} {L : Nat} {b : Nat → Nat} {m : Nat} (X_ : SE h G L b m) : m ≤ 1201 := X_.2.2.2.2.2.2.2.2.2.2.2.2.2.2.2.2.2.2.2.2.2.2.2.1
theorem SE.k1 {h : PH} {G : Gh} {L : Nat} {b : Nat → Nat} {m : Nat} (X_ : SE h G L b m) : G.tk ≠ G.kd := X_.2.2.2.2.2.2.2.2.2.2.2.2.2.2.2.2.2.2.2.2.2.2.2.2.1
theorem SE.k2 {h : PH} {G : Gh} {L : Nat} {b : Nat → Nat} {m : Nat} (X_ : SE h G L b m) : G.tk ≠ G.st := X_.2.2.2.2.2.2.2.2.2.2.2.2.2.2.2.2.2.2.2.2.2.2.2.2.2.1
theorem SE.k3 {h : PH} {G : Gh} {L : Nat} {b : Nat → Nat} {m : Nat} (X_ : SE h G L b m) : G.kd ≠ G.st := X_.2.2.2.2.2.2.2.2.2.2.2.2.2.2.2.2.2.2.2.2.2.2.2.2.2.2.1
theorem SE.v1 {h : PH} {G : Gh} {L : Nat} {b : Nat → Nat} {m : Nat} (X_ : SE h G L b m) : 25 ≠ G.vl := X_.2.2.2.2.2.2.2.2.2.2.2.2.2.2.2.2.2.2.2.2.2.2.2.2.2.2.2
theorem SE.mk {h : PH} {G : Gh} {L : Nat} {b : Nat → Nat} {m : Nat} (t24_ : hT h 24 = 11) (src_ : hR h 1285 24 = some 1) (t1_ : hT h 1 = 1) (len_ : hI h 1 1 = nI L) (r0_ : hR h 0 1 = some G.tk) (ttk_ : hT h G.tk = 100) (hn_ : L ≤ hN h G.tk) (hm_ : hN h G.tk ≤ 4000) (bt_ : ∀ q, q < L → hA h G.tk q &&& 255 = nI (b q)) (bb_ : ∀ q, b q < 256) (r0k_ : hR h 1280 24 = some 25) (t25_ : hT h 25 = 102) (n25_ : hN h 25 = 18) (kw_ : ∀ i, i < 18 → hB h 25 i = KWS.getD i 0) (rk_ : hR h 1281 24 = some G.kd) (rs_ : hR h 1282 24 = some G.st) (rv_ : hR h 1283 24 = some G.vl) (tkd_ : hT h G.kd = 101) (tst_ : hT h G.st = 101) (tvl_ : hT h G.vl = 102) (nkd_ : hN h G.kd = m) (nst_ : hN h G.st = m) (nvl_ : hN h G.vl = m) (m1_ : m ≤ 1201) (k1_ : G.tk ≠ G.kd) (k2_ : G.tk ≠ G.st) (k3_ : G.kd ≠ G.st) (v1_ : 25 ≠ G.vl) : SE h G L b m := ⟨t24_, src_, t1_, len_, r0_, ttk_, hn_, hm_, bt_, bb_, r0k_, t25_, n25_, kw_, rk_, rs_, rv_, tkd_, tst_, tvl_, nkd_, nst_, nvl_, m1_, k1_, k2_, k3_, v1_⟩
theorem byteAt_v {h0 h : PH} {G : Gh} {L m q : Nat} {b : Nat → Nat} (E : SE h0 G L b m) (X : SC h0 h G) (hq : q < 2147483648) : fX0_byteAt h 1 (nI q) = some (if q < L then nI (b q) else -1) := by
  have hm := E.hm
  have hn := E.hn
  have i1 : hI h 1 1 = nI L := (X.I 1 1 (by omega)).trans E.len
  simp only [fX0_byteAt, fX0_byteAt_0, if_neg (nI_pos (n := q) hq), X.T, X.R, X.N, E.t1, E.r0, E.ttk, i1, oN_v, oC_v, oB_v, oB2_v, oB3_v, oB4_v, oK3_v, oK4_v, oL_v, if_true, if_false, and_false, false_and, and_true, true_and, and_self, decide_true, decide_false, reduceCtorEq, not_false_eq_true, not_true_eq_false, Nat.reduceEqDiff, Nat.reduceAdd, Nat.reduceMul, Nat.add_zero, Nat.zero_add]
  by_cases c : q < L
  · have g1 : ¬ nI L ≤ nI q := nI_ge c (by omega)
    have g2 : ¬ nI (hN h0 G.tk) ≤ nI q := nI_ge (by omega) (by omega)
    rw [if_neg g1, if_neg g2, if_pos c, oC_t (ix_n (show q < hN h0 G.tk by omega) (by omega)), nI_clamp hq, X.A _ E.k1 E.k2, E.bt q c]
  · rw [if_pos (nI_le (by omega) (by omega)), if_neg c]
theorem blank_v {c : Nat} (h : c < 256) : fX10_isBlank (nI c) = some (if isBl c then 1 else 0) := by
  unfold fX10_isBlank fX10_isBlank_0
  have a1 : nI c = 9 ↔ c = 9 := nI_eq (b := 9) (by omega) (by omega)
  have a2 : nI c = 10 ↔ c = 10 := nI_eq (b := 10) (by omega) (by omega)
  have a3 : nI c = 13 ↔ c = 13 := nI_eq (b := 13) (by omega) (by omega)
  have a4 : nI c = 32 ↔ c = 32 := nI_eq (b := 32) (by omega) (by omega)
  simp only [a1, a2, a3, a4, isBl]
  by_cases q1 : c = 9
  · rw [if_pos q1, if_pos (.inl q1)]
  · by_cases q2 : c = 10
    · rw [if_neg q1, if_pos q2, if_pos (.inr (.inl q2))]
    · by_cases q3 : c = 13
      · rw [if_neg q1, if_neg q2, if_pos q3, if_pos (.inr (.inr (.inl q3)))]
      · by_cases q4 : c = 32
        · rw [if_neg q1, if_neg q2, if_neg q3, if_pos q4, if_pos (.inr (.inr (.inr q4)))]
        · rw [if_neg q1, if_neg q2, if_neg q3, if_neg q4, if_neg (by omega)]
/-- blanks up to q -/
def BlT (b : Nat → Nat) (L p q : Nat) : Prop := p ≤ q ∧ q ≤ L ∧ (∀ j, p ≤ j → j < q → isBl (b j)) ∧ (q = L ∨ ¬ isBl (b q))
theorem bl_ex (b : Nat → Nat) (L : Nat) : ∀ d p, p + d = L → ∃ q, BlT b L p q := by
  intro d
  induction d with
  | zero => intro p hp; exact ⟨p, Nat.le_refl _, by omega, fun j h1 h2 => by omega, .inl (by omega)⟩
  | succ d ih =>
    intro p hp
    by_cases c : isBl (b p)
    · obtain ⟨q, h1, h2, h3, h4⟩ := ih (p + 1) (by omega)
      refine ⟨q, by omega, h2, fun j a1 a2 => ?_, h4⟩
      by_cases e : j = p
      · subst e; exact c
      · exact h3 j (by omega) a2
    · exact ⟨p, Nat.le_refl _, by omega, fun j h1 h2 => by omega, .inr c⟩
theorem skip_v {h0 : PH} {G : Gh} {L m : Nat} {b : Nat → Nat} (E : SE h0 G L b m) {q : Nat} : ∀ d p f {h : PH}, p + d = q → SC h0 h G → hI h 1286 24 = nI p → BlT b L p q → ∃ h', fX10_skipBlanks_0 (f + (d + 1)) h 24 = some h' ∧ SC h h' G ∧ hI h' 1286 24 = nI q ∧ (∀ a, hA h' a = hA h a) ∧ (∀ a, hB h' a = hB h a) ∧ hI h' 1284 24 = hI h 1284 24 := by
  have hm := E.hm
  have hn := E.hn
  intro d
  induction d with
  | zero =>
    intro p f h e X at_ T
    have ep : p = q := by omega
    subst ep
    obtain ⟨t1, t2, t3, t4⟩ := T
    refine ⟨h, ?_, SC.refl h G, at_, fun _ => rfl, fun _ => rfl, rfl⟩
    show fX10_skipBlanks_0F (fX10_skipBlanks_0 f) h 24 = _
    have i1 : hI h 1 1 = nI L := (X.I 1 1 (by omega)).trans E.len
    simp only [fX10_skipBlanks_0F, X.T, X.R, E.t24, E.src, E.t1, i1, at_, oN_v, oC_v, oB_v, oB2_v, oB3_v, oB4_v, oK3_v, oK4_v, oL_v, if_true, if_false, and_false, false_and, and_true, true_and, and_self, decide_true, decide_false, reduceCtorEq, not_false_eq_true, not_true_eq_false, Nat.reduceEqDiff, Nat.reduceAdd, Nat.reduceMul, Nat.add_zero, Nat.zero_add]
    rcases t4 with q | q
    · rw [if_pos (nI_le (by omega) (by omega))]
    · by_cases c : p < L
      · rw [if_neg (nI_ge c (by omega)), byteAt_v E X (by omega), if_pos c, oB_v, blank_v (E.bb p), if_neg q, oB_v, if_pos rfl]
      · rw [if_pos (nI_le (by omega) (by omega))]
  | succ d ih =>
    intro p f h e X at_ T
    obtain ⟨t1, t2, t3, t4⟩ := T
    have c : p < L := by omega
    have i1 : hI h 1 1 = nI L := (X.I 1 1 (by omega)).trans E.len
    obtain ⟨h', e', X', a', A', B', S'⟩ := ih (p + 1) f (h := sI h 1286 24 (nI (p + 1))) (by omega) (X.sI (.inr rfl)) (by simp only [z_hI_sI, z_hL_sI, z_hR_sI, z_hA_sI, z_hB_sI, z_hC_sI, z_hT_sI, z_hN_sI, z_hZ_sI, z_hI_sL, z_hL_sL, z_hR_sL, z_hA_sL, z_hB_sL, z_hC_sL, z_hT_sL, z_hN_sL, z_hZ_sL, z_hI_sR, z_hL_sR, z_hR_sR, z_hA_sR, z_hB_sR, z_hC_sR, z_hT_sR, z_hN_sR, z_hZ_sR, z_hI_sA, z_hL_sA, z_hR_sA, z_hA_sA, z_hB_sA, z_hC_sA, z_hT_sA, z_hN_sA, z_hZ_sA, z_hI_sB, z_hL_sB, z_hR_sB, z_hA_sB, z_hB_sB, z_hC_sB, z_hT_sB, z_hN_sB, z_hZ_sB, z_hI_sC, z_hL_sC, z_hR_sC, z_hA_sC, z_hB_sC, z_hC_sC, z_hT_sC, z_hN_sC, z_hZ_sC, z_hI_sY, z_hL_sY, z_hR_sY, z_hA_sY, z_hB_sY, z_hC_sY, z_hT_sY, z_hN_sY, z_hZ_sY, z_hI_nO, z_hL_nO, z_hR_nO, z_hA_nO, z_hB_nO, z_hC_nO, z_hT_nO, z_hN_nO, z_hZ_nO, z_hI_nA, z_hL_nA, z_hR_nA, z_hA_nA, z_hB_nA, z_hC_nA, z_hT_nA, z_hN_nA, z_hZ_nA, if_true, if_false, and_false, false_and, and_true, true_and, and_self, decide_true, decide_false, reduceCtorEq, not_false_eq_true, not_true_eq_false, Nat.reduceEqDiff, Nat.reduceAdd, Nat.reduceMul, Nat.add_zero, Nat.zero_add]) ⟨by omega, t2, fun j a1 a2 => t3 j (by omega) a2, t4⟩
    refine ⟨h', ?_, ((SC.refl h G).sI (.inr rfl)).trans X', a', fun a => (A' a).trans rfl, fun a => (B' a).trans rfl, S'.trans (by simp only [z_hI_sI, z_hL_sI, z_hR_sI, z_hA_sI, z_hB_sI, z_hC_sI, z_hT_sI, z_hN_sI, z_hZ_sI, z_hI_sL, z_hL_sL, z_hR_sL, z_hA_sL, z_hB_sL, z_hC_sL, z_hT_sL, z_hN_sL, z_hZ_sL, z_hI_sR, z_hL_sR, z_hR_sR, z_hA_sR, z_hB_sR, z_hC_sR, z_hT_sR, z_hN_sR, z_hZ_sR, z_hI_sA, z_hL_sA, z_hR_sA, z_hA_sA, z_hB_sA, z_hC_sA, z_hT_sA, z_hN_sA, z_hZ_sA, z_hI_sB, z_hL_sB, z_hR_sB, z_hA_sB, z_hB_sB, z_hC_sB, z_hT_sB, z_hN_sB, z_hZ_sB, z_hI_sC, z_hL_sC, z_hR_sC, z_hA_sC, z_hB_sC, z_hC_sC, z_hT_sC, z_hN_sC, z_hZ_sC, z_hI_sY, z_hL_sY, z_hR_sY, z_hA_sY, z_hB_sY, z_hC_sY, z_hT_sY, z_hN_sY, z_hZ_sY, z_hI_nO, z_hL_nO, z_hR_nO, z_hA_nO, z_hB_nO, z_hC_nO, z_hT_nO, z_hN_nO, z_hZ_nO, z_hI_nA, z_hL_nA, z_hR_nA, z_hA_nA, z_hB_nA, z_hC_nA, z_hT_nA, z_hN_nA, z_hZ_nA, if_true, if_false, and_false, false_and, and_true, true_and, and_self, decide_true, decide_false, reduceCtorEq, not_false_eq_true, not_true_eq_false, Nat.reduceEqDiff, Nat.reduceAdd, Nat.reduceMul, Nat.add_zero, Nat.zero_add])⟩
    show fX10_skipBlanks_0F (fX10_skipBlanks_0 (f + (d + 1))) h 24 = _
    simp only [fX10_skipBlanks_0F, X.T, X.R, E.t24, E.src, E.t1, i1, at_, oN_v, oC_v, oB_v, oB2_v, oB3_v, oB4_v, oK3_v, oK4_v, oL_v, if_true, if_false, and_false, false_and, and_true, true_and, and_self, decide_true, decide_false, reduceCtorEq, not_false_eq_true, not_true_eq_false, Nat.reduceEqDiff, Nat.reduceAdd, Nat.reduceMul, Nat.add_zero, Nat.zero_add]
    rw [if_neg (nI_ge c (by omega)), byteAt_v E X (by omega), if_pos c, oB_v, blank_v (E.bb p), if_pos (t3 p (by omega) (by omega)), oB_v, if_neg (by decide), nI_1]
    exact e'
