/-! the class in a judgment -/
def CEv (h : PH) (G : Gh) (z : Sz) (u0 : MS) (nu : Nat → Int32) (E1 : Nat → List Tok) (E2 : Nat → List Tok) (E3 : Nat → List Tok) : Prop := (SX h G) ∧ (G.jj = true) ∧ (SzC h z) ∧ (KR h u0 G z) ∧ (Mo h u0 G z E1 E2 E3) ∧ (∀ p, p < 5 → hA h (G.jd 2) p = nI p) ∧ (∀ i, i < 20 → hA h 17 i = nu i ∧ (nu i).toInt.natAbs ≤ 999999) ∧ (z.pc ≤ hN h G.pg) ∧ (hN h G.pg ≤ 131072)
theorem CEv.s {h : PH} {G : Gh} {z : Sz} {u0 : MS} {nu : Nat → Int32} {E1 : Nat → List Tok} {E2 : Nat → List Tok} {E3 : Nat → List Tok} (X_ : CEv h G z u0 nu E1 E2 E3) : SX h G := X_.1
theorem CEv.j {h : PH} {G : Gh} {z : Sz} {u0 : MS} {nu : Nat → Int32} {E1 : Nat → List Tok} {E2 : Nat → List Tok} {E3 : Nat → List Tok} (X_ : CEv h G z u0 nu E1 E2 E3) : G.jj = true := X_.2.1
theorem CEv.c {h : PH} {G : Gh} {z : Sz} {u0 : MS} {nu : Nat → Int32} {E1 : Nat → List Tok} {E2 : Nat → List Tok} {E3 : Nat → List Tok} (X_ : CEv h G z u0 nu E1 E2 E3) : SzC h z := X_.2.2.1
theorem CEv.k {h : PH} {G : Gh} {z : Sz} {u0 : MS} {nu : Nat → Int32} {E1 : Nat → List Tok} {E2 : Nat → List Tok} {E3 : Nat → List Tok} (X_ : CEv h G z u0 nu E1 E2 E3) : KR h u0 G z := X_.2.2.2.1
theorem CEv.mo {h : PH} {G : Gh} {z : Sz} {u0 : MS} {nu : Nat → Int32} {E1 : Nat → List Tok} {E2 : Nat → List Tok} {E3 : Nat → List Tok} (X_ : CEv h G z u0 nu E1 E2 E3) : Mo h u0 G z E1 E2 E3 := X_.2.2.2.2.1
theorem CEv.wh {h : PH} {G : Gh} {z : Sz} {u0 : MS} {nu : Nat → Int32} {E1 : Nat → List Tok} {E2 : Nat → List Tok} {E3 : Nat → List Tok} (X_ : CEv h G z u0 nu E1 E2 E3) : ∀ p, p < 5 → hA h (G.jd 2) p = nI p := X_.2.2.2.2.2.1
theorem CEv.nm {h : PH} {G : Gh} {z : Sz} {u0 : MS} {nu : Nat → Int32} {E1 : Nat → List Tok} {E2 : Nat → List Tok} {E3 : Nat → List Tok} (X_ : CEv h G z u0 nu E1 E2 E3) : ∀ i, i < 20 → hA h 17 i = nu i ∧ (nu i).toInt.natAbs ≤ 999999 := X_.2.2.2.2.2.2.1
theorem CEv.pl {h : PH} {G : Gh} {z : Sz} {u0 : MS} {nu : Nat → Int32} {E1 : Nat → List Tok} {E2 : Nat → List Tok} {E3 : Nat → List Tok} (X_ : CEv h G z u0 nu E1 E2 E3) : z.pc ≤ hN h G.pg := X_.2.2.2.2.2.2.2.1
theorem CEv.pm {h : PH} {G : Gh} {z : Sz} {u0 : MS} {nu : Nat → Int32} {E1 : Nat → List Tok} {E2 : Nat → List Tok} {E3 : Nat → List Tok} (X_ : CEv h G z u0 nu E1 E2 E3) : hN h G.pg ≤ 131072 := X_.2.2.2.2.2.2.2.2
theorem CEv.mk {h : PH} {G : Gh} {z : Sz} {u0 : MS} {nu : Nat → Int32} {E1 : Nat → List Tok} {E2 : Nat → List Tok} {E3 : Nat → List Tok} (s_ : SX h G) (j_ : G.jj = true) (c_ : SzC h z) (k_ : KR h u0 G z) (mo_ : Mo h u0 G z E1 E2 E3) (wh_ : ∀ p, p < 5 → hA h (G.jd 2) p = nI p) (nm_ : ∀ i, i < 20 → hA h 17 i = nu i ∧ (nu i).toInt.natAbs ≤ 999999) (pl_ : z.pc ≤ hN h G.pg) (pm_ : hN h G.pg ≤ 131072) : CEv h G z u0 nu E1 E2 E3 := ⟨s_, j_, c_, k_, mo_, wh_, nm_, pl_, pm_⟩
theorem Mo.fr {h h' : PH} {u : MS} {G : Gh} {z : Sz} {E1 E2 E3 : Nat → List Tok} (S : SX h G) (K : KR h u G z) (A : Ag (gr (hZ h) G 3) h h') (mo : Mo h u G z E1 E2 E3) : Mo h' u G z E1 E2 E3 := by
  have kn := K.nrG
  have n30 := S.nr30
  have ap := (A G.pg ⟨S.lt S.tpg (by omega), by rw [S.opg]⟩).2.2.1
  have pg : ∀ {nv : Nat} {cs ce rs re : Int32} {e : List Tok}, PgE h u G z nv cs ce rs re e → PgE h' u G z nv cs ce rs re e := by
    intro nv cs ce rs re e ⟨i, j, p1, p2, p3, p4, p5, p6, p7, p8, p9⟩
    exact ⟨i, j, p1, p2, p3, p4, p5, p6, p7, fun k hk => by rw [ap]; exact p8 k hk, p9⟩
  apply Mo.mk
  · intro r k hr hk h3
    obtain ⟨l, kk, n, v, h1, h2, h3', h4, h5, h6, h7, h8, h9, ha, hb, hc', hd, he, hf⟩ := K.ru r hr
    have en : cN u r = n := by unfold cN; rw [hb, nI_clamp (by omega)]
    have g := (A (G.cd r k) ⟨S.lt (S.cdT r (by omega) k (by omega)) (by omega), by rw [S.cdo r (by omega) k (by omega)]; omega⟩).1
    have q := mo.cd r k hr hk h3
    unfold PgC at *
    rw [g, g, g]
    exact ⟨pg q.1, pg q.2⟩
  · intro r hr h2
    have g := (A (G.hd r) ⟨S.lt (S.hdT r (by omega)) (by omega), by rw [S.hdo r (by omega)]; omega⟩).1
    rw [g, g]
    exact pg (mo.hd r hr h2)
theorem CEv.ch {h h' : PH} {G : Gh} {P : Nat → Prop} {z : Sz} {u0 : MS} {nu : Nat → Int32} {E1 E2 E3 : Nat → List Tok} (W : CEv h G z u0 nu E1 E2 E3) (k : CH G P h h') (w2 : ∀ p, p < 5 → hA h' (G.jd 2) p = hA h (G.jd 2) p) : CEv h' G z u0 nu E1 E2 E3 := by
  have S := W.s
  have J := W.j
  have o5 := k.out S J (a := 5) (by rw [S.o5]; omega)
  have o6 := k.out S J (a := 6) (by rw [S.o6]; omega)
  have o8 := k.out S J (a := 8) (by rw [S.o8]; omega)
  have o10 := k.out S J (a := 10) (by rw [S.o10]; omega)
  have o12 := k.out S J (a := 12) (by rw [S.o12]; omega)
  have o14 := k.out S J (a := 14) (by rw [S.o14]; omega)
  have o17 := k.out S J (a := 17) (by rw [S.o17]; omega)
  obtain ⟨c1, c2, c3, c4, c5, c6, c7⟩ := W.c
  apply CEv.mk
  · exact k.sx S
  · exact J
  · unfold SzC
    rw [o6.1, o8.1, o10.1, o12.1, o14.1, o5.1, o5.1]
    exact W.c
  · exact W.k.fr S (k.gr S J (by decide)) (MAg.refl u0)
  · exact W.mo.fr S W.k (k.gr S J (by decide))
  · intro p hp; rw [w2 p hp]; exact W.wh p hp
  · intro i hi; rw [o17.2.2.1]; exact W.nm i hi
  · rw [k.1.2.2.2.1]; exact W.pl
  · rw [k.1.2.2.2.1]; exact W.pm
theorem CEv.ch2 {h h' : PH} {G : Gh} {P : Nat → Prop} {z : Sz} {u0 : MS} {nu : Nat → Int32} {E1 E2 E3 : Nat → List Tok} (W : CEv h G z u0 nu E1 E2 E3) (k : CH G P h h') (n2 : ¬ P 2) : CEv h' G z u0 nu E1 E2 E3 := W.ch k fun p _ => (k.own W.s W.j (show vj 2 by unfold vj; omega) n2).2.2.1 p
theorem fillL {G : Gh} {i N : Nat} {v : Int32} (w : vj i) (hN' : N ≤ 1000) : ∀ m q f h, q + m = N → hT h (G.jd i) = 101 → hN h (G.jd i) = N → (∀ j, j < q → hA h (G.jd i) j = v) → ∃ h', fJ7_fill_53178_5 (f + (m + 1)) h (some (G.jd i)) v (nI q) (nI N) = some h' ∧ CH G (fun k => k = i) h h' ∧ ∀ j, j < N → hA h' (G.jd i) j = v
  | 0, q, f, h, e, t, n, hz => by
    have eq' : q = N := e
    subst eq'
    have ul : fJ7_fill_53178_5 (f + (0 + 1)) h (some (G.jd i)) v (nI q) (nI q) = fJ7_fill_53178_5F (fJ7_fill_53178_5 f) h (some (G.jd i)) v (nI q) (nI q) := rfl
    exact ⟨h, by rw [ul, fJ7_fill_53178_5F, if_pos (Int32.le_refl _)], CH.refl G _ h, hz⟩
  | m + 1, q, f, h, e, t, n, hz => by
    have ul : fJ7_fill_53178_5 (f + (m + 1 + 1)) h (some (G.jd i)) v (nI q) (nI N) = fJ7_fill_53178_5F (fJ7_fill_53178_5 (f + (m + 1))) h (some (G.jd i)) v (nI q) (nI N) := rfl
    have c : CH G (fun k => k = i) h (sA h (G.jd i) q v) := (CH.refl G _ h).sA w rfl
    obtain ⟨h', a1, a2, a3⟩ := fillL w hN' m (q + 1) f (sA h (G.jd i) q v) (by omega) t n (fun j hj => by
      simp only [z_hI_sI, z_hL_sI, z_hR_sI, z_hA_sI, z_hB_sI, z_hC_sI, z_hT_sI, z_hN_sI, z_hZ_sI, z_hI_sL, z_hL_sL, z_hR_sL, z_hA_sL, z_hB_sL, z_hC_sL, z_hT_sL, z_hN_sL, z_hZ_sL, z_hI_sR, z_hL_sR, z_hR_sR, z_hA_sR, z_hB_sR, z_hC_sR, z_hT_sR, z_hN_sR, z_hZ_sR, z_hI_sA, z_hL_sA, z_hR_sA, z_hA_sA, z_hB_sA, z_hC_sA, z_hT_sA, z_hN_sA, z_hZ_sA, z_hI_sB, z_hL_sB, z_hR_sB, z_hA_sB, z_hB_sB, z_hC_sB, z_hT_sB, z_hN_sB, z_hZ_sB, z_hI_sC, z_hL_sC, z_hR_sC, z_hA_sC, z_hB_sC, z_hC_sC, z_hT_sC, z_hN_sC, z_hZ_sC, z_hI_sY, z_hL_sY, z_hR_sY, z_hA_sY, z_hB_sY, z_hC_sY, z_hT_sY, z_hN_sY, z_hZ_sY, z_hI_nO, z_hL_nO, z_hR_nO, z_hA_nO, z_hB_nO, z_hC_nO, z_hT_nO, z_hN_nO, z_hZ_nO, z_hI_nA, z_hL_nA, z_hR_nA, z_hA_nA, z_hB_nA, z_hC_nA, z_hT_nA, z_hN_nA, z_hZ_nA, if_true, if_false, and_false, false_and, and_true, true_and, and_self, decide_true, decide_false, reduceCtorEq, not_false_eq_true, not_true_eq_false, Nat.reduceEqDiff, Nat.reduceAdd, Nat.reduceMul, Nat.add_zero, Nat.zero_add]
      by_cases d : j = q
      · rw [if_pos d]
      · rw [if_neg d]; exact hz j (by omega))
    refine ⟨h', ?_, c.trans a2, a3⟩
    rw [ul, fJ7_fill_53178_5F, if_neg (nI_ge (by omega) (by omega)), oN_v, oC_d t, n, oC_t (ix_n (show q < N by omega) (by omega)), nI_clamp (show q < 2147483648 by omega), oL_v, oL_v, show nI q + 1 = nI (q + 1) from nI_add q 1]
    exact a1
theorem fillC {h : PH} {G : Gh} {i N : Nat} {v : Int32} (w : vj i) (hN' : N ≤ 1000) (t : hT h (G.jd i) = 101) (n : hN h (G.jd i) = N) : ∃ h', fJ7_fill_53178 h (some (G.jd i)) v = some h' ∧ CH G (fun k => k = i) h h' ∧ ∀ j, j < N → hA h' (G.jd i) j = v := by
  obtain ⟨f, hf⟩ : ∃ f', FU = f' + (N + 1) := ⟨FU - (N + 1), by have : FU = 100000 := rfl; omega⟩
  obtain ⟨h', a1, a2, a3⟩ := fillL (v := v) w hN' N 0 f h (by omega) t n (fun j hj => by omega)
  refine ⟨h', ?_, a2, a3⟩
  rw [fJ7_fill_53178, fJ7_fill_53178_0, oN_v, oC_d t, n, oL_v, hf]
  exact a1
