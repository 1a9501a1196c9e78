/-- what a token's reading leaves: nothing but the place, and its value -/
def TN (h : PH) (h' : PH) (G : Gh) (i : Nat) (p : Nat) (v : Int64) : Prop := (SC h h' G) ∧ (hI h' 1286 24 = nI p) ∧ (∀ a, hA h' a = hA h a) ∧ (∀ j, hB h' G.vl j = if j = i then v else hB h G.vl j) ∧ (hI h' 1284 24 = hI h 1284 24)
theorem TN.sc {h : PH} {h' : PH} {G : Gh} {i : Nat} {p : Nat} {v : Int64} (X_ : TN h h' G i p v) : SC h h' G := X_.1
theorem TN.at_ {h : PH} {h' : PH} {G : Gh} {i : Nat} {p : Nat} {v : Int64} (X_ : TN h h' G i p v) : hI h' 1286 24 = nI p := X_.2.1
theorem TN.A {h : PH} {h' : PH} {G : Gh} {i : Nat} {p : Nat} {v : Int64} (X_ : TN h h' G i p v) : ∀ a, hA h' a = hA h a := X_.2.2.1
theorem TN.B {h : PH} {h' : PH} {G : Gh} {i : Nat} {p : Nat} {v : Int64} (X_ : TN h h' G i p v) : ∀ j, hB h' G.vl j = if j = i then v else hB h G.vl j := X_.2.2.2.1
theorem TN.S {h : PH} {h' : PH} {G : Gh} {i : Nat} {p : Nat} {v : Int64} (X_ : TN h h' G i p v) : hI h' 1284 24 = hI h 1284 24 := X_.2.2.2.2
theorem TN.mk {h : PH} {h' : PH} {G : Gh} {i : Nat} {p : Nat} {v : Int64} (sc_ : SC h h' G) (at__ : hI h' 1286 24 = nI p) (A_ : ∀ a, hA h' a = hA h a) (B_ : ∀ j, hB h' G.vl j = if j = i then v else hB h G.vl j) (S_ : hI h' 1284 24 = hI h 1284 24) : TN h h' G i p v := ⟨sc_, at__, A_, B_, S_⟩
theorem lgc0_v (x y : Int64) : lg_cmp x y = 0 ↔ x = y := by
  unfold lg_cmp
  by_cases h1 : x > y
  · rw [if_pos h1]
    refine ⟨fun q => absurd q (by decide), fun q => ?_⟩
    subst q
    have := Int64.lt_iff_toInt_lt.mp h1
    omega
  · rw [if_neg h1]
    by_cases h2 : x = y
    · rw [if_pos h2]; exact ⟨fun _ => h2, fun _ => rfl⟩
    · rw [if_neg h2]; exact ⟨fun q => absurd q (by decide), fun q => absurd q h2⟩
theorem kw_v {h0 h : PH} {G : Gh} {L m : Nat} {b : Nat → Nat} (E : SE h0 G L b m) (X : SC h0 h G) {x : Int64} : ∀ d j f, j + d = 18 → fX10_nextName_141 (f + (d + 1)) h 24 x (nI j) = some (h, kc x d j) := by
  intro d
  induction d with
  | zero =>
    intro j f hj
    show fX10_nextName_141F (fX10_nextName_141 f) h 24 x (nI j) = _
    unfold fX10_nextName_141F
    rw [if_pos (show (18 : Int32) ≤ nI j from nI_le (a := 18) (by omega) (by omega))]
    rfl
  | succ d ih =>
    intro j f hj
    show fX10_nextName_141F (fX10_nextName_141 (f + (d + 1))) h 24 x (nI j) = _
    unfold fX10_nextName_141F
    rw [if_neg (show ¬ (18 : Int32) ≤ nI j from nI_ge (b := 18) (by omega) (by omega)), X.T, X.R, X.N, oC_d E.t24, E.r0k, oN_v, oC_d E.t25, E.n25, oC_t (ix_n (show j < 18 by omega) (by omega)), nI_clamp (show j < 2147483648 by omega), X.B 25 E.v1, E.kw j (by omega), oL_v, nI_1, ih (j + 1) f (by omega)]
    show (if lg_cmp (KWS.getD j 0) x = 0 then some (h, 300 + nI j) else _) = some (h, if KWS.getD j 0 = x then 300 + nI j else kc x d (j + 1))
    by_cases c : KWS.getD j 0 = x
    · rw [if_pos c, if_pos ((lgc0_v _ _).mpr c)]
    · rw [if_neg c, if_neg (fun q => c ((lgc0_v _ _).mp q))]
theorem ltr1 {c : Nat} (h : ¬ isDg c) (h2 : isAn c) (h3 : c < 256) : nI c - 97 + 1 = nI (ltr c) := by
  unfold ltr
  rw [if_pos (by omega), show (97 : Int32) = nI 97 from rfl, nI_sub (by omega), nI_1]
  congr 1
  omega
theorem ltr2 {c : Nat} (h : isDg c) : nI c - 48 + 26 + 1 = nI (ltr c) := by
  unfold ltr
  rw [if_neg (by omega), show (48 : Int32) = nI 48 from rfl, nI_sub (by omega), show (26 : Int32) = nI 26 from rfl, nI_add, nI_1]
  congr 1
  omega
section CN
variable {h0 : PH} {G : Gh} {L m : Nat} {b : Nat → Nat}
/-- a name's end -/
theorem name_e (E : SE h0 G L b m) {p i : Nat} (hL : L ≤ 4000) (hi : i < m) (hp : p < L) (hN : 1 ≤ rn aln b L 5000 p) {h : PH} {x : Int64} (X : SC h0 h G) (at_ : hI h 1286 24 = nI (p + rn aln b L 5000 p)) (hx : rn aln b L 5000 p ≤ 10 → x = nL (pk 64 (nmL b p (rn aln b L 5000 p)))) : ∃ h', fX10_nextName_116 h 24 (nI i) (nI p) x = some (h', if rn aln b L 5000 p ≤ 10 then cK (kwK (nmL b p (rn aln b L 5000 p))) else 264) ∧ TN h h' G i (p + rn aln b L 5000 p) (if rn aln b L 5000 p ≤ 10 then nL (pk 64 (nmL b p (rn aln b L 5000 p))) else hB h G.vl i) := by
  have m1 := E.m1
  have hle := rn_le aln b L 5000 p (by omega)
  have hin := rn_in aln b L 5000 p
  generalize rn aln b L 5000 p = n at *
  have es : nI (p + n) - nI p = nI n := by rw [nI_sub (by omega)]; congr 1; omega
  by_cases c : n ≤ 10
  · rw [if_pos c, if_pos c]
    have ok : okN (nmL b p n) := nmL_ok hN c (fun q h1 h2 => of_decide_eq_true (hin q h1 h2))
    refine ⟨sB h G.vl i x, ?_, ?_⟩
    · unfold fX10_nextName_116
      rw [at_, es, X.T, X.R, X.N, oC_d E.t24, if_pos (show nI n ≤ 10 from nI_le (b := 10) c (by omega)), E.rv, oN_v, oC_d E.tvl, E.nvl, oC_t (ix_n hi (by omega)), oL_v, nI_clamp (show i < 2147483648 by omega)]
      have := kw_v E (X.sB (i := i) (v := x)) (x := x) 18 0 (FU - 19) (by omega)
      rw [show FU - 19 + (18 + 1) = FU by have : FU = 100000 := rfl; omega] at this
      rw [show (0 : Int32) = nI 0 from rfl, this, hx c, kc_v ok]
    · refine ⟨(SC.refl h G).sB, at_, fun _ => rfl, fun j => ?_, rfl⟩
      simp only [z_hI_sI, z_hL_sI, z_hR_sI, z_hA_sI, z_hB_sI, z_hC_sI, z_hT_sI, z_hN_sI, z_hZ_sI, z_hI_sL, z_hL_sL, z_hR_sL, z_hA_sL, z_hB_sL, z_hC_sL, z_hT_sL, z_hN_sL, z_hZ_sL, z_hI_sR, z_hL_sR, z_hR_sR, z_hA_sR, z_hB_sR, z_hC_sR, z_hT_sR, z_hN_sR, z_hZ_sR, z_hI_sA, z_hL_sA, z_hR_sA, z_hA_sA, z_hB_sA, z_hC_sA, z_hT_sA, z_hN_sA, z_hZ_sA, z_hI_sB, z_hL_sB, z_hR_sB, z_hA_sB, z_hB_sB, z_hC_sB, z_hT_sB, z_hN_sB, z_hZ_sB, z_hI_sC, z_hL_sC, z_hR_sC, z_hA_sC, z_hB_sC, z_hC_sC, z_hT_sC, z_hN_sC, z_hZ_sC, z_hI_sY, z_hL_sY, z_hR_sY, z_hA_sY, z_hB_sY, z_hC_sY, z_hT_sY, z_hN_sY, z_hZ_sY, z_hI_nO, z_hL_nO, z_hR_nO, z_hA_nO, z_hB_nO, z_hC_nO, z_hT_nO, z_hN_nO, z_hZ_nO, z_hI_nA, z_hL_nA, z_hR_nA, z_hA_nA, z_hB_nA, z_hC_nA, z_hT_nA, z_hN_nA, z_hZ_nA, if_true, if_false, and_false, false_and, and_true, true_and, and_self, decide_true, decide_false, reduceCtorEq, not_false_eq_true, not_true_eq_false, Nat.reduceEqDiff, Nat.reduceAdd, Nat.reduceMul, Nat.add_zero, Nat.zero_add]
      rw [hx c]
  · rw [if_neg c, if_neg c]
    refine ⟨h, ?_, SC.refl h G, at_, fun _ => rfl, fun j => ?_, rfl⟩
    · unfold fX10_nextName_116
      rw [at_, es, X.T, oC_d E.t24, if_neg (show ¬ nI n ≤ 10 from nI_ge (a := 10) (b := n) (by omega) (by omega))]
    · split
      · rename_i q; rw [q]
      · rfl
theorem TN.pre {h h1 h' : PH} {i p p' : Nat} {v : Int64} (S1 : SC h h1 G) (A1 : ∀ a, hA h1 a = hA h a) (B1 : ∀ a, hB h1 a = hB h a) (Z1 : hI h1 1284 24 = hI h 1284 24) (T : TN h1 h' G i p v) : TN h h' G i p v := ⟨S1.trans T.sc, T.at_, fun a => (T.A a).trans (A1 a), fun j => by rw [T.B j, B1], T.S.trans Z1⟩
theorem name_l (E : SE h0 G L b m) {p i : Nat} (hL : L ≤ 4000) (hi : i < m) (hp : p < L) (hN : 1 ≤ rn aln b L 5000 p) : ∀ d n f {h : PH} {x : Int64}, n + d = rn aln b L 5000 p → SC h0 h G → hI h 1286 24 = nI (p + n) → (n ≤ 10 → x = nL (pk 64 (nmL b p n))) → ∃ h', fX10_nextName_7 (f + (d + 1)) h 24 (nI i) (nI p) x = some (h', if rn aln b L 5000 p ≤ 10 then cK (kwK (nmL b p (rn aln b L 5000 p))) else 264) ∧ TN h h' G i (p + rn aln b L 5000 p) (if rn aln b L 5000 p ≤ 10 then nL (pk 64 (nmL b p (rn aln b L 5000 p))) else hB h G.vl i) := by
  have hle := rn_le aln b L 5000 p (by omega)
  intro d
  induction d with
  | zero =>
    intro n f h x hn X at_ hx
    have en : n = rn aln b L 5000 p := by omega
    obtain ⟨h', e', T'⟩ := name_e E hL hi hp hN (x := x) X (by rw [at_, en]) (fun q => by rw [hx (by omega), en])
    refine ⟨h', ?_, T'⟩
    show fX10_nextName_7F (fX10_nextName_7 f) h 24 (nI i) (nI p) x = _
    have i1 : hI h 1 1 = nI L := (X.I 1 1 (by omega)).trans E.len
    unfold fX10_nextName_7F
    rw [X.T, X.R, oC_d E.t24, E.src, oN_v, oC_d E.t1, i1, at_]
    by_cases c : p + n < L
    · have o := rn_out aln b L 5000 p (by omega) (by omega)
      rw [← en] at o
      have o1 : ¬ isAn (b (p + n)) := of_decide_eq_false o
      rw [if_neg (nI_ge c (by omega)), byteAt_v E X (by omega), if_pos c, oB_v, small_v (E.bb _), if_neg (by omega), oB_v, if_pos rfl, oB_v, digit_v (E.bb _), if_neg (by omega), oB_v, if_pos rfl]
      exact e'
    · rw [if_pos (nI_le (by omega) (by omega))]
      exact e'
  | succ d ih =>
    intro n f h x hn X at_ hx
    have i1 : hI h 1 1 = nI L := (X.I 1 1 (by omega)).trans E.len
    have c : p + n < L := by omega
    have an : isAn (b (p + n)) := of_decide_eq_true (rn_in aln b L 5000 p (p + n) (by omega) (by omega))
    have hc := E.bb (p + n)
    have lt := ltr_ok an
    obtain ⟨h', e', T'⟩ := ih (n + 1) f (h := sI h 1286 24 (nI (p + n + 1))) (x := (x <<< ((6 : Int32).toInt64 &&& 63)) ||| nL (ltr (b (p + n)))) (by omega) (X.sI (.inr rfl)) (by simp only [z_hI_sI, z_hL_sI, z_hR_sI, z_hA_sI, z_hB_sI, z_hC_sI, z_hT_sI, z_hN_sI, z_hZ_sI, z_hI_sL, z_hL_sL, z_hR_sL, z_hA_sL, z_hB_sL, z_hC_sL, z_hT_sL, z_hN_sL, z_hZ_sL, z_hI_sR, z_hL_sR, z_hR_sR, z_hA_sR, z_hB_sR, z_hC_sR, z_hT_sR, z_hN_sR, z_hZ_sR, z_hI_sA, z_hL_sA, z_hR_sA, z_hA_sA, z_hB_sA, z_hC_sA, z_hT_sA, z_hN_sA, z_hZ_sA, z_hI_sB, z_hL_sB, z_hR_sB, z_hA_sB, z_hB_sB, z_hC_sB, z_hT_sB, z_hN_sB, z_hZ_sB, z_hI_sC, z_hL_sC, z_hR_sC, z_hA_sC, z_hB_sC, z_hC_sC, z_hT_sC, z_hN_sC, z_hZ_sC, z_hI_sY, z_hL_sY, z_hR_sY, z_hA_sY, z_hB_sY, z_hC_sY, z_hT_sY, z_hN_sY, z_hZ_sY, z_hI_nO, z_hL_nO, z_hR_nO, z_hA_nO, z_hB_nO, z_hC_nO, z_hT_nO, z_hN_nO, z_hZ_nO, z_hI_nA, z_hL_nA, z_hR_nA, z_hA_nA, z_hB_nA, z_hC_nA, z_hT_nA, z_hN_nA, z_hZ_nA, if_true, if_false, and_false, false_and, and_true, true_and, and_self, decide_true, decide_false, reduceCtorEq, not_false_eq_true, not_true_eq_false, Nat.reduceEqDiff, Nat.reduceAdd, Nat.reduceMul, Nat.add_zero, Nat.zero_add]; rfl) (fun q => by
      have hlt := pkl_lt 64 (nmL b p n) fun y hy => by
        have := (List.mem_map.mp hy)
        obtain ⟨q, hq, e⟩ := this
        subst e
        have h2 := List.mem_range'_1.mp hq
        have := ltr_ok (of_decide_eq_true (rn_in aln b L 5000 p q h2.1 (by omega)))
        omega
      rw [nmL_len] at hlt
      have h9 : 64 ^ n ≤ 64 ^ 9 := Nat.pow_le_pow_right (by omega) (by omega)
      rw [hx (by omega), shl6 (by omega) (by omega), nmL_s, pk_snoc])
    refine ⟨h', ?_, T'.pre (p' := p) ((SC.refl h G).sI (.inr rfl)) (fun _ => rfl) (fun _ => rfl) (by simp only [z_hI_sI, z_hL_sI, z_hR_sI, z_hA_sI, z_hB_sI, z_hC_sI, z_hT_sI, z_hN_sI, z_hZ_sI, z_hI_sL, z_hL_sL, z_hR_sL, z_hA_sL, z_hB_sL, z_hC_sL, z_hT_sL, z_hN_sL, z_hZ_sL, z_hI_sR, z_hL_sR, z_hR_sR, z_hA_sR, z_hB_sR, z_hC_sR, z_hT_sR, z_hN_sR, z_hZ_sR, z_hI_sA, z_hL_sA, z_hR_sA, z_hA_sA, z_hB_sA, z_hC_sA, z_hT_sA, z_hN_sA, z_hZ_sA, z_hI_sB, z_hL_sB, z_hR_sB, z_hA_sB, z_hB_sB, z_hC_sB, z_hT_sB, z_hN_sB, z_hZ_sB, z_hI_sC, z_hL_sC, z_hR_sC, z_hA_sC, z_hB_sC, z_hC_sC, z_hT_sC, z_hN_sC, z_hZ_sC, z_hI_sY, z_hL_sY, z_hR_sY, z_hA_sY, z_hB_sY, z_hC_sY, z_hT_sY, z_hN_sY, z_hZ_sY, z_hI_nO, z_hL_nO, z_hR_nO, z_hA_nO, z_hB_nO, z_hC_nO, z_hT_nO, z_hN_nO, z_hZ_nO, z_hI_nA, z_hL_nA, z_hR_nA, z_hA_nA, z_hB_nA, z_hC_nA, z_hT_nA, z_hN_nA, z_hZ_nA, if_true, if_false, and_false, false_and, and_true, true_and, and_self, decide_true, decide_false, reduceCtorEq, not_false_eq_true, not_true_eq_false, Nat.reduceEqDiff, Nat.reduceAdd, Nat.reduceMul, Nat.add_zero, Nat.zero_add])⟩
    show fX10_nextName_7F (fX10_nextName_7 (f + (d + 1))) h 24 (nI i) (nI p) x = _
    have body : fX10_nextName_55 (fX10_nextName_7 (f + (d + 1))) h 24 (nI i) (nI p) x = fX10_nextName_7 (f + (d + 1)) (sI h 1286 24 (nI (p + n + 1))) 24 (nI i) (nI p) ((x <<< ((6 : Int32).toInt64 &&& 63)) ||| nL (ltr (b (p + n)))) := by
      unfold fX10_nextName_55
      rw [X.T, X.R, oC_d E.t24, E.src, oN_v, oC_d E.t1, at_, byteAt_v E X (by omega), if_pos c, oB_v, digit_v hc, oB_v]
      by_cases dg : isDg (b (p + n))
      · rw [if_pos dg, if_neg (by decide)]
        unfold fX10_nextName_100
        rw [oL_v, X.T, oC_d E.t24, oL_v, at_, nI_1, ltr2 dg, nI_64 (by omega)]
      · rw [if_neg dg, if_pos rfl]
        unfold fX10_nextName_100
        rw [oL_v, X.T, oC_d E.t24, oL_v, at_, nI_1, ltr1 dg an hc, nI_64 (by omega)]
    unfold fX10_nextName_7F
    rw [X.T, X.R, oC_d E.t24, E.src, oN_v, oC_d E.t1, i1, at_, if_neg (nI_ge c (by omega)), byteAt_v E X (by omega), if_pos c, oB_v, small_v hc, oB_v]
    by_cases sm : isSm (b (p + n))
    · rw [if_pos sm, if_neg (by decide), body]
      exact e'
    · rw [if_neg sm, if_pos rfl, oB_v, digit_v hc, if_pos (by omega), oB_v, if_neg (by decide), body]
      exact e'
end CN
