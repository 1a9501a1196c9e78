section CI
variable {h0 : PH} {G : Gh} {L m : Nat} {b : Nat → Nat}
theorem dg6 {b : Nat → Nat} {p n : Nat} (hn : n ≤ 6) (h : ∀ q, p ≤ q → q < p + n → b q ≤ 57) : dgV b p n ≤ 999999 := by
  have h1 := dgV_lt n h
  have h2 : 10 ^ n ≤ 10 ^ 6 := Nat.pow_le_pow_right (by omega) hn
  omega
theorem int_e (E : SE h0 G L b m) {p i : Nat} (hL : L ≤ 4000) (hi : i < m) (hp : p < L) {h : PH} {x : Int64} (X : SC h0 h G) (at_ : hI h 1286 24 = nI (p + rn dgt b L 5000 p)) (hx : rn dgt b L 5000 p ≤ 6 → x = nL (dgV b p (rn dgt b L 5000 p))) : ∃ h', fX10_nextInteger_74 h 24 (nI i) (nI p) x = some (h', if rn dgt b L 5000 p ≤ 6 then 262 else 264) ∧ TN h h' G i (p + rn dgt b L 5000 p) (if rn dgt b L 5000 p ≤ 6 then nL (dgV b p (rn dgt b L 5000 p)) else hB h G.vl i) := by
  have m1 := E.m1
  have hle := rn_le dgt b L 5000 p (by omega)
  generalize rn dgt b L 5000 p = n at *
  have es : nI (p + n) - nI p = nI n := by rw [nI_sub (by omega)]; congr 1; omega
  by_cases c : n ≤ 6
  · rw [if_pos c, if_pos c]
    refine ⟨sB h G.vl i x, ?_, (SC.refl h G).sB, at_, fun _ => rfl, fun j => ?_, rfl⟩
    · unfold fX10_nextInteger_74
      rw [at_, es, X.T, X.R, X.N, oC_d E.t24, if_pos (show nI n ≤ 6 from nI_le (b := 6) c (by omega)), E.rv, oN_v, oC_d E.tvl, E.nvl, oC_t (ix_n hi (by omega)), oL_v, nI_clamp (show i < 2147483648 by omega)]
    · simp only [z_hI_sI, z_hL_sI, z_hR_sI, z_hA_sI, z_hB_sI, z_hC_sI, z_hT_sI, z_hN_sI, z_hZ_sI, z_hI_sL, z_hL_sL, z_hR_sL, z_hA_sL, z_hB_sL, z_hC_sL, z_hT_sL, z_hN_sL, z_hZ_sL, z_hI_sR, z_hL_sR, z_hR_sR, z_hA_sR, z_hB_sR, z_hC_sR, z_hT_sR, z_hN_sR, z_hZ_sR, z_hI_sA, z_hL_sA, z_hR_sA, z_hA_sA, z_hB_sA, z_hC_sA, z_hT_sA, z_hN_sA, z_hZ_sA, z_hI_sB, z_hL_sB, z_hR_sB, z_hA_sB, z_hB_sB, z_hC_sB, z_hT_sB, z_hN_sB, z_hZ_sB, z_hI_sC, z_hL_sC, z_hR_sC, z_hA_sC, z_hB_sC, z_hC_sC, z_hT_sC, z_hN_sC, z_hZ_sC, z_hI_sY, z_hL_sY, z_hR_sY, z_hA_sY, z_hB_sY, z_hC_sY, z_hT_sY, z_hN_sY, z_hZ_sY, z_hI_nO, z_hL_nO, z_hR_nO, z_hA_nO, z_hB_nO, z_hC_nO, z_hT_nO, z_hN_nO, z_hZ_nO, z_hI_nA, z_hL_nA, z_hR_nA, z_hA_nA, z_hB_nA, z_hC_nA, z_hT_nA, z_hN_nA, z_hZ_nA, if_true, if_false, and_false, false_and, and_true, true_and, and_self, decide_true, decide_false, reduceCtorEq, not_false_eq_true, not_true_eq_false, Nat.reduceEqDiff, Nat.reduceAdd, Nat.reduceMul, Nat.add_zero, Nat.zero_add]
      rw [hx c]
  · rw [if_neg c, if_neg c]
    refine ⟨h, ?_, SC.refl h G, at_, fun _ => rfl, fun j => ?_, rfl⟩
    · unfold fX10_nextInteger_74
      rw [at_, es, X.T, oC_d E.t24, if_neg (show ¬ nI n ≤ 6 from nI_ge (a := 6) (b := n) (by omega) (by omega))]
    · split
      · rename_i q; rw [q]
      · rfl
theorem int_l (E : SE h0 G L b m) {p i : Nat} (hL : L ≤ 4000) (hi : i < m) (hp : p < L) : ∀ d n f {h : PH} {x : Int64}, n + d = rn dgt b L 5000 p → SC h0 h G → hI h 1286 24 = nI (p + n) → (n ≤ 6 → x = nL (dgV b p n)) → ∃ h', fX10_nextInteger_7 (f + (d + 1)) h 24 (nI i) (nI p) x = some (h', if rn dgt b L 5000 p ≤ 6 then 262 else 264) ∧ TN h h' G i (p + rn dgt b L 5000 p) (if rn dgt b L 5000 p ≤ 6 then nL (dgV b p (rn dgt b L 5000 p)) else hB h G.vl i) := by
  have hle := rn_le dgt b L 5000 p (by omega)
  intro d
  induction d with
  | zero =>
    intro n f h x hn X at_ hx
    have en : n = rn dgt b L 5000 p := by omega
    obtain ⟨h', e', T'⟩ := int_e E hL hi hp (x := x) X (by rw [at_, en]) (fun q => by rw [hx (by omega), en])
    refine ⟨h', ?_, T'⟩
    show fX10_nextInteger_7F (fX10_nextInteger_7 f) h 24 (nI i) (nI p) x = _
    have i1 : hI h 1 1 = nI L := (X.I 1 1 (by omega)).trans E.len
    unfold fX10_nextInteger_7F
    rw [X.T, X.R, oC_d E.t24, E.src, oN_v, oC_d E.t1, i1, at_]
    by_cases c : p + n < L
    · have o := rn_out dgt b L 5000 p (by omega) (by omega)
      rw [← en] at o
      have o1 : ¬ isDg (b (p + n)) := of_decide_eq_false o
      rw [if_neg (nI_ge c (by omega)), byteAt_v E X (by omega), if_pos c, oB_v, digit_v (E.bb _), if_neg o1, oB_v, if_pos rfl]
      exact e'
    · rw [if_pos (nI_le (by omega) (by omega))]
      exact e'
  | succ d ih =>
    intro n f h x hn X at_ hx
    have i1 : hI h 1 1 = nI L := (X.I 1 1 (by omega)).trans E.len
    have c : p + n < L := by omega
    have dg : isDg (b (p + n)) := of_decide_eq_true (rn_in dgt b L 5000 p (p + n) (by omega) (by omega))
    have hc := E.bb (p + n)
    obtain ⟨h', e', T'⟩ := ih (n + 1) f (h := sI h 1286 24 (nI (p + n + 1))) (x := x * 10 + nL (b (p + n)) - 48) (by omega) (X.sI (.inr rfl)) (by simp only [z_hI_sI, z_hL_sI, z_hR_sI, z_hA_sI, z_hB_sI, z_hC_sI, z_hT_sI, z_hN_sI, z_hZ_sI, z_hI_sL, z_hL_sL, z_hR_sL, z_hA_sL, z_hB_sL, z_hC_sL, z_hT_sL, z_hN_sL, z_hZ_sL, z_hI_sR, z_hL_sR, z_hR_sR, z_hA_sR, z_hB_sR, z_hC_sR, z_hT_sR, z_hN_sR, z_hZ_sR, z_hI_sA, z_hL_sA, z_hR_sA, z_hA_sA, z_hB_sA, z_hC_sA, z_hT_sA, z_hN_sA, z_hZ_sA, z_hI_sB, z_hL_sB, z_hR_sB, z_hA_sB, z_hB_sB, z_hC_sB, z_hT_sB, z_hN_sB, z_hZ_sB, z_hI_sC, z_hL_sC, z_hR_sC, z_hA_sC, z_hB_sC, z_hC_sC, z_hT_sC, z_hN_sC, z_hZ_sC, z_hI_sY, z_hL_sY, z_hR_sY, z_hA_sY, z_hB_sY, z_hC_sY, z_hT_sY, z_hN_sY, z_hZ_sY, z_hI_nO, z_hL_nO, z_hR_nO, z_hA_nO, z_hB_nO, z_hC_nO, z_hT_nO, z_hN_nO, z_hZ_nO, z_hI_nA, z_hL_nA, z_hR_nA, z_hA_nA, z_hB_nA, z_hC_nA, z_hT_nA, z_hN_nA, z_hZ_nA, if_true, if_false, and_false, false_and, and_true, true_and, and_self, decide_true, decide_false, reduceCtorEq, not_false_eq_true, not_true_eq_false, Nat.reduceEqDiff, Nat.reduceAdd, Nat.reduceMul, Nat.add_zero, Nat.zero_add]; rfl) (fun q => by
      rw [hx (by omega), show (10 : Int64) = nL 10 from rfl, nL_mul, nL_add, show (48 : Int64) = nL 48 from rfl, nL_sub (by omega), show dgV b p (n + 1) = 10 * dgV b p n + (b (p + n) - 48) from rfl]
      congr 1
      omega)
    refine ⟨h', ?_, T'.pre (p' := p) ((SC.refl h G).sI (.inr rfl)) (fun _ => rfl) (fun _ => rfl) (by simp only [z_hI_sI, z_hL_sI, z_hR_sI, z_hA_sI, z_hB_sI, z_hC_sI, z_hT_sI, z_hN_sI, z_hZ_sI, z_hI_sL, z_hL_sL, z_hR_sL, z_hA_sL, z_hB_sL, z_hC_sL, z_hT_sL, z_hN_sL, z_hZ_sL, z_hI_sR, z_hL_sR, z_hR_sR, z_hA_sR, z_hB_sR, z_hC_sR, z_hT_sR, z_hN_sR, z_hZ_sR, z_hI_sA, z_hL_sA, z_hR_sA, z_hA_sA, z_hB_sA, z_hC_sA, z_hT_sA, z_hN_sA, z_hZ_sA, z_hI_sB, z_hL_sB, z_hR_sB, z_hA_sB, z_hB_sB, z_hC_sB, z_hT_sB, z_hN_sB, z_hZ_sB, z_hI_sC, z_hL_sC, z_hR_sC, z_hA_sC, z_hB_sC, z_hC_sC, z_hT_sC, z_hN_sC, z_hZ_sC, z_hI_sY, z_hL_sY, z_hR_sY, z_hA_sY, z_hB_sY, z_hC_sY, z_hT_sY, z_hN_sY, z_hZ_sY, z_hI_nO, z_hL_nO, z_hR_nO, z_hA_nO, z_hB_nO, z_hC_nO, z_hT_nO, z_hN_nO, z_hZ_nO, z_hI_nA, z_hL_nA, z_hR_nA, z_hA_nA, z_hB_nA, z_hC_nA, z_hT_nA, z_hN_nA, z_hZ_nA, if_true, if_false, and_false, false_and, and_true, true_and, and_self, decide_true, decide_false, reduceCtorEq, not_false_eq_true, not_true_eq_false, Nat.reduceEqDiff, Nat.reduceAdd, Nat.reduceMul, Nat.add_zero, Nat.zero_add])⟩
    show fX10_nextInteger_7F (fX10_nextInteger_7 (f + (d + 1))) h 24 (nI i) (nI p) x = _
    unfold fX10_nextInteger_7F
    rw [X.T, X.R, oC_d E.t24, E.src, oN_v, oC_d E.t1, i1, at_, if_neg (nI_ge c (by omega)), byteAt_v E X (by omega), if_pos c, oB_v, digit_v hc, if_pos dg, oB_v, if_neg (by decide), oB_v, oL_v, oL_v, nI_64 (by omega), nI_1]
    exact e'
/-- signs -/
theorem sg_n {c : Nat} (h : c < 40 ∨ 60 < c) : sg1 c = 4 := by
  unfold sg1
  repeat (rw [if_neg (by omega)])
theorem sign_v (E : SE h0 G L b m) {p : Nat} (hL : L ≤ 4000) (hp : p < L) {h : PH} (X : SC h0 h G) (at_ : hI h 1286 24 = nI (p + 1)) : ∃ h', fX10_nextSign h 24 (nI (b p)) = some (h', cK (sgK (b p) (if p + 1 < L then b (p + 1) else 0)).1) ∧ SC h h' G ∧ hI h' 1286 24 = nI (p + (sgK (b p) (if p + 1 < L then b (p + 1) else 0)).2) ∧ (∀ a, hA h' a = hA h a) ∧ (∀ a, hB h' a = hB h a) ∧ hI h' 1284 24 = hI h 1284 24 := by
  have hc := E.bb p
  have hd := E.bb (p + 1)
  have e : ∀ k, k < 256 → (nI (b p) = nI k ↔ b p = k) := fun k hk => nI_eq (by omega) (by omega)
  have e33 : nI (b p) = 33 ↔ b p = 33 := e 33 (by omega)
  have e61 : nI (b p) = 61 ↔ b p = 61 := e 61 (by omega)
  have e40 : nI (b p) = 40 ↔ b p = 40 := e 40 (by omega)
  have e41 : nI (b p) = 41 ↔ b p = 41 := e 41 (by omega)
  have e42 : nI (b p) = 42 ↔ b p = 42 := e 42 (by omega)
  have e43 : nI (b p) = 43 ↔ b p = 43 := e 43 (by omega)
  have e44 : nI (b p) = 44 ↔ b p = 44 := e 44 (by omega)
  have e45 : nI (b p) = 45 ↔ b p = 45 := e 45 (by omega)
  have e46 : nI (b p) = 46 ↔ b p = 46 := e 46 (by omega)
  have e47 : nI (b p) = 47 ↔ b p = 47 := e 47 (by omega)
  have e48 : nI (b p) = 48 ↔ b p = 48 := e 48 (by omega)
  have e49 : nI (b p) = 49 ↔ b p = 49 := e 49 (by omega)
  have e50 : nI (b p) = 50 ↔ b p = 50 := e 50 (by omega)
  have e51 : nI (b p) = 51 ↔ b p = 51 := e 51 (by omega)
  have e52 : nI (b p) = 52 ↔ b p = 52 := e 52 (by omega)
  have e53 : nI (b p) = 53 ↔ b p = 53 := e 53 (by omega)
  have e54 : nI (b p) = 54 ↔ b p = 54 := e 54 (by omega)
  have e55 : nI (b p) = 55 ↔ b p = 55 := e 55 (by omega)
  have e56 : nI (b p) = 56 ↔ b p = 56 := e 56 (by omega)
  have e57 : nI (b p) = 57 ↔ b p = 57 := e 57 (by omega)
  have e58 : nI (b p) = 58 ↔ b p = 58 := e 58 (by omega)
  have e59 : nI (b p) = 59 ↔ b p = 59 := e 59 (by omega)
  have e60 : nI (b p) = 60 ↔ b p = 60 := e 60 (by omega)
  obtain ⟨d, ed, er⟩ : ∃ d : Nat, d = (if p + 1 < L then b (p + 1) else 0) ∧ ∃ x : Int32, (if p + 1 < L then nI (b (p + 1)) else -1) = x ∧ (x = 61 ↔ d = 61) ∧ (x = 62 ↔ d = 62) := by
    by_cases q : p + 1 < L
    · exact ⟨_, rfl, _, rfl, by rw [if_pos q, if_pos q]; exact nI_eq (b := 61) (by omega) (by omega), by rw [if_pos q, if_pos q]; exact nI_eq (b := 62) (by omega) (by omega)⟩
    · exact ⟨_, rfl, _, rfl, by rw [if_neg q, if_neg q]; exact ⟨fun q => absurd q (by decide), fun q => by omega⟩, by rw [if_neg q, if_neg q]; exact ⟨fun q => absurd q (by decide), fun q => by omega⟩⟩
  obtain ⟨x, ex, x61, x62⟩ := er
  rw [← ed]
  have by' := byteAt_v E X (q := p + 1) (by omega)
  rw [ex] at by'
  have two : ∀ k : Int32, k ≠ 264 → fX10_signOfTwo (nI (b p)) x = some k → fX10_nextSign h 24 (nI (b p)) = some (sI h 1286 24 (nI (p + 2)), k) := by
    intro k hk e2
    unfold fX10_nextSign fX10_nextSign_0
    rw [X.T, X.R, oC_d E.t24, E.src, oN_v, oC_d E.t1, at_, by', oB_v, e2, oB_v, if_neg hk, oL_v, nI_1]
  have fin : ∀ k n, fX10_nextSign h 24 (nI (b p)) = some (sI h 1286 24 (nI (p + 2)), cK k) → sgK (b p) d = (k, 2) → n = 0 → ∃ h', fX10_nextSign h 24 (nI (b p)) = some (h', cK (sgK (b p) d).1) ∧ SC h h' G ∧ hI h' 1286 24 = nI (p + (sgK (b p) d).2) ∧ (∀ a, hA h' a = hA h a) ∧ (∀ a, hB h' a = hB h a) ∧ hI h' 1284 24 = hI h 1284 24 := by
    intro k n h1 h2 _
    rw [h2]
    exact ⟨_, h1, (SC.refl h G).sI (.inr rfl), by simp only [z_hI_sI, z_hL_sI, z_hR_sI, z_hA_sI, z_hB_sI, z_hC_sI, z_hT_sI, z_hN_sI, z_hZ_sI, z_hI_sL, z_hL_sL, z_hR_sL, z_hA_sL, z_hB_sL, z_hC_sL, z_hT_sL, z_hN_sL, z_hZ_sL, z_hI_sR, z_hL_sR, z_hR_sR, z_hA_sR, z_hB_sR, z_hC_sR, z_hT_sR, z_hN_sR, z_hZ_sR, z_hI_sA, z_hL_sA, z_hR_sA, z_hA_sA, z_hB_sA, z_hC_sA, z_hT_sA, z_hN_sA, z_hZ_sA, z_hI_sB, z_hL_sB, z_hR_sB, z_hA_sB, z_hB_sB, z_hC_sB, z_hT_sB, z_hN_sB, z_hZ_sB, z_hI_sC, z_hL_sC, z_hR_sC, z_hA_sC, z_hB_sC, z_hC_sC, z_hT_sC, z_hN_sC, z_hZ_sC, z_hI_sY, z_hL_sY, z_hR_sY, z_hA_sY, z_hB_sY, z_hC_sY, z_hT_sY, z_hN_sY, z_hZ_sY, z_hI_nO, z_hL_nO, z_hR_nO, z_hA_nO, z_hB_nO, z_hC_nO, z_hT_nO, z_hN_nO, z_hZ_nO, z_hI_nA, z_hL_nA, z_hR_nA, z_hA_nA, z_hB_nA, z_hC_nA, z_hT_nA, z_hN_nA, z_hZ_nA, if_true, if_false, and_false, false_and, and_true, true_and, and_self, decide_true, decide_false, reduceCtorEq, not_false_eq_true, not_true_eq_false, Nat.reduceEqDiff, Nat.reduceAdd, Nat.reduceMul, Nat.add_zero, Nat.zero_add], fun _ => rfl, fun _ => rfl, by simp only [z_hI_sI, z_hL_sI, z_hR_sI, z_hA_sI, z_hB_sI, z_hC_sI, z_hT_sI, z_hN_sI, z_hZ_sI, z_hI_sL, z_hL_sL, z_hR_sL, z_hA_sL, z_hB_sL, z_hC_sL, z_hT_sL, z_hN_sL, z_hZ_sL, z_hI_sR, z_hL_sR, z_hR_sR, z_hA_sR, z_hB_sR, z_hC_sR, z_hT_sR, z_hN_sR, z_hZ_sR, z_hI_sA, z_hL_sA, z_hR_sA, z_hA_sA, z_hB_sA, z_hC_sA, z_hT_sA, z_hN_sA, z_hZ_sA, z_hI_sB, z_hL_sB, z_hR_sB, z_hA_sB, z_hB_sB, z_hC_sB, z_hT_sB, z_hN_sB, z_hZ_sB, z_hI_sC, z_hL_sC, z_hR_sC, z_hA_sC, z_hB_sC, z_hC_sC, z_hT_sC, z_hN_sC, z_hZ_sC, z_hI_sY, z_hL_sY, z_hR_sY, z_hA_sY, z_hB_sY, z_hC_sY, z_hT_sY, z_hN_sY, z_hZ_sY, z_hI_nO, z_hL_nO, z_hR_nO, z_hA_nO, z_hB_nO, z_hC_nO, z_hT_nO, z_hN_nO, z_hZ_nO, z_hI_nA, z_hL_nA, z_hR_nA, z_hA_nA, z_hB_nA, z_hC_nA, z_hT_nA, z_hN_nA, z_hZ_nA, if_true, if_false, and_false, false_and, and_true, true_and, and_self, decide_true, decide_false, reduceCtorEq, not_false_eq_true, not_true_eq_false, Nat.reduceEqDiff, Nat.reduceAdd, Nat.reduceMul, Nat.add_zero, Nat.zero_add]⟩
  by_cases a1 : b p = 61 ∧ d = 62
  · exact fin 15 0 (two (cK 15) (by decide) (by unfold fX10_signOfTwo fX10_signOfTwo_0; rw [if_pos (e61.mpr a1.1), if_pos (x62.mpr a1.2)]; rfl)) (by unfold sgK; rw [if_pos a1]) rfl
  · by_cases a2 : b p = 61 ∧ d = 61
    · exact fin 16 0 (two (cK 16) (by decide) (by unfold fX10_signOfTwo fX10_signOfTwo_0 fX10_signOfTwo_16; rw [if_pos (e61.mpr a2.1), if_neg (fun q => by have := x62.mp q; omega), if_pos (x61.mpr a2.2), if_neg (fun q => by have := e33.mp q; omega), if_neg (fun q => by have := e60.mp q; omega), if_pos (e61.mpr a2.1)]; rfl)) (by unfold sgK; rw [if_neg a1, if_pos a2]) rfl
    · by_cases a3 : b p = 33 ∧ d = 61
      · exact fin 17 0 (two (cK 17) (by decide) (by unfold fX10_signOfTwo fX10_signOfTwo_0 fX10_signOfTwo_16; rw [if_neg (fun q => by have := e61.mp q; omega), if_pos (x61.mpr a3.2), if_pos (e33.mpr a3.1)]; rfl)) (by unfold sgK; rw [if_neg a1, if_neg a2, if_pos a3]) rfl
      · by_cases a4 : b p = 60 ∧ d = 61
        · exact fin 19 0 (two (cK 19) (by decide) (by unfold fX10_signOfTwo fX10_signOfTwo_0 fX10_signOfTwo_16; rw [if_neg (fun q => by have := e61.mp q; omega), if_pos (x61.mpr a4.2), if_neg (fun q => by have := e33.mp q; omega), if_pos (e60.mpr a4.1)]; rfl)) (by unfold sgK; rw [if_neg a1, if_neg a2, if_neg a3, if_pos a4]) rfl
        · have sg : sgK (b p) d = (sg1 (b p), 1) := by unfold sgK; rw [if_neg a1, if_neg a2, if_neg a3, if_neg a4]
          have no : fX10_signOfTwo (nI (b p)) x = some 264 := by
            unfold fX10_signOfTwo fX10_signOfTwo_0 fX10_signOfTwo_16
            by_cases c61 : b p = 61
            · rw [if_pos (e61.mpr c61), if_neg (fun q => a1 ⟨c61, x62.mp q⟩)]
              rw [if_neg (fun q => a2 ⟨c61, x61.mp q⟩)]
            · rw [if_neg (fun q => c61 (e61.mp q))]
              by_cases d61 : d = 61
              · rw [if_pos (x61.mpr d61), if_neg (fun q => a3 ⟨e33.mp q, d61⟩), if_neg (fun q => a4 ⟨e60.mp q, d61⟩), if_neg (fun q => c61 (e61.mp q))]
              · rw [if_neg (fun q => d61 (x61.mp q))]
          rw [sg]
          refine ⟨h, ?_, SC.refl h G, at_, fun _ => rfl, fun _ => rfl, rfl⟩
          unfold fX10_nextSign fX10_nextSign_0
          rw [X.T, X.R, oC_d E.t24, E.src, oN_v, oC_d E.t1, at_, by', oB_v, no, oB_v, if_pos rfl]
          show _ = some (h, cK (sg1 (b p)))
          rcases (show b p = 40 ∨ b p = 41 ∨ b p = 42 ∨ b p = 43 ∨ b p = 44 ∨ b p = 45 ∨ b p = 46 ∨ b p = 47 ∨ b p = 48 ∨ b p = 49 ∨ b p = 50 ∨ b p = 51 ∨ b p = 52 ∨ b p = 53 ∨ b p = 54 ∨ b p = 55 ∨ b p = 56 ∨ b p = 57 ∨ b p = 58 ∨ b p = 59 ∨ b p = 60 ∨ (b p < 40 ∨ 60 < b p) by omega) with q | q | q | q | q | q | q | q | q | q | q | q | q | q | q | q | q | q | q | q | q | q
          · rw [q]; rfl
          · rw [q]; rfl
          · rw [q]; rfl
          · rw [q]; rfl
          · rw [q]; rfl
          · rw [q]; rfl
          · rw [q]; rfl
          · rw [q]; rfl
          · rw [q]; rfl
          · rw [q]; rfl
          · rw [q]; rfl
          · rw [q]; rfl
          · rw [q]; rfl
          · rw [q]; rfl
          · rw [q]; rfl
          · rw [q]; rfl
          · rw [q]; rfl
          · rw [q]; rfl
          · rw [q]; rfl
          · rw [q]; rfl
          · rw [q]; rfl
          · simp only [e40, e41, e42, e43, e44, e45, e46, e47, e48, e49, e50, e51, e52, e53, e54, e55, e56, e57, e58, e59, e60, show ¬ b p = 40 by omega, show ¬ b p = 41 by omega, show ¬ b p = 42 by omega, show ¬ b p = 43 by omega, show ¬ b p = 44 by omega, show ¬ b p = 45 by omega, show ¬ b p = 46 by omega, show ¬ b p = 47 by omega, show ¬ b p = 48 by omega, show ¬ b p = 49 by omega, show ¬ b p = 50 by omega, show ¬ b p = 51 by omega, show ¬ b p = 52 by omega, show ¬ b p = 53 by omega, show ¬ b p = 54 by omega, show ¬ b p = 55 by omega, show ¬ b p = 56 by omega, show ¬ b p = 57 by omega, show ¬ b p = 58 by omega, show ¬ b p = 59 by omega, show ¬ b p = 60 by omega, if_false, sg_n q]
            rfl
/-- a token -/
theorem next_v (E : SE h0 G L b m) {p i : Nat} (hL : L ≤ 4000) (hi : i < m) (hp : p ≤ L) {h : PH} (X : SC h0 h G) (at_ : hI h 1286 24 = nI p) (z : hB h G.vl i = 0) : ∃ h', fX10_next h 24 (nI i) = some (h', cK (tk b L p).1) ∧ TN h h' G i (tk b L p).2.1 (if (tk b L p).1 = 1 ∨ 20 ≤ (tk b L p).1 then nL (pk 64 (tk b L p).2.2.2) else nL (tk b L p).2.2.1) := by
  have m1 := E.m1
  have hc := E.bb p
  have zz : ∀ j, hB h G.vl j = if j = i then nL 0 else hB h G.vl j := fun j => by
    split
    · rename_i q; rw [q]; exact z
    · rfl
  unfold fX10_next fX10_next_0
  rw [X.T, X.R, oC_d E.t24, E.src, oN_v, oC_d E.t1, at_, byteAt_v E X (by omega), oB_v]
  by_cases c0 : p < L
  · rw [if_pos c0, if_neg (nI_m1 (by omega)), small_v hc, oB_v]
    by_cases sm : isSm (b p)
    · rw [if_pos sm, if_neg (by decide)]
      have hN : 1 ≤ rn aln b L 5000 p := by
        show 1 ≤ (if p < L then (if aln (b p) then rn aln b L 4999 (p + 1) + 1 else 0) else 0)
        rw [if_pos c0, if_pos (show aln (b p) = true from decide_eq_true (Or.inl sm))]
        omega
      obtain ⟨h', e', T'⟩ := name_l E hL hi c0 hN (rn aln b L 5000 p) 0 (FU - (rn aln b L 5000 p + 1)) (x := 0) (by omega) X (by rw [at_, Nat.add_zero]) (fun _ => rfl)
      have hle := rn_le aln b L 5000 p (by omega)
      rw [show FU - (rn aln b L 5000 p + 1) + (rn aln b L 5000 p + 1) = FU by have : FU = 100000 := rfl; omega] at e'
      have en : fX10_nextName h 24 (nI i) = some (h', if rn aln b L 5000 p ≤ 10 then cK (kwK (nmL b p (rn aln b L 5000 p))) else 264) := by
        unfold fX10_nextName fX10_nextName_0
        rw [X.T, oC_d E.t24, oL_v, at_]
        exact e'
      rw [en, oB2_v]
      have et : tk b L p = if rn aln b L 5000 p ≤ 10 then (kwK (nmL b p (rn aln b L 5000 p)), p + rn aln b L 5000 p, 0, nmL b p (rn aln b L 5000 p)) else (4, p + rn aln b L 5000 p, 0, []) := by
        unfold tk
        rw [if_neg (by omega), if_pos sm]
      rw [et]
      by_cases q : rn aln b L 5000 p ≤ 10
      · simp only [if_pos q] at T' ⊢
        refine ⟨h', rfl, ?_⟩
        rw [if_pos (by have := kwK_r (nmL b p (rn aln b L 5000 p)); omega)]
        exact T'
      · simp only [if_neg q] at T' ⊢
        refine ⟨h', rfl, ?_⟩
        rw [if_neg (by omega)]
        rw [z] at T'
        exact T'
    · rw [if_neg sm, if_pos rfl, digit_v hc, oB_v]
      by_cases dg : isDg (b p)
      · rw [if_pos dg, if_neg (by decide)]
        obtain ⟨h', e', T'⟩ := int_l E hL hi c0 (rn dgt b L 5000 p) 0 (FU - (rn dgt b L 5000 p + 1)) (x := 0) (by omega) X (by rw [at_, Nat.add_zero]) (fun _ => rfl)
        have hle := rn_le dgt b L 5000 p (by omega)
        rw [show FU - (rn dgt b L 5000 p + 1) + (rn dgt b L 5000 p + 1) = FU by have : FU = 100000 := rfl; omega] at e'
        have en : fX10_nextInteger h 24 (nI i) = some (h', if rn dgt b L 5000 p ≤ 6 then 262 else 264) := by
          unfold fX10_nextInteger fX10_nextInteger_0
          rw [X.T, oC_d E.t24, oL_v, at_]
          exact e'
        rw [en, oB2_v]
        have et : tk b L p = if rn dgt b L 5000 p ≤ 6 then (3, p + rn dgt b L 5000 p, dgV b p (rn dgt b L 5000 p), []) else (4, p + rn dgt b L 5000 p, 0, []) := by
          unfold tk
          rw [if_neg (by omega), if_neg sm, if_pos dg]
        rw [et]
        by_cases q : rn dgt b L 5000 p ≤ 6
        · simp only [if_pos q] at T' ⊢
          refine ⟨h', rfl, ?_⟩
          rw [if_neg (by omega)]
          exact T'
        · simp only [if_neg q] at T' ⊢
          refine ⟨h', rfl, ?_⟩
          rw [if_neg (by omega)]
          rw [z] at T'
          exact T'
      · rw [if_neg dg, if_pos rfl, oL_v, nI_1]
        have i1 : nI (b p) < 65 ↔ b p < 65 := nI_ltI (b := 65) (by omega) (by omega)
        have i2 : 90 < nI (b p) ↔ 90 < b p := nI_ltI (a := 90) (by omega) (by omega)
        have X1 : SC h0 (sI h 1286 24 (nI (p + 1))) G := X.sI (.inr rfl)
        have sgn : ¬ (65 ≤ b p ∧ b p ≤ 90) → ∃ h', fX10_next_81 (sI h 1286 24 (nI (p + 1))) 24 (nI (b p)) = some (h', cK (tk b L p).1) ∧ TN h h' G i (tk b L p).2.1 (if (tk b L p).1 = 1 ∨ 20 ≤ (tk b L p).1 then nL (pk 64 (tk b L p).2.2.2) else nL (tk b L p).2.2.1) := by
          intro cp
          obtain ⟨h', e', S', a', A', B', Z'⟩ := sign_v E hL c0 X1 (by simp only [z_hI_sI, z_hL_sI, z_hR_sI, z_hA_sI, z_hB_sI, z_hC_sI, z_hT_sI, z_hN_sI, z_hZ_sI, z_hI_sL, z_hL_sL, z_hR_sL, z_hA_sL, z_hB_sL, z_hC_sL, z_hT_sL, z_hN_sL, z_hZ_sL, z_hI_sR, z_hL_sR, z_hR_sR, z_hA_sR, z_hB_sR, z_hC_sR, z_hT_sR, z_hN_sR, z_hZ_sR, z_hI_sA, z_hL_sA, z_hR_sA, z_hA_sA, z_hB_sA, z_hC_sA, z_hT_sA, z_hN_sA, z_hZ_sA, z_hI_sB, z_hL_sB, z_hR_sB, z_hA_sB, z_hB_sB, z_hC_sB, z_hT_sB, z_hN_sB, z_hZ_sB, z_hI_sC, z_hL_sC, z_hR_sC, z_hA_sC, z_hB_sC, z_hC_sC, z_hT_sC, z_hN_sC, z_hZ_sC, z_hI_sY, z_hL_sY, z_hR_sY, z_hA_sY, z_hB_sY, z_hC_sY, z_hT_sY, z_hN_sY, z_hZ_sY, z_hI_nO, z_hL_nO, z_hR_nO, z_hA_nO, z_hB_nO, z_hC_nO, z_hT_nO, z_hN_nO, z_hZ_nO, z_hI_nA, z_hL_nA, z_hR_nA, z_hA_nA, z_hB_nA, z_hC_nA, z_hT_nA, z_hN_nA, z_hZ_nA, if_true, if_false, and_false, false_and, and_true, true_and, and_self, decide_true, decide_false, reduceCtorEq, not_false_eq_true, not_true_eq_false, Nat.reduceEqDiff, Nat.reduceAdd, Nat.reduceMul, Nat.add_zero, Nat.zero_add])
          have et : tk b L p = ((sgK (b p) (if p + 1 < L then b (p + 1) else 0)).1, p + (sgK (b p) (if p + 1 < L then b (p + 1) else 0)).2, 0, []) := by
            unfold tk
            rw [if_neg (by omega), if_neg sm, if_neg dg, if_neg cp]
          have kb : (sgK (b p) (if p + 1 < L then b (p + 1) else 0)).1 ≠ 1 ∧ (sgK (b p) (if p + 1 < L then b (p + 1) else 0)).1 < 20 := by
            generalize (if p + 1 < L then b (p + 1) else 0) = d
            unfold sgK
            repeat' split
            all_goals first | (constructor <;> decide) | skip
            unfold sg1
            repeat' split
            all_goals (constructor <;> decide)
          rw [et]
          refine ⟨h', ?_, ((SC.refl h G).sI (.inr rfl)).trans S', a', fun a => (A' a).trans rfl, fun j => ?_, Z'.trans (by simp only [z_hI_sI, z_hL_sI, z_hR_sI, z_hA_sI, z_hB_sI, z_hC_sI, z_hT_sI, z_hN_sI, z_hZ_sI, z_hI_sL, z_hL_sL, z_hR_sL, z_hA_sL, z_hB_sL, z_hC_sL, z_hT_sL, z_hN_sL, z_hZ_sL, z_hI_sR, z_hL_sR, z_hR_sR, z_hA_sR, z_hB_sR, z_hC_sR, z_hT_sR, z_hN_sR, z_hZ_sR, z_hI_sA, z_hL_sA, z_hR_sA, z_hA_sA, z_hB_sA, z_hC_sA, z_hT_sA, z_hN_sA, z_hZ_sA, z_hI_sB, z_hL_sB, z_hR_sB, z_hA_sB, z_hB_sB, z_hC_sB, z_hT_sB, z_hN_sB, z_hZ_sB, z_hI_sC, z_hL_sC, z_hR_sC, z_hA_sC, z_hB_sC, z_hC_sC, z_hT_sC, z_hN_sC, z_hZ_sC, z_hI_sY, z_hL_sY, z_hR_sY, z_hA_sY, z_hB_sY, z_hC_sY, z_hT_sY, z_hN_sY, z_hZ_sY, z_hI_nO, z_hL_nO, z_hR_nO, z_hA_nO, z_hB_nO, z_hC_nO, z_hT_nO, z_hN_nO, z_hZ_nO, z_hI_nA, z_hL_nA, z_hR_nA, z_hA_nA, z_hB_nA, z_hC_nA, z_hT_nA, z_hN_nA, z_hZ_nA, if_true, if_false, and_false, false_and, and_true, true_and, and_self, decide_true, decide_false, reduceCtorEq, not_false_eq_true, not_true_eq_false, Nat.reduceEqDiff, Nat.reduceAdd, Nat.reduceMul, Nat.add_zero, Nat.zero_add])⟩
          · unfold fX10_next_81
            rw [X1.T, oC_d E.t24, e', oB2_v]
          · rw [if_neg (show ¬ ((sgK (b p) (if p + 1 < L then b (p + 1) else 0)).1 = 1 ∨ 20 ≤ (sgK (b p) (if p + 1 < L then b (p + 1) else 0)).1) by omega)]
            exact (congrFun (B' G.vl) j).trans (zz j)
        by_cases l65 : b p < 65
        · rw [if_pos (i1.mpr l65)]
          exact sgn (by omega)
        · rw [if_neg (fun q => l65 (i1.mp q))]
          by_cases g90 : 90 < b p
          · rw [if_pos (i2.mpr g90)]
            exact sgn (by omega)
          · have et : tk b L p = (2, p + 1, b p, []) := by
              unfold tk
              rw [if_neg (by omega), if_neg sm, if_neg dg, if_pos (by omega)]
            rw [if_neg (fun q => g90 (i2.mp q)), et, X1.R, X1.T, X1.N, E.rv, oN_v, oC_d E.tvl, E.nvl, oC_t (ix_n hi (by omega)), oL_v, nI_clamp (show i < 2147483648 by omega), nI_64 (by omega)]
            refine ⟨_, rfl, (((SC.refl h G).sI (.inr rfl)).sB), by simp only [z_hI_sI, z_hL_sI, z_hR_sI, z_hA_sI, z_hB_sI, z_hC_sI, z_hT_sI, z_hN_sI, z_hZ_sI, z_hI_sL, z_hL_sL, z_hR_sL, z_hA_sL, z_hB_sL, z_hC_sL, z_hT_sL, z_hN_sL, z_hZ_sL, z_hI_sR, z_hL_sR, z_hR_sR, z_hA_sR, z_hB_sR, z_hC_sR, z_hT_sR, z_hN_sR, z_hZ_sR, z_hI_sA, z_hL_sA, z_hR_sA, z_hA_sA, z_hB_sA, z_hC_sA, z_hT_sA, z_hN_sA, z_hZ_sA, z_hI_sB, z_hL_sB, z_hR_sB, z_hA_sB, z_hB_sB, z_hC_sB, z_hT_sB, z_hN_sB, z_hZ_sB, z_hI_sC, z_hL_sC, z_hR_sC, z_hA_sC, z_hB_sC, z_hC_sC, z_hT_sC, z_hN_sC, z_hZ_sC, z_hI_sY, z_hL_sY, z_hR_sY, z_hA_sY, z_hB_sY, z_hC_sY, z_hT_sY, z_hN_sY, z_hZ_sY, z_hI_nO, z_hL_nO, z_hR_nO, z_hA_nO, z_hB_nO, z_hC_nO, z_hT_nO, z_hN_nO, z_hZ_nO, z_hI_nA, z_hL_nA, z_hR_nA, z_hA_nA, z_hB_nA, z_hC_nA, z_hT_nA, z_hN_nA, z_hZ_nA, if_true, if_false, and_false, false_and, and_true, true_and, and_self, decide_true, decide_false, reduceCtorEq, not_false_eq_true, not_true_eq_false, Nat.reduceEqDiff, Nat.reduceAdd, Nat.reduceMul, Nat.add_zero, Nat.zero_add], fun _ => rfl, fun j => ?_, by simp only [z_hI_sI, z_hL_sI, z_hR_sI, z_hA_sI, z_hB_sI, z_hC_sI, z_hT_sI, z_hN_sI, z_hZ_sI, z_hI_sL, z_hL_sL, z_hR_sL, z_hA_sL, z_hB_sL, z_hC_sL, z_hT_sL, z_hN_sL, z_hZ_sL, z_hI_sR, z_hL_sR, z_hR_sR, z_hA_sR, z_hB_sR, z_hC_sR, z_hT_sR, z_hN_sR, z_hZ_sR, z_hI_sA, z_hL_sA, z_hR_sA, z_hA_sA, z_hB_sA, z_hC_sA, z_hT_sA, z_hN_sA, z_hZ_sA, z_hI_sB, z_hL_sB, z_hR_sB, z_hA_sB, z_hB_sB, z_hC_sB, z_hT_sB, z_hN_sB, z_hZ_sB, z_hI_sC, z_hL_sC, z_hR_sC, z_hA_sC, z_hB_sC, z_hC_sC, z_hT_sC, z_hN_sC, z_hZ_sC, z_hI_sY, z_hL_sY, z_hR_sY, z_hA_sY, z_hB_sY, z_hC_sY, z_hT_sY, z_hN_sY, z_hZ_sY, z_hI_nO, z_hL_nO, z_hR_nO, z_hA_nO, z_hB_nO, z_hC_nO, z_hT_nO, z_hN_nO, z_hZ_nO, z_hI_nA, z_hL_nA, z_hR_nA, z_hA_nA, z_hB_nA, z_hC_nA, z_hT_nA, z_hN_nA, z_hZ_nA, if_true, if_false, and_false, false_and, and_true, true_and, and_self, decide_true, decide_false, reduceCtorEq, not_false_eq_true, not_true_eq_false, Nat.reduceEqDiff, Nat.reduceAdd, Nat.reduceMul, Nat.add_zero, Nat.zero_add]⟩
            show _ = if j = i then (if 2 = 1 ∨ 20 ≤ 2 then nL (pk 64 []) else nL (b p)) else _
            rw [if_neg (show ¬ (2 = 1 ∨ 20 ≤ 2) by omega)]
            simp only [z_hI_sI, z_hL_sI, z_hR_sI, z_hA_sI, z_hB_sI, z_hC_sI, z_hT_sI, z_hN_sI, z_hZ_sI, z_hI_sL, z_hL_sL, z_hR_sL, z_hA_sL, z_hB_sL, z_hC_sL, z_hT_sL, z_hN_sL, z_hZ_sL, z_hI_sR, z_hL_sR, z_hR_sR, z_hA_sR, z_hB_sR, z_hC_sR, z_hT_sR, z_hN_sR, z_hZ_sR, z_hI_sA, z_hL_sA, z_hR_sA, z_hA_sA, z_hB_sA, z_hC_sA, z_hT_sA, z_hN_sA, z_hZ_sA, z_hI_sB, z_hL_sB, z_hR_sB, z_hA_sB, z_hB_sB, z_hC_sB, z_hT_sB, z_hN_sB, z_hZ_sB, z_hI_sC, z_hL_sC, z_hR_sC, z_hA_sC, z_hB_sC, z_hC_sC, z_hT_sC, z_hN_sC, z_hZ_sC, z_hI_sY, z_hL_sY, z_hR_sY, z_hA_sY, z_hB_sY, z_hC_sY, z_hT_sY, z_hN_sY, z_hZ_sY, z_hI_nO, z_hL_nO, z_hR_nO, z_hA_nO, z_hB_nO, z_hC_nO, z_hT_nO, z_hN_nO, z_hZ_nO, z_hI_nA, z_hL_nA, z_hR_nA, z_hA_nA, z_hB_nA, z_hC_nA, z_hT_nA, z_hN_nA, z_hZ_nA, if_true, if_false, and_false, false_and, and_true, true_and, and_self, decide_true, decide_false, reduceCtorEq, not_false_eq_true, not_true_eq_false, Nat.reduceEqDiff, Nat.reduceAdd, Nat.reduceMul, Nat.add_zero, Nat.zero_add]
  · have et : tk b L p = (0, p, 0, []) := by
      unfold tk
      rw [if_pos (by omega)]
    rw [if_neg c0, if_pos rfl, et]
    refine ⟨h, rfl, SC.refl h G, at_, fun _ => rfl, fun j => ?_, rfl⟩
    rw [if_neg (show ¬ (0 = 1 ∨ 20 ≤ 0) by omega)]
    exact zz j
end CI
