/-! bindings -/
def bt (np v b i : Nat) : Nat := b / np ^ (v - 1 - i) % np
theorem bt_lt {np v b i : Nat} (h : 0 < np) : bt np v b i < np := Nat.mod_lt _ h
theorem nI_dec {i : Nat} (h : 1 ≤ i) : nI i + -1 = nI (i - 1) := by
  obtain ⟨k, e⟩ : ∃ k, i = k + 1 := ⟨i - 1, by omega⟩
  subst e
  rw [show nI (k + 1) = nI k + 1 from (nI_add k 1).symm, Int32.add_assoc, show (1 : Int32) + -1 = 0 from rfl, Int32.add_zero]
  rfl
theorem bind_step {h : PH} {G : Gh} {n np c i : Nat} (S : SX h G) (J : G.jj = true) (hp : 0 < np) (h5 : np ≤ 5) (hc : c < 1000) (hi : i < 3) : fX6_bind_12 (n + 1) h (G.jd 1) (nI np) (nI c) (nI i) = fX6_bind_12 n (sA h (G.jd 2) (5 + i) (nI (c % np))) (G.jd 1) (nI np) (nI (c / np)) (nI i + -1) := by
  have n0 : ¬ nI np ≤ 0 := by rw [show (0 : Int32) = nI 0 from rfl]; exact nI_ge hp (by omega)
  have n1 : ¬ nI np = 0 := by rw [show (0 : Int32) = nI 0 from rfl, nI_eq (by omega) (by decide)]; omega
  have e5 : 5 + nI i = nI (5 + i) := nI_add 5 i
  show fX6_bind_12F (fX6_bind_12 n) h (G.jd 1) (nI np) (nI c) (nI i) = _
  unfold fX6_bind_12F fX6_bind_37 fX6_bind_50
  simp only [if_neg (nI_pos (show i < 2147483648 by omega)), S.jY J, S.jt0 J, S.jt1 J, S.jt2 J, S.jt3 J, S.jt4 J, S.jt5 J, S.jt6 J, S.jt7 J, S.jt8 J, S.jt9 J, S.jt10 J, S.jt11 J, S.jt12 J, S.jt13 J, S.jt14 J, S.jt15 J, S.jt16 J, S.jt17 J, S.jt18 J, S.jt19 J, S.jt20 J, S.jn2 J, S.jn3 J, S.jn9 J, S.jn10 J, S.jn11 J, S.jn12 J, S.jn13 J, S.jn14 J, S.jn18 J, S.jn19 J, S.jn20 J, S.jr640 J, S.jr641 J, S.jr768 J, S.jr769 J, S.jr770 J, S.jr771 J, S.jr772 J, S.jr773 J, S.jr774 J, S.jr775 J, S.jr645 J, S.jr646 J, S.jr647 J, S.jr648 J, S.jr649 J, S.jr650 J, S.jr652 J, S.jr653 J, S.jr654 J, S.jr656 J, S.jr657 J, S.jr658 J, oN_v, oC_v, oB_v, oB2_v, oB3_v, oB4_v, oK3_v, oK4_v, oL_v, if_true, if_false, and_false, false_and, and_true, true_and, and_self, decide_true, decide_false, reduceCtorEq, not_false_eq_true, not_true_eq_false, Nat.reduceEqDiff, Nat.reduceAdd, Nat.reduceMul, Nat.add_zero, Nat.zero_add, if_neg n0, decide_eq_true n1, e5, oC_t (ix_n (show 5 + i < 8 by omega) (by decide)), nI_clamp (show 5 + i < 2147483648 by omega), nI_div (show c < 2147483648 by omega) (show np < 2147483648 by omega), nI_mod2]
theorem bind_stop {h : PH} {a n : Nat} {x y : Int32} : fX6_bind_12 (n + 1) h a x y (-1) = some h := by
  show fX6_bind_12F (fX6_bind_12 n) h a x y (-1) = _
  unfold fX6_bind_12F
  rw [if_pos (by decide)]
theorem bindC {h : PH} {G : Gh} {np v b : Nat} (S : SX h G) (J : G.jj = true) (hp : 0 < np ∨ v = 0) (h5 : np ≤ 5) (hv : v ≤ 3) (hb : b < 1000) : ∃ h', fX6_bind h (G.jd 1) (nI b) (nI v) (nI np) = some h' ∧ CH G (fun i => i = 2) h h' ∧ (∀ i, i < v → hA h' (G.jd 2) (5 + i) = nI (bt np v b i)) ∧ ∀ p, p < 5 → hA h' (G.jd 2) p = hA h (G.jd 2) p := by
  have v2 : vj 2 := .inl (by decide)
  have C1 : ∀ k x, CH G (fun i => i = 2) h (sA h (G.jd 2) k x) := fun k x => (CH.refl G _ h).sA v2 rfl
  have q3 : ¬ (3 : Int32) < nI v := nI_nlt (a := 3) (by omega) (by omega)
  unfold fX6_bind fX6_bind_0
  rw [if_neg q3, oL_v]
  obtain ⟨m, hm⟩ : ∃ m, FU = m + 4 := ⟨99996, rfl⟩
  rw [hm]
  rcases (show v = 0 ∨ v = 1 ∨ v = 2 ∨ v = 3 by omega) with e | e | e | e <;> subst e
  · refine ⟨h, bind_stop, CH.refl G _ h, fun i hi => by omega, fun _ _ => rfl⟩
  · have hp : 0 < np := by omega
    rw [show nI 1 - 1 = nI 0 from rfl, bind_step S J hp h5 hb (by decide), show nI 0 + -1 = (-1 : Int32) from rfl, bind_stop]
    refine ⟨_, rfl, C1 _ _, ?_, ?_⟩
    · intro i hi
      have : i = 0 := by omega
      subst this
      simp only [z_hI_sI, z_hL_sI, z_hR_sI, z_hA_sI, z_hB_sI, z_hC_sI, z_hT_sI, z_hN_sI, z_hZ_sI, z_hI_sL, z_hL_sL, z_hR_sL, z_hA_sL, z_hB_sL, z_hC_sL, z_hT_sL, z_hN_sL, z_hZ_sL, z_hI_sR, z_hL_sR, z_hR_sR, z_hA_sR, z_hB_sR, z_hC_sR, z_hT_sR, z_hN_sR, z_hZ_sR, z_hI_sA, z_hL_sA, z_hR_sA, z_hA_sA, z_hB_sA, z_hC_sA, z_hT_sA, z_hN_sA, z_hZ_sA, z_hI_sB, z_hL_sB, z_hR_sB, z_hA_sB, z_hB_sB, z_hC_sB, z_hT_sB, z_hN_sB, z_hZ_sB, z_hI_sC, z_hL_sC, z_hR_sC, z_hA_sC, z_hB_sC, z_hC_sC, z_hT_sC, z_hN_sC, z_hZ_sC, z_hI_sY, z_hL_sY, z_hR_sY, z_hA_sY, z_hB_sY, z_hC_sY, z_hT_sY, z_hN_sY, z_hZ_sY, z_hI_nO, z_hL_nO, z_hR_nO, z_hA_nO, z_hB_nO, z_hC_nO, z_hT_nO, z_hN_nO, z_hZ_nO, z_hI_nA, z_hL_nA, z_hR_nA, z_hA_nA, z_hB_nA, z_hC_nA, z_hT_nA, z_hN_nA, z_hZ_nA, if_true, if_false, and_false, false_and, and_true, true_and, and_self, decide_true, decide_false, reduceCtorEq, not_false_eq_true, not_true_eq_false, Nat.reduceEqDiff, Nat.reduceAdd, Nat.reduceMul, Nat.add_zero, Nat.zero_add]
      unfold bt
      rw [show 1 - 1 - 0 = 0 from rfl, Nat.pow_zero, Nat.div_one]
    · intro p hp
      simp only [z_hI_sI, z_hL_sI, z_hR_sI, z_hA_sI, z_hB_sI, z_hC_sI, z_hT_sI, z_hN_sI, z_hZ_sI, z_hI_sL, z_hL_sL, z_hR_sL, z_hA_sL, z_hB_sL, z_hC_sL, z_hT_sL, z_hN_sL, z_hZ_sL, z_hI_sR, z_hL_sR, z_hR_sR, z_hA_sR, z_hB_sR, z_hC_sR, z_hT_sR, z_hN_sR, z_hZ_sR, z_hI_sA, z_hL_sA, z_hR_sA, z_hA_sA, z_hB_sA, z_hC_sA, z_hT_sA, z_hN_sA, z_hZ_sA, z_hI_sB, z_hL_sB, z_hR_sB, z_hA_sB, z_hB_sB, z_hC_sB, z_hT_sB, z_hN_sB, z_hZ_sB, z_hI_sC, z_hL_sC, z_hR_sC, z_hA_sC, z_hB_sC, z_hC_sC, z_hT_sC, z_hN_sC, z_hZ_sC, z_hI_sY, z_hL_sY, z_hR_sY, z_hA_sY, z_hB_sY, z_hC_sY, z_hT_sY, z_hN_sY, z_hZ_sY, z_hI_nO, z_hL_nO, z_hR_nO, z_hA_nO, z_hB_nO, z_hC_nO, z_hT_nO, z_hN_nO, z_hZ_nO, z_hI_nA, z_hL_nA, z_hR_nA, z_hA_nA, z_hB_nA, z_hC_nA, z_hT_nA, z_hN_nA, z_hZ_nA, if_true, if_false, and_false, false_and, and_true, true_and, and_self, decide_true, decide_false, reduceCtorEq, not_false_eq_true, not_true_eq_false, Nat.reduceEqDiff, Nat.reduceAdd, Nat.reduceMul, Nat.add_zero, Nat.zero_add]
      rw [if_neg (by omega)]
  · have hp : 0 < np := by omega
    have l1 : b / np ≤ b := Nat.div_le_self _ _
    rw [show nI 2 - 1 = nI 1 from rfl, bind_step S J hp h5 hb (by decide), show nI 1 + -1 = nI 0 from rfl, bind_step ((C1 _ _).sx S) J hp h5 (by omega) (by decide), show nI 0 + -1 = (-1 : Int32) from rfl, bind_stop]
    refine ⟨_, rfl, (C1 _ _).sA v2 rfl, ?_, ?_⟩
    · intro i hi
      rcases (show i = 0 ∨ i = 1 by omega) with e | e <;> subst e
      · simp only [z_hI_sI, z_hL_sI, z_hR_sI, z_hA_sI, z_hB_sI, z_hC_sI, z_hT_sI, z_hN_sI, z_hZ_sI, z_hI_sL, z_hL_sL, z_hR_sL, z_hA_sL, z_hB_sL, z_hC_sL, z_hT_sL, z_hN_sL, z_hZ_sL, z_hI_sR, z_hL_sR, z_hR_sR, z_hA_sR, z_hB_sR, z_hC_sR, z_hT_sR, z_hN_sR, z_hZ_sR, z_hI_sA, z_hL_sA, z_hR_sA, z_hA_sA, z_hB_sA, z_hC_sA, z_hT_sA, z_hN_sA, z_hZ_sA, z_hI_sB, z_hL_sB, z_hR_sB, z_hA_sB, z_hB_sB, z_hC_sB, z_hT_sB, z_hN_sB, z_hZ_sB, z_hI_sC, z_hL_sC, z_hR_sC, z_hA_sC, z_hB_sC, z_hC_sC, z_hT_sC, z_hN_sC, z_hZ_sC, z_hI_sY, z_hL_sY, z_hR_sY, z_hA_sY, z_hB_sY, z_hC_sY, z_hT_sY, z_hN_sY, z_hZ_sY, z_hI_nO, z_hL_nO, z_hR_nO, z_hA_nO, z_hB_nO, z_hC_nO, z_hT_nO, z_hN_nO, z_hZ_nO, z_hI_nA, z_hL_nA, z_hR_nA, z_hA_nA, z_hB_nA, z_hC_nA, z_hT_nA, z_hN_nA, z_hZ_nA, if_true, if_false, and_false, false_and, and_true, true_and, and_self, decide_true, decide_false, reduceCtorEq, not_false_eq_true, not_true_eq_false, Nat.reduceEqDiff, Nat.reduceAdd, Nat.reduceMul, Nat.add_zero, Nat.zero_add]
        unfold bt
        rw [show 2 - 1 - 0 = 1 from rfl, Nat.pow_one]
      · simp only [z_hI_sI, z_hL_sI, z_hR_sI, z_hA_sI, z_hB_sI, z_hC_sI, z_hT_sI, z_hN_sI, z_hZ_sI, z_hI_sL, z_hL_sL, z_hR_sL, z_hA_sL, z_hB_sL, z_hC_sL, z_hT_sL, z_hN_sL, z_hZ_sL, z_hI_sR, z_hL_sR, z_hR_sR, z_hA_sR, z_hB_sR, z_hC_sR, z_hT_sR, z_hN_sR, z_hZ_sR, z_hI_sA, z_hL_sA, z_hR_sA, z_hA_sA, z_hB_sA, z_hC_sA, z_hT_sA, z_hN_sA, z_hZ_sA, z_hI_sB, z_hL_sB, z_hR_sB, z_hA_sB, z_hB_sB, z_hC_sB, z_hT_sB, z_hN_sB, z_hZ_sB, z_hI_sC, z_hL_sC, z_hR_sC, z_hA_sC, z_hB_sC, z_hC_sC, z_hT_sC, z_hN_sC, z_hZ_sC, z_hI_sY, z_hL_sY, z_hR_sY, z_hA_sY, z_hB_sY, z_hC_sY, z_hT_sY, z_hN_sY, z_hZ_sY, z_hI_nO, z_hL_nO, z_hR_nO, z_hA_nO, z_hB_nO, z_hC_nO, z_hT_nO, z_hN_nO, z_hZ_nO, z_hI_nA, z_hL_nA, z_hR_nA, z_hA_nA, z_hB_nA, z_hC_nA, z_hT_nA, z_hN_nA, z_hZ_nA, if_true, if_false, and_false, false_and, and_true, true_and, and_self, decide_true, decide_false, reduceCtorEq, not_false_eq_true, not_true_eq_false, Nat.reduceEqDiff, Nat.reduceAdd, Nat.reduceMul, Nat.add_zero, Nat.zero_add]
        unfold bt
        rw [show 2 - 1 - 1 = 0 from rfl, Nat.pow_zero, Nat.div_one]
    · intro p hp
      simp only [z_hI_sI, z_hL_sI, z_hR_sI, z_hA_sI, z_hB_sI, z_hC_sI, z_hT_sI, z_hN_sI, z_hZ_sI, z_hI_sL, z_hL_sL, z_hR_sL, z_hA_sL, z_hB_sL, z_hC_sL, z_hT_sL, z_hN_sL, z_hZ_sL, z_hI_sR, z_hL_sR, z_hR_sR, z_hA_sR, z_hB_sR, z_hC_sR, z_hT_sR, z_hN_sR, z_hZ_sR, z_hI_sA, z_hL_sA, z_hR_sA, z_hA_sA, z_hB_sA, z_hC_sA, z_hT_sA, z_hN_sA, z_hZ_sA, z_hI_sB, z_hL_sB, z_hR_sB, z_hA_sB, z_hB_sB, z_hC_sB, z_hT_sB, z_hN_sB, z_hZ_sB, z_hI_sC, z_hL_sC, z_hR_sC, z_hA_sC, z_hB_sC, z_hC_sC, z_hT_sC, z_hN_sC, z_hZ_sC, z_hI_sY, z_hL_sY, z_hR_sY, z_hA_sY, z_hB_sY, z_hC_sY, z_hT_sY, z_hN_sY, z_hZ_sY, z_hI_nO, z_hL_nO, z_hR_nO, z_hA_nO, z_hB_nO, z_hC_nO, z_hT_nO, z_hN_nO, z_hZ_nO, z_hI_nA, z_hL_nA, z_hR_nA, z_hA_nA, z_hB_nA, z_hC_nA, z_hT_nA, z_hN_nA, z_hZ_nA, if_true, if_false, and_false, false_and, and_true, true_and, and_self, decide_true, decide_false, reduceCtorEq, not_false_eq_true, not_true_eq_false, Nat.reduceEqDiff, Nat.reduceAdd, Nat.reduceMul, Nat.add_zero, Nat.zero_add]
      rw [if_neg (by omega), if_neg (by omega)]
  · have hp : 0 < np := by omega
    have l1 : b / np ≤ b := Nat.div_le_self _ _
    have l2 : b / np / np ≤ b / np := Nat.div_le_self _ _
    rw [show nI 3 - 1 = nI 2 from rfl, bind_step S J hp h5 hb (by decide), show nI 2 + -1 = nI 1 from rfl, bind_step ((C1 _ _).sx S) J hp h5 (by omega) (by decide), show nI 1 + -1 = nI 0 from rfl, bind_step (((C1 _ _).sA v2 rfl).sx S) J hp h5 (by omega) (by decide), show nI 0 + -1 = (-1 : Int32) from rfl, bind_stop]
    refine ⟨_, rfl, ((C1 _ _).sA v2 rfl).sA v2 rfl, ?_, ?_⟩
    · intro i hi
      rcases (show i = 0 ∨ i = 1 ∨ i = 2 by omega) with e | e | e <;> subst e
      · simp only [z_hI_sI, z_hL_sI, z_hR_sI, z_hA_sI, z_hB_sI, z_hC_sI, z_hT_sI, z_hN_sI, z_hZ_sI, z_hI_sL, z_hL_sL, z_hR_sL, z_hA_sL, z_hB_sL, z_hC_sL, z_hT_sL, z_hN_sL, z_hZ_sL, z_hI_sR, z_hL_sR, z_hR_sR, z_hA_sR, z_hB_sR, z_hC_sR, z_hT_sR, z_hN_sR, z_hZ_sR, z_hI_sA, z_hL_sA, z_hR_sA, z_hA_sA, z_hB_sA, z_hC_sA, z_hT_sA, z_hN_sA, z_hZ_sA, z_hI_sB, z_hL_sB, z_hR_sB, z_hA_sB, z_hB_sB, z_hC_sB, z_hT_sB, z_hN_sB, z_hZ_sB, z_hI_sC, z_hL_sC, z_hR_sC, z_hA_sC, z_hB_sC, z_hC_sC, z_hT_sC, z_hN_sC, z_hZ_sC, z_hI_sY, z_hL_sY, z_hR_sY, z_hA_sY, z_hB_sY, z_hC_sY, z_hT_sY, z_hN_sY, z_hZ_sY, z_hI_nO, z_hL_nO, z_hR_nO, z_hA_nO, z_hB_nO, z_hC_nO, z_hT_nO, z_hN_nO, z_hZ_nO, z_hI_nA, z_hL_nA, z_hR_nA, z_hA_nA, z_hB_nA, z_hC_nA, z_hT_nA, z_hN_nA, z_hZ_nA, if_true, if_false, and_false, false_and, and_true, true_and, and_self, decide_true, decide_false, reduceCtorEq, not_false_eq_true, not_true_eq_false, Nat.reduceEqDiff, Nat.reduceAdd, Nat.reduceMul, Nat.add_zero, Nat.zero_add]
        unfold bt
        rw [show 3 - 1 - 0 = 2 from rfl, Nat.pow_two, Nat.div_div_eq_div_mul]
      · simp only [z_hI_sI, z_hL_sI, z_hR_sI, z_hA_sI, z_hB_sI, z_hC_sI, z_hT_sI, z_hN_sI, z_hZ_sI, z_hI_sL, z_hL_sL, z_hR_sL, z_hA_sL, z_hB_sL, z_hC_sL, z_hT_sL, z_hN_sL, z_hZ_sL, z_hI_sR, z_hL_sR, z_hR_sR, z_hA_sR, z_hB_sR, z_hC_sR, z_hT_sR, z_hN_sR, z_hZ_sR, z_hI_sA, z_hL_sA, z_hR_sA, z_hA_sA, z_hB_sA, z_hC_sA, z_hT_sA, z_hN_sA, z_hZ_sA, z_hI_sB, z_hL_sB, z_hR_sB, z_hA_sB, z_hB_sB, z_hC_sB, z_hT_sB, z_hN_sB, z_hZ_sB, z_hI_sC, z_hL_sC, z_hR_sC, z_hA_sC, z_hB_sC, z_hC_sC, z_hT_sC, z_hN_sC, z_hZ_sC, z_hI_sY, z_hL_sY, z_hR_sY, z_hA_sY, z_hB_sY, z_hC_sY, z_hT_sY, z_hN_sY, z_hZ_sY, z_hI_nO, z_hL_nO, z_hR_nO, z_hA_nO, z_hB_nO, z_hC_nO, z_hT_nO, z_hN_nO, z_hZ_nO, z_hI_nA, z_hL_nA, z_hR_nA, z_hA_nA, z_hB_nA, z_hC_nA, z_hT_nA, z_hN_nA, z_hZ_nA, if_true, if_false, and_false, false_and, and_true, true_and, and_self, decide_true, decide_false, reduceCtorEq, not_false_eq_true, not_true_eq_false, Nat.reduceEqDiff, Nat.reduceAdd, Nat.reduceMul, Nat.add_zero, Nat.zero_add]
        unfold bt
        rw [show 3 - 1 - 1 = 1 from rfl, Nat.pow_one]
      · simp only [z_hI_sI, z_hL_sI, z_hR_sI, z_hA_sI, z_hB_sI, z_hC_sI, z_hT_sI, z_hN_sI, z_hZ_sI, z_hI_sL, z_hL_sL, z_hR_sL, z_hA_sL, z_hB_sL, z_hC_sL, z_hT_sL, z_hN_sL, z_hZ_sL, z_hI_sR, z_hL_sR, z_hR_sR, z_hA_sR, z_hB_sR, z_hC_sR, z_hT_sR, z_hN_sR, z_hZ_sR, z_hI_sA, z_hL_sA, z_hR_sA, z_hA_sA, z_hB_sA, z_hC_sA, z_hT_sA, z_hN_sA, z_hZ_sA, z_hI_sB, z_hL_sB, z_hR_sB, z_hA_sB, z_hB_sB, z_hC_sB, z_hT_sB, z_hN_sB, z_hZ_sB, z_hI_sC, z_hL_sC, z_hR_sC, z_hA_sC, z_hB_sC, z_hC_sC, z_hT_sC, z_hN_sC, z_hZ_sC, z_hI_sY, z_hL_sY, z_hR_sY, z_hA_sY, z_hB_sY, z_hC_sY, z_hT_sY, z_hN_sY, z_hZ_sY, z_hI_nO, z_hL_nO, z_hR_nO, z_hA_nO, z_hB_nO, z_hC_nO, z_hT_nO, z_hN_nO, z_hZ_nO, z_hI_nA, z_hL_nA, z_hR_nA, z_hA_nA, z_hB_nA, z_hC_nA, z_hT_nA, z_hN_nA, z_hZ_nA, if_true, if_false, and_false, false_and, and_true, true_and, and_self, decide_true, decide_false, reduceCtorEq, not_false_eq_true, not_true_eq_false, Nat.reduceEqDiff, Nat.reduceAdd, Nat.reduceMul, Nat.add_zero, Nat.zero_add]
        unfold bt
        rw [show 3 - 1 - 2 = 0 from rfl, Nat.pow_zero, Nat.div_one]
    · intro p hp
      simp only [z_hI_sI, z_hL_sI, z_hR_sI, z_hA_sI, z_hB_sI, z_hC_sI, z_hT_sI, z_hN_sI, z_hZ_sI, z_hI_sL, z_hL_sL, z_hR_sL, z_hA_sL, z_hB_sL, z_hC_sL, z_hT_sL, z_hN_sL, z_hZ_sL, z_hI_sR, z_hL_sR, z_hR_sR, z_hA_sR, z_hB_sR, z_hC_sR, z_hT_sR, z_hN_sR, z_hZ_sR, z_hI_sA, z_hL_sA, z_hR_sA, z_hA_sA, z_hB_sA, z_hC_sA, z_hT_sA, z_hN_sA, z_hZ_sA, z_hI_sB, z_hL_sB, z_hR_sB, z_hA_sB, z_hB_sB, z_hC_sB, z_hT_sB, z_hN_sB, z_hZ_sB, z_hI_sC, z_hL_sC, z_hR_sC, z_hA_sC, z_hB_sC, z_hC_sC, z_hT_sC, z_hN_sC, z_hZ_sC, z_hI_sY, z_hL_sY, z_hR_sY, z_hA_sY, z_hB_sY, z_hC_sY, z_hT_sY, z_hN_sY, z_hZ_sY, z_hI_nO, z_hL_nO, z_hR_nO, z_hA_nO, z_hB_nO, z_hC_nO, z_hT_nO, z_hN_nO, z_hZ_nO, z_hI_nA, z_hL_nA, z_hR_nA, z_hA_nA, z_hB_nA, z_hC_nA, z_hT_nA, z_hN_nA, z_hZ_nA, if_true, if_false, and_false, false_and, and_true, true_and, and_self, decide_true, decide_false, reduceCtorEq, not_false_eq_true, not_true_eq_false, Nat.reduceEqDiff, Nat.reduceAdd, Nat.reduceMul, Nat.add_zero, Nat.zero_add]
      rw [if_neg (by omega), if_neg (by omega), if_neg (by omega)]
/-! the reference -/
theorem gives_y {u : MS} {n np c i r v : Nat} (m18 : mI u 18 = nI np) (m42 : mA u 42 r = nI v) (hr : r < 30) (hp : 0 < np) (h5 : np ≤ 5) (hc : c < 1000) (hv : v ≤ 3) (hi : i < v) : fX12_gives_5 (n + 1) u (nI r) (nI c) (nI i) = fX12_gives_5 n (mSA (mSA u 95 i (-1)) 95 i (nI (c % np))) (nI r) (nI (c / np)) (nI i + -1) := by
  have n1 : ¬ nI np = 0 := by rw [show (0 : Int32) = nI 0 from rfl, nI_eq (by omega) (by decide)]; omega
  show fX12_gives_5F (fX12_gives_5 n) u (nI r) (nI c) (nI i) = _
  unfold fX12_gives_5F fX12_gives_52
  simp only [if_neg (nI_pos (show i < 2147483648 by omega)), oN_v, oC_v, oB_v, oB2_v, oB3_v, oB4_v, oK3_v, oK4_v, oL_v, oC_t (ix_n (show i < mlen 95 by show i < 3; omega) (by decide)), oC_t (ix_n (show r < mlen 42 from hr) (by decide)), nI_clamp (show i < 2147483648 by omega), nI_clamp (show r < 2147483648 by omega), z_mI_mSI, z_mL_mSI, z_mA_mSI, z_mB_mSI, z_mI_mSL, z_mL_mSL, z_mA_mSL, z_mB_mSL, z_mI_mSA, z_mL_mSA, z_mA_mSA, z_mB_mSA, z_mI_mSB, z_mL_mSB, z_mA_mSB, z_mB_mSB, m42, m18, show ¬ (42 = 95) by decide, if_true, if_false, and_false, false_and, and_true, true_and, and_self, decide_true, decide_false, reduceCtorEq, not_false_eq_true, not_true_eq_false, Nat.reduceEqDiff, Nat.reduceAdd, Nat.reduceMul, Nat.add_zero, Nat.zero_add, decide_eq_true n1, nI_div (show c < 2147483648 by omega) (show np < 2147483648 by omega), nI_mod2]
  rw [if_pos (nI_lt hi (by omega))]
theorem gives_n {u : MS} {n c i r v : Nat} (m42 : mA u 42 r = nI v) (hr : r < 30) (hi : i < 3) (hv : v ≤ i) : fX12_gives_5 (n + 1) u (nI r) (nI c) (nI i) = fX12_gives_5 n (mSA u 95 i (-1)) (nI r) (nI c) (nI i + -1) := by
  show fX12_gives_5F (fX12_gives_5 n) u (nI r) (nI c) (nI i) = _
  unfold fX12_gives_5F fX12_gives_52
  simp only [if_neg (nI_pos (show i < 2147483648 by omega)), oN_v, oC_v, oB_v, oB2_v, oB3_v, oB4_v, oK3_v, oK4_v, oL_v, oC_t (ix_n (show i < mlen 95 by show i < 3; omega) (by decide)), oC_t (ix_n (show r < mlen 42 from hr) (by decide)), nI_clamp (show i < 2147483648 by omega), nI_clamp (show r < 2147483648 by omega), z_mI_mSI, z_mL_mSI, z_mA_mSI, z_mB_mSI, z_mI_mSL, z_mL_mSL, z_mA_mSL, z_mB_mSL, z_mI_mSA, z_mL_mSA, z_mA_mSA, z_mB_mSA, z_mI_mSB, z_mL_mSB, z_mA_mSB, z_mB_mSB, m42, show ¬ (42 = 95) by decide, if_true, if_false, and_false, false_and, and_true, true_and, and_self, decide_true, decide_false, reduceCtorEq, not_false_eq_true, not_true_eq_false, Nat.reduceEqDiff, Nat.reduceAdd, Nat.reduceMul, Nat.add_zero, Nat.zero_add]
  rw [if_neg (nI_nlt (by omega) (by omega))]
theorem gives_s {u : MS} {n : Nat} {x y : Int32} : fX12_gives_5 (n + 1) u x y (-1) = some u := by
  show fX12_gives_5F (fX12_gives_5 n) u x y (-1) = _
  unfold fX12_gives_5F
  rw [if_pos (by decide)]
theorem givesM {u : MS} {np v b r : Nat} (m18 : mI u 18 = nI np) (m42 : mA u 42 r = nI v) (hr : r < 30) (hp : 0 < np ∨ v = 0) (h5 : np ≤ 5) (hv : v ≤ 3) (hb : b < 1000) : ∃ u', fX12_gives u (nI r) (nI b) = some u' ∧ MAg (fun k => k ≠ 95) u u' ∧ ∀ i, i < 3 → mA u' 95 i = if i < v then nI (bt np v b i) else -1 := by
  unfold fX12_gives fX12_gives_0
  obtain ⟨m, hm⟩ : ∃ m, FU = m + 4 := ⟨99996, rfl⟩
  have f18 : ∀ w k x, mI w 18 = nI np → mI (mSA w 95 k x) 18 = nI np := fun w k x e => by simp only [z_mI_mSI, z_mL_mSI, z_mA_mSI, z_mB_mSI, z_mI_mSL, z_mL_mSL, z_mA_mSL, z_mB_mSL, z_mI_mSA, z_mL_mSA, z_mA_mSA, z_mB_mSA, z_mI_mSB, z_mL_mSB, z_mA_mSB, z_mB_mSB]; exact e
  have f42 : ∀ w k x, mA w 42 r = nI v → mA (mSA w 95 k x) 42 r = nI v := fun w k x e => by simp only [z_mI_mSI, z_mL_mSI, z_mA_mSI, z_mB_mSI, z_mI_mSL, z_mL_mSL, z_mA_mSL, z_mB_mSL, z_mI_mSA, z_mL_mSA, z_mA_mSA, z_mB_mSA, z_mI_mSB, z_mL_mSB, z_mA_mSB, z_mB_mSB, show ¬ (42 = 95) by decide, if_true, if_false, and_false, false_and, and_true, true_and, and_self, decide_true, decide_false, reduceCtorEq, not_false_eq_true, not_true_eq_false, Nat.reduceEqDiff, Nat.reduceAdd, Nat.reduceMul, Nat.add_zero, Nat.zero_add]; exact e
  have A : ∀ {w : MS} {k : Nat} {x : Int32}, MAg (fun k => k ≠ 95) u w → MAg (fun k => k ≠ 95) u (mSA w 95 k x) := fun g => g.sA (fun q => q rfl)
  have R := MAg.refl (P := fun k => k ≠ 95) u
  have l1 : b / np ≤ b := Nat.div_le_self _ _
  have l2 : b / np / np ≤ b / np := Nat.div_le_self _ _
  rw [hm, show (2 : Int32) = nI 2 from rfl]
  rcases (show v = 0 ∨ v = 1 ∨ v = 2 ∨ v = 3 by omega) with e | e | e | e <;> subst e
  · rw [gives_n m42 hr (by decide) (by omega), show nI 2 + -1 = nI 1 from rfl, gives_n (f42 _ _ _ m42) hr (by decide) (by omega), show nI 1 + -1 = nI 0 from rfl, gives_n (f42 _ _ _ (f42 _ _ _ m42)) hr (by decide) (by omega), show nI 0 + -1 = (-1 : Int32) from rfl, gives_s]
    refine ⟨_, rfl, A (A (A R)), fun i hi => ?_⟩
    rw [if_neg (by omega)]
    rcases (show i = 0 ∨ i = 1 ∨ i = 2 by omega) with e | e | e <;> subst e <;> simp only [z_mI_mSI, z_mL_mSI, z_mA_mSI, z_mB_mSI, z_mI_mSL, z_mL_mSL, z_mA_mSL, z_mB_mSL, z_mI_mSA, z_mL_mSA, z_mA_mSA, z_mB_mSA, z_mI_mSB, z_mL_mSB, z_mA_mSB, z_mB_mSB, if_true, if_false, and_false, false_and, and_true, true_and, and_self, decide_true, decide_false, reduceCtorEq, not_false_eq_true, not_true_eq_false, Nat.reduceEqDiff, Nat.reduceAdd, Nat.reduceMul, Nat.add_zero, Nat.zero_add] <;> simp
  · have hp : 0 < np := by omega
    rw [gives_n m42 hr (by decide) (by omega), show nI 2 + -1 = nI 1 from rfl, gives_n (f42 _ _ _ m42) hr (by decide) (by omega), show nI 1 + -1 = nI 0 from rfl, gives_y (f18 _ _ _ (f18 _ _ _ m18)) (f42 _ _ _ (f42 _ _ _ m42)) hr hp h5 hb (by decide) (by decide), show nI 0 + -1 = (-1 : Int32) from rfl, gives_s]
    refine ⟨_, rfl, A (A (A (A R))), fun i hi => ?_⟩
    rcases (show i = 0 ∨ i = 1 ∨ i = 2 by omega) with e | e | e <;> subst e
    · simp only [z_mI_mSI, z_mL_mSI, z_mA_mSI, z_mB_mSI, z_mI_mSL, z_mL_mSL, z_mA_mSL, z_mB_mSL, z_mI_mSA, z_mL_mSA, z_mA_mSA, z_mB_mSA, z_mI_mSB, z_mL_mSB, z_mA_mSB, z_mB_mSB, if_true, if_false, and_false, false_and, and_true, true_and, and_self, decide_true, decide_false, reduceCtorEq, not_false_eq_true, not_true_eq_false, Nat.reduceEqDiff, Nat.reduceAdd, Nat.reduceMul, Nat.add_zero, Nat.zero_add]
      unfold bt
      rw [if_pos (by decide), show 1 - 1 - 0 = 0 from rfl, Nat.pow_zero, Nat.div_one]
    · simp only [z_mI_mSI, z_mL_mSI, z_mA_mSI, z_mB_mSI, z_mI_mSL, z_mL_mSL, z_mA_mSL, z_mB_mSL, z_mI_mSA, z_mL_mSA, z_mA_mSA, z_mB_mSA, z_mI_mSB, z_mL_mSB, z_mA_mSB, z_mB_mSB, if_true, if_false, and_false, false_and, and_true, true_and, and_self, decide_true, decide_false, reduceCtorEq, not_false_eq_true, not_true_eq_false, Nat.reduceEqDiff, Nat.reduceAdd, Nat.reduceMul, Nat.add_zero, Nat.zero_add]; simp
    · simp only [z_mI_mSI, z_mL_mSI, z_mA_mSI, z_mB_mSI, z_mI_mSL, z_mL_mSL, z_mA_mSL, z_mB_mSL, z_mI_mSA, z_mL_mSA, z_mA_mSA, z_mB_mSA, z_mI_mSB, z_mL_mSB, z_mA_mSB, z_mB_mSB, if_true, if_false, and_false, false_and, and_true, true_and, and_self, decide_true, decide_false, reduceCtorEq, not_false_eq_true, not_true_eq_false, Nat.reduceEqDiff, Nat.reduceAdd, Nat.reduceMul, Nat.add_zero, Nat.zero_add]; simp
  · have hp : 0 < np := by omega
    rw [gives_n m42 hr (by decide) (by omega), show nI 2 + -1 = nI 1 from rfl, gives_y (f18 _ _ _ m18) (f42 _ _ _ m42) hr hp h5 hb (by decide) (by decide), show nI 1 + -1 = nI 0 from rfl, gives_y (f18 _ _ _ (f18 _ _ _ (f18 _ _ _ m18))) (f42 _ _ _ (f42 _ _ _ (f42 _ _ _ m42))) hr hp h5 (by omega) (by decide) (by decide), show nI 0 + -1 = (-1 : Int32) from rfl, gives_s]
    refine ⟨_, rfl, A (A (A (A (A R)))), fun i hi => ?_⟩
    rcases (show i = 0 ∨ i = 1 ∨ i = 2 by omega) with e | e | e <;> subst e
    · simp only [z_mI_mSI, z_mL_mSI, z_mA_mSI, z_mB_mSI, z_mI_mSL, z_mL_mSL, z_mA_mSL, z_mB_mSL, z_mI_mSA, z_mL_mSA, z_mA_mSA, z_mB_mSA, z_mI_mSB, z_mL_mSB, z_mA_mSB, z_mB_mSB, if_true, if_false, and_false, false_and, and_true, true_and, and_self, decide_true, decide_false, reduceCtorEq, not_false_eq_true, not_true_eq_false, Nat.reduceEqDiff, Nat.reduceAdd, Nat.reduceMul, Nat.add_zero, Nat.zero_add]
      unfold bt
      rw [if_pos (by decide), show 2 - 1 - 0 = 1 from rfl, Nat.pow_one]
    · simp only [z_mI_mSI, z_mL_mSI, z_mA_mSI, z_mB_mSI, z_mI_mSL, z_mL_mSL, z_mA_mSL, z_mB_mSL, z_mI_mSA, z_mL_mSA, z_mA_mSA, z_mB_mSA, z_mI_mSB, z_mL_mSB, z_mA_mSB, z_mB_mSB, if_true, if_false, and_false, false_and, and_true, true_and, and_self, decide_true, decide_false, reduceCtorEq, not_false_eq_true, not_true_eq_false, Nat.reduceEqDiff, Nat.reduceAdd, Nat.reduceMul, Nat.add_zero, Nat.zero_add]
      unfold bt
      rw [if_pos (by decide), show 2 - 1 - 1 = 0 from rfl, Nat.pow_zero, Nat.div_one]
    · simp only [z_mI_mSI, z_mL_mSI, z_mA_mSI, z_mB_mSI, z_mI_mSL, z_mL_mSL, z_mA_mSL, z_mB_mSL, z_mI_mSA, z_mL_mSA, z_mA_mSA, z_mB_mSA, z_mI_mSB, z_mL_mSB, z_mA_mSB, z_mB_mSB, if_true, if_false, and_false, false_and, and_true, true_and, and_self, decide_true, decide_false, reduceCtorEq, not_false_eq_true, not_true_eq_false, Nat.reduceEqDiff, Nat.reduceAdd, Nat.reduceMul, Nat.add_zero, Nat.zero_add]; simp
  · have hp : 0 < np := by omega
    rw [gives_y m18 m42 hr hp h5 hb (by decide) (by decide), show nI 2 + -1 = nI 1 from rfl, gives_y (f18 _ _ _ (f18 _ _ _ m18)) (f42 _ _ _ (f42 _ _ _ m42)) hr hp h5 (by omega) (by decide) (by decide), show nI 1 + -1 = nI 0 from rfl, gives_y (f18 _ _ _ (f18 _ _ _ (f18 _ _ _ (f18 _ _ _ m18)))) (f42 _ _ _ (f42 _ _ _ (f42 _ _ _ (f42 _ _ _ m42)))) hr hp h5 (by omega) (by decide) (by decide), show nI 0 + -1 = (-1 : Int32) from rfl, gives_s]
    refine ⟨_, rfl, A (A (A (A (A (A R))))), fun i hi => ?_⟩
    rcases (show i = 0 ∨ i = 1 ∨ i = 2 by omega) with e | e | e <;> subst e
    · simp only [z_mI_mSI, z_mL_mSI, z_mA_mSI, z_mB_mSI, z_mI_mSL, z_mL_mSL, z_mA_mSL, z_mB_mSL, z_mI_mSA, z_mL_mSA, z_mA_mSA, z_mB_mSA, z_mI_mSB, z_mL_mSB, z_mA_mSB, z_mB_mSB, if_true, if_false, and_false, false_and, and_true, true_and, and_self, decide_true, decide_false, reduceCtorEq, not_false_eq_true, not_true_eq_false, Nat.reduceEqDiff, Nat.reduceAdd, Nat.reduceMul, Nat.add_zero, Nat.zero_add]
      unfold bt
      rw [if_pos (by decide), show 3 - 1 - 0 = 2 from rfl, Nat.pow_two, Nat.div_div_eq_div_mul]
    · simp only [z_mI_mSI, z_mL_mSI, z_mA_mSI, z_mB_mSI, z_mI_mSL, z_mL_mSL, z_mA_mSL, z_mB_mSL, z_mI_mSA, z_mL_mSA, z_mA_mSA, z_mB_mSA, z_mI_mSB, z_mL_mSB, z_mA_mSB, z_mB_mSB, if_true, if_false, and_false, false_and, and_true, true_and, and_self, decide_true, decide_false, reduceCtorEq, not_false_eq_true, not_true_eq_false, Nat.reduceEqDiff, Nat.reduceAdd, Nat.reduceMul, Nat.add_zero, Nat.zero_add]
      unfold bt
      rw [if_pos (by decide), show 3 - 1 - 1 = 1 from rfl, Nat.pow_one]
    · simp only [z_mI_mSI, z_mL_mSI, z_mA_mSI, z_mB_mSI, z_mI_mSL, z_mL_mSL, z_mA_mSL, z_mB_mSL, z_mI_mSA, z_mL_mSA, z_mA_mSA, z_mB_mSA, z_mI_mSB, z_mL_mSB, z_mA_mSB, z_mB_mSB, if_true, if_false, and_false, false_and, and_true, true_and, and_self, decide_true, decide_false, reduceCtorEq, not_false_eq_true, not_true_eq_false, Nat.reduceEqDiff, Nat.reduceAdd, Nat.reduceMul, Nat.add_zero, Nat.zero_add]
      unfold bt
      rw [if_pos (by decide), show 3 - 1 - 2 = 0 from rfl, Nat.pow_zero, Nat.div_one]
theorem instM {u : MS} {np v r : Nat} (m18 : mI u 18 = nI np) (m42 : mA u 42 r = nI v) (hr : r < 30) (h5 : np ≤ 5) (hv : v ≤ 3) : fX12_instances u (nI r) = some (nI (np ^ v)) := by
  have st : ∀ m k f c, k + m = v → fX12_instances_4 (f + (m + 1)) u (nI r) (nI c) (nI k) = some (nI (c * np ^ m)) := by
    intro m
    induction m with
    | zero =>
      intro k f c e
      show fX12_instances_4F (fX12_instances_4 f) u (nI r) (nI c) (nI k) = _
      unfold fX12_instances_4F
      rw [oC_t (ix_n (show r < mlen 42 from hr) (by decide)), nI_clamp (by omega), m42, if_pos (nI_le (by omega) (by omega)), Nat.pow_zero, Nat.mul_one]
    | succ m ih =>
      intro k f c e
      show fX12_instances_4F (fX12_instances_4 (f + (m + 1))) u (nI r) (nI c) (nI k) = _
      unfold fX12_instances_4F
      rw [oC_t (ix_n (show r < mlen 42 from hr) (by decide)), nI_clamp (by omega), m42, if_neg (nI_ge (show k < v by omega) (by omega)), oL_v, oL_v, m18, nI_mul, show nI k + 1 = nI (k + 1) from nI_add k 1, ih (k + 1) f (c * np) (by omega), Nat.pow_succ, Nat.mul_assoc, Nat.mul_comm np]
  unfold fX12_instances fX12_instances_0
  obtain ⟨f, hf⟩ : ∃ f, FU = f + (v + 1) := ⟨FU - (v + 1), by have : FU = 100000 := rfl; omega⟩
  have := st v 0 f 1 (by omega)
  rw [Nat.one_mul] at this
  rw [hf]
  exact this
