/-! fractions: both programs' lowest terms -/
/-- a numerator and a denominator that fit -/
def okND (n d : Int64) : Prop := n.toInt.natAbs ≤ 4000000000000000000 ∧ 1 ≤ d.toInt ∧ d.toInt ≤ 4000000000000000000
def gq (n d : Int64) : Int64 := nL (Nat.gcd n.toInt.natAbs d.toInt.natAbs)
abbrev big (n d : Int64) : Prop := 1000000000 < n.toInt.natAbs ∨ 1000000000 < d.toInt
theorem i64_nat {a : Int64} (h : 0 ≤ a.toInt) : a = nL a.toInt.natAbs := by
  have l : a.toInt < 9223372036854775808 := Int64.toInt_lt a
  apply Int64.toInt_inj.mp
  rw [nL_toInt (by omega)]
  omega
theorem i64_neg {a : Int64} (h : a.toInt ≤ 0) (m : a.toInt.natAbs < 9223372036854775808) : -a = nL a.toInt.natAbs := by
  apply Int64.toInt_inj.mp
  rw [Int64.toInt_neg, nL_toInt m, Int.bmod_eq_of_le (by omega) (by omega)]
  omega
theorem gq_pos {n d : Int64} (o : okND n d) : 1 ≤ Nat.gcd n.toInt.natAbs d.toInt.natAbs := by
  obtain ⟨o1, o2, o3⟩ := o
  exact Nat.gcd_pos_of_pos_right _ (by omega)
theorem gq_le {n d : Int64} (o : okND n d) : Nat.gcd n.toInt.natAbs d.toInt.natAbs ≤ 4000000000000000000 := by
  obtain ⟨o1, o2, o3⟩ := o
  exact Nat.le_trans (Nat.gcd_le_right _ (by omega)) (by omega)
theorem gq_ne {n d : Int64} (o : okND n d) : ¬ gq n d = 0 := nLne (by have := gq_le o; omega) (by have := gq_pos o; omega)
theorem div_abs {n : Int64} {g : Nat} (h : n.toInt.natAbs ≤ 4000000000000000000) (hg : g ≤ 4000000000000000000) : (n / nL g).toInt = n.toInt.tdiv g ∧ (n / nL g).toInt.natAbs ≤ n.toInt.natAbs := by
  have e : (n.toInt.tdiv (g : Int)).natAbs = n.toInt.natAbs / g := Int.natAbs_tdiv _ _
  have l : n.toInt.natAbs / g ≤ n.toInt.natAbs := Nat.div_le_self _ _
  have q : (n / nL g).toInt = n.toInt.tdiv g := by
    rw [Int64.toInt_div, nL_toInt (by omega), Int.bmod_eq_of_le (by omega) (by omega)]
  exact ⟨q, by rw [q, e]; exact l⟩
/-- the terms, lowered -/
def lwN (n d : Int64) : Int64 := n / gq n d
def lwD (n d : Int64) : Int64 := d / gq n d
theorem lw_d {n d : Int64} (o : okND n d) : 1 ≤ (lwD n d).toInt ∧ (lwD n d).toInt ≤ d.toInt := by
  have g1 := gq_pos o
  have g2 := gq_le o
  obtain ⟨o1, o2, o3⟩ := o
  have e := (div_abs (n := d) (g := Nat.gcd n.toInt.natAbs d.toInt.natAbs) (by omega) g2).1
  have k : (d / nL (Nat.gcd n.toInt.natAbs d.toInt.natAbs)).toInt = ((d.toInt.natAbs / Nat.gcd n.toInt.natAbs d.toInt.natAbs : Nat) : Int) := by
    rw [e, show d.toInt = ((d.toInt.natAbs : Nat) : Int) by omega]
    rfl
  have p : 1 ≤ d.toInt.natAbs / Nat.gcd n.toInt.natAbs d.toInt.natAbs := Nat.div_pos (Nat.gcd_le_right _ (by omega)) g1
  have l : d.toInt.natAbs / Nat.gcd n.toInt.natAbs d.toInt.natAbs ≤ d.toInt.natAbs := Nat.div_le_self _ _
  show 1 ≤ (d / nL (Nat.gcd n.toInt.natAbs d.toInt.natAbs)).toInt ∧ (d / nL (Nat.gcd n.toInt.natAbs d.toInt.natAbs)).toInt ≤ _
  rw [k]
  omega
theorem lw_n {n d : Int64} (o : okND n d) : (lwN n d).toInt.natAbs ≤ n.toInt.natAbs := (div_abs o.1 (gq_le o)).2
theorem g1_32 : (1000000000 : Int64).toInt = 1000000000 := by decide
theorem gm_32 : (-1000000000 : Int64).toInt = -1000000000 := by decide
theorem g0_32 : (0 : Int64).toInt = 0 := by decide
/-- the reference's lowest -/
def mlo (h : MS) (n d : Int64) : MS := if big (lwN n d) (lwD n d) then mSI (mSL (mSL h 80 (lwN n d)) 81 (lwD n d)) 79 1 else mSL (mSL h 80 (lwN n d)) 81 (lwD n d)
theorem common_v {n d : Int64} (o : okND n d) : fX12_common n d = some (gq n d) := by
  obtain ⟨o1, o2, o3⟩ := o
  have ed : d = nL d.toInt.natAbs := i64_nat (by omega)
  have k := common17 63 FU n.toInt.natAbs d.toInt.natAbs (by decide) (by omega) (by omega) (by omega)
  unfold fX12_common fX12_common_0 fX12_common_12 gq
  rw [← ed] at k
  by_cases c : 0 ≤ n.toInt
  · rw [if_pos ((lc_ge n 0).mpr (by rw [g0_32]; exact c))]
    rw [← i64_nat c] at k
    exact k
  · rw [if_neg (fun q => c (by have := (lc_ge n 0).mp q; rw [g0_32] at this; exact this))]
    rw [← i64_neg (by omega) (by omega)] at k
    exact k
theorem lowest_v {h : MS} {n d : Int64} (o : okND n d) : fX12_lowest h n d = some (mlo h n d) := by
  have a := lw_n o
  have b := lw_d o
  have o1 := o.1
  have e1 : mL (mSL (mSL h 80 (lwN n d)) 81 (lwD n d)) 80 = lwN n d := by simp only [z_mI_mSI, z_mL_mSI, z_mA_mSI, z_mB_mSI, z_mI_mSL, z_mL_mSL, z_mA_mSL, z_mB_mSL, z_mI_mSA, z_mL_mSA, z_mA_mSA, z_mB_mSA, z_mI_mSB, z_mL_mSB, z_mA_mSB, z_mB_mSB, if_true, if_false, and_false, false_and, and_true, true_and, and_self, decide_true, decide_false, reduceCtorEq, not_false_eq_true, not_true_eq_false, Nat.reduceEqDiff, Nat.reduceAdd, Nat.reduceMul, Nat.add_zero, Nat.zero_add]
  have e2 : mL (mSL (mSL h 80 (lwN n d)) 81 (lwD n d)) 81 = lwD n d := by simp only [z_mI_mSI, z_mL_mSI, z_mA_mSI, z_mB_mSI, z_mI_mSL, z_mL_mSL, z_mA_mSL, z_mB_mSL, z_mI_mSA, z_mL_mSA, z_mA_mSA, z_mB_mSA, z_mI_mSB, z_mL_mSB, z_mA_mSB, z_mB_mSB, if_true, if_false, and_false, false_and, and_true, true_and, and_self, decide_true, decide_false, reduceCtorEq, not_false_eq_true, not_true_eq_false, Nat.reduceEqDiff, Nat.reduceAdd, Nat.reduceMul, Nat.add_zero, Nat.zero_add]
  unfold fX12_lowest fX12_lowest_0 fX12_lowest_56 mlo
  simp only [common_v o, oN_v, oC_v, oB_v, oB2_v, oB3_v, oB4_v, oK3_v, oK4_v, oL_v, decide_eq_true (gq_ne o), if_true]
  rw [show n / gq n d = lwN n d from rfl, show d / gq n d = lwD n d from rfl, e1, e2]
  have c1 := lc_gt (lwN n d) 1000000000
  have c2 := lc_lt (lwN n d) (-1000000000)
  have c3 := lc_le (lwD n d) 1000000000
  rw [g1_32] at c1 c3
  rw [gm_32] at c2
  unfold big
  by_cases k1 : 1000000000 < (lwN n d).toInt
  · rw [if_pos (c1.mpr k1), if_pos (by omega)]
  · rw [if_neg (fun q => k1 (c1.mp q))]
    by_cases k2 : (lwN n d).toInt < -1000000000
    · rw [if_pos (c2.mpr k2), if_pos (by omega)]
    · rw [if_neg (fun q => k2 (c2.mp q))]
      by_cases k3 : (lwD n d).toInt ≤ 1000000000
      · rw [if_pos (c3.mpr k3), if_neg (by omega)]
      · rw [if_neg (fun q => k3 (c3.mp q)), if_pos (by omega)]
/-- the class's -/
def hbe (h : PH) (a : Nat) (n d : Int64) : PH := sI (sL (sL h 384 a (lwN n d)) 385 a (lwD n d)) 386 a (if big (lwN n d) (lwD n d) then 1 else 0)
theorem become_v {h : PH} {a : Nat} {n d : Int64} (t : hT h a = 4) (o : okND n d) : fX3_become h a n d = some (hbe h a n d) := by
  have a1 := lw_n o
  have b1 := lw_d o
  have g1 := gq_pos o
  have g2 := gq_le o
  have ne := gq_ne o
  obtain ⟨o1, o2, o3⟩ := o
  have ed : d = nL d.toInt.natAbs := i64_nat (by omega)
  have k := become12 h a n d 63 FU n.toInt.natAbs d.toInt.natAbs 0 (by decide) (by decide) (by omega) (by omega) (by omega)
  rw [← ed] at k
  have ab : fX3_become h a n d = fX3_become_20 FU h a n d (nL n.toInt.natAbs) d (nI 0) := by
    unfold fX3_become fX3_become_0 fX3_become_12
    by_cases c : 0 ≤ n.toInt
    · rw [if_pos ((lc_ge n 0).mpr (by rw [g0_32]; exact c)), ← i64_nat c, show (0 : Int32) = nI 0 from rfl]
    · rw [if_neg (fun q => c (by have := (lc_ge n 0).mp q; rw [g0_32] at this; exact this)), ← i64_neg (by omega) (by omega), show (0 : Int32) = nI 0 from rfl]
  rw [ab, k, show nL (Nat.gcd n.toInt.natAbs d.toInt.natAbs) = gq n d from rfl]
  have gt : (gq n d).toInt = (Nat.gcd n.toInt.natAbs d.toInt.natAbs : Nat) := nL_toInt (by omega)
  have c1 := lc_le (gq n d) 0
  have c2 := lc_le d 0
  rw [g0_32] at c1 c2
  unfold fX3_become_56
  rw [if_neg (fun q => by have := c1.mp q; omega), if_neg (fun q => by have := c2.mp q; omega)]
  unfold fX3_become_74 fX3_become_90 fX3_become_107 fX3_become_154
  have n10 : ¬ ((1 : Int32) = 0) := by decide
  have e1 : hL (sL (sL h 384 a (lwN n d)) 385 a (lwD n d)) 384 a = lwN n d := by simp only [z_hI_sI, z_hL_sI, z_hR_sI, z_hA_sI, z_hB_sI, z_hC_sI, z_hT_sI, z_hN_sI, z_hZ_sI, z_hI_sL, z_hL_sL, z_hR_sL, z_hA_sL, z_hB_sL, z_hC_sL, z_hT_sL, z_hN_sL, z_hZ_sL, z_hI_sR, z_hL_sR, z_hR_sR, z_hA_sR, z_hB_sR, z_hC_sR, z_hT_sR, z_hN_sR, z_hZ_sR, z_hI_sA, z_hL_sA, z_hR_sA, z_hA_sA, z_hB_sA, z_hC_sA, z_hT_sA, z_hN_sA, z_hZ_sA, z_hI_sB, z_hL_sB, z_hR_sB, z_hA_sB, z_hB_sB, z_hC_sB, z_hT_sB, z_hN_sB, z_hZ_sB, z_hI_sC, z_hL_sC, z_hR_sC, z_hA_sC, z_hB_sC, z_hC_sC, z_hT_sC, z_hN_sC, z_hZ_sC, z_hI_sY, z_hL_sY, z_hR_sY, z_hA_sY, z_hB_sY, z_hC_sY, z_hT_sY, z_hN_sY, z_hZ_sY, z_hI_nO, z_hL_nO, z_hR_nO, z_hA_nO, z_hB_nO, z_hC_nO, z_hT_nO, z_hN_nO, z_hZ_nO, z_hI_nA, z_hL_nA, z_hR_nA, z_hA_nA, z_hB_nA, z_hC_nA, z_hT_nA, z_hN_nA, z_hZ_nA, if_true, if_false, and_false, false_and, and_true, true_and, and_self, decide_true, decide_false, reduceCtorEq, not_false_eq_true, not_true_eq_false, Nat.reduceEqDiff, Nat.reduceAdd, Nat.reduceMul, Nat.add_zero, Nat.zero_add]
  have e2 : hL (sL (sL h 384 a (lwN n d)) 385 a (lwD n d)) 385 a = lwD n d := by simp only [z_hI_sI, z_hL_sI, z_hR_sI, z_hA_sI, z_hB_sI, z_hC_sI, z_hT_sI, z_hN_sI, z_hZ_sI, z_hI_sL, z_hL_sL, z_hR_sL, z_hA_sL, z_hB_sL, z_hC_sL, z_hT_sL, z_hN_sL, z_hZ_sL, z_hI_sR, z_hL_sR, z_hR_sR, z_hA_sR, z_hB_sR, z_hC_sR, z_hT_sR, z_hN_sR, z_hZ_sR, z_hI_sA, z_hL_sA, z_hR_sA, z_hA_sA, z_hB_sA, z_hC_sA, z_hT_sA, z_hN_sA, z_hZ_sA, z_hI_sB, z_hL_sB, z_hR_sB, z_hA_sB, z_hB_sB, z_hC_sB, z_hT_sB, z_hN_sB, z_hZ_sB, z_hI_sC, z_hL_sC, z_hR_sC, z_hA_sC, z_hB_sC, z_hC_sC, z_hT_sC, z_hN_sC, z_hZ_sC, z_hI_sY, z_hL_sY, z_hR_sY, z_hA_sY, z_hB_sY, z_hC_sY, z_hT_sY, z_hN_sY, z_hZ_sY, z_hI_nO, z_hL_nO, z_hR_nO, z_hA_nO, z_hB_nO, z_hC_nO, z_hT_nO, z_hN_nO, z_hZ_nO, z_hI_nA, z_hL_nA, z_hR_nA, z_hA_nA, z_hB_nA, z_hC_nA, z_hT_nA, z_hN_nA, z_hZ_nA, if_true, if_false, and_false, false_and, and_true, true_and, and_self, decide_true, decide_false, reduceCtorEq, not_false_eq_true, not_true_eq_false, Nat.reduceEqDiff, Nat.reduceAdd, Nat.reduceMul, Nat.add_zero, Nat.zero_add]
  have e3 : hT (sL (sL h 384 a (lwN n d)) 385 a (lwD n d)) a = 4 := by simp only [z_hI_sI, z_hL_sI, z_hR_sI, z_hA_sI, z_hB_sI, z_hC_sI, z_hT_sI, z_hN_sI, z_hZ_sI, z_hI_sL, z_hL_sL, z_hR_sL, z_hA_sL, z_hB_sL, z_hC_sL, z_hT_sL, z_hN_sL, z_hZ_sL, z_hI_sR, z_hL_sR, z_hR_sR, z_hA_sR, z_hB_sR, z_hC_sR, z_hT_sR, z_hN_sR, z_hZ_sR, z_hI_sA, z_hL_sA, z_hR_sA, z_hA_sA, z_hB_sA, z_hC_sA, z_hT_sA, z_hN_sA, z_hZ_sA, z_hI_sB, z_hL_sB, z_hR_sB, z_hA_sB, z_hB_sB, z_hC_sB, z_hT_sB, z_hN_sB, z_hZ_sB, z_hI_sC, z_hL_sC, z_hR_sC, z_hA_sC, z_hB_sC, z_hC_sC, z_hT_sC, z_hN_sC, z_hZ_sC, z_hI_sY, z_hL_sY, z_hR_sY, z_hA_sY, z_hB_sY, z_hC_sY, z_hT_sY, z_hN_sY, z_hZ_sY, z_hI_nO, z_hL_nO, z_hR_nO, z_hA_nO, z_hB_nO, z_hC_nO, z_hT_nO, z_hN_nO, z_hZ_nO, z_hI_nA, z_hL_nA, z_hR_nA, z_hA_nA, z_hB_nA, z_hC_nA, z_hT_nA, z_hN_nA, z_hZ_nA, t]
  have e4 : hT (sL h 384 a (lwN n d)) a = 4 := by simp only [z_hI_sI, z_hL_sI, z_hR_sI, z_hA_sI, z_hB_sI, z_hC_sI, z_hT_sI, z_hN_sI, z_hZ_sI, z_hI_sL, z_hL_sL, z_hR_sL, z_hA_sL, z_hB_sL, z_hC_sL, z_hT_sL, z_hN_sL, z_hZ_sL, z_hI_sR, z_hL_sR, z_hR_sR, z_hA_sR, z_hB_sR, z_hC_sR, z_hT_sR, z_hN_sR, z_hZ_sR, z_hI_sA, z_hL_sA, z_hR_sA, z_hA_sA, z_hB_sA, z_hC_sA, z_hT_sA, z_hN_sA, z_hZ_sA, z_hI_sB, z_hL_sB, z_hR_sB, z_hA_sB, z_hB_sB, z_hC_sB, z_hT_sB, z_hN_sB, z_hZ_sB, z_hI_sC, z_hL_sC, z_hR_sC, z_hA_sC, z_hB_sC, z_hC_sC, z_hT_sC, z_hN_sC, z_hZ_sC, z_hI_sY, z_hL_sY, z_hR_sY, z_hA_sY, z_hB_sY, z_hC_sY, z_hT_sY, z_hN_sY, z_hZ_sY, z_hI_nO, z_hL_nO, z_hR_nO, z_hA_nO, z_hB_nO, z_hC_nO, z_hT_nO, z_hN_nO, z_hZ_nO, z_hI_nA, z_hL_nA, z_hR_nA, z_hA_nA, z_hB_nA, z_hC_nA, z_hT_nA, z_hN_nA, z_hZ_nA, t]
  simp only [if_neg n10, decide_eq_true ne, oN_v, oC_v, oB_v, oB2_v, oB3_v, oB4_v, oK3_v, oK4_v, oL_v, if_true]
  simp only [show n / gq n d = lwN n d from rfl, show d / gq n d = lwD n d from rfl, t, e1, e2, e3, e4, decide_true, if_true, show isB 1 = true from rfl, show isB 0 = true from rfl]
  have c3 := lc_gt (lwN n d) 1000000000
  have c5 := lc_lt (lwN n d) (-1000000000)
  have c4 := lc_le (lwD n d) 1000000000
  rw [g1_32] at c3 c4
  rw [gm_32] at c5
  unfold hbe big
  by_cases k1 : 1000000000 < (lwN n d).toInt
  · rw [if_pos (c3.mpr k1), if_pos (by omega)]; rfl
  · rw [if_neg (fun q => k1 (c3.mp q))]
    by_cases k2 : (lwN n d).toInt < -1000000000
    · rw [if_pos (c5.mpr k2), if_pos (by omega)]; rfl
    · rw [if_neg (fun q => k2 (c5.mp q))]
      by_cases k3 : (lwD n d).toInt ≤ 1000000000
      · rw [if_pos (c4.mpr k3), if_neg (by omega)]; rfl
      · rw [if_neg (fun q => k3 (c4.mp q)), if_pos (by omega)]; rfl
