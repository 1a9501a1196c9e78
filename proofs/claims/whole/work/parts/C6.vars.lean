/-! variables -/
section VA
variable {h : PH} {u : MS} {G : Gh} {z c : Sz} {L n t v w : Nat} {D : Nat → Nat × Nat × Nat × List Nat}
theorem var_cl (S : SX h G) {v : Nat} (hv : v ≤ 3) (vc : hI h 516 23 = nI v) (x : Int32) : ∀ d i f, i + d = v → fX4_variableNumber_2 (f + (d + 1)) h 23 x (nI i) = if fd (fun j => decide (hA h 29 j = x)) d i = -1 then (if v < 3 then some (sI (sA h 29 v x) 516 23 (nI (v + 1)), nI v) else some (h, -1)) else some (h, fd (fun j => decide (hA h 29 j = x)) d i) := by
  intro d
  induction d with
  | zero =>
    intro i f hi
    show fX4_variableNumber_2F (fX4_variableNumber_2 f) h 23 x (nI i) = _
    have sb : nI (v + 1) - 1 = nI v := by rw [show (1 : Int32) = nI 1 from rfl, nI_sub (by omega)]; rfl
    have e516 : hI (sA h 29 v x) 516 23 = nI v := vc
    have e516' : hI (sI (sA h 29 v x) 516 23 (nI (v + 1))) 516 23 = nI (v + 1) := by simp only [z_hI_sI, z_hL_sI, z_hR_sI, z_hA_sI, z_hB_sI, z_hC_sI, z_hT_sI, z_hN_sI, z_hZ_sI, z_hI_sL, z_hL_sL, z_hR_sL, z_hA_sL, z_hB_sL, z_hC_sL, z_hT_sL, z_hN_sL, z_hZ_sL, z_hI_sR, z_hL_sR, z_hR_sR, z_hA_sR, z_hB_sR, z_hC_sR, z_hT_sR, z_hN_sR, z_hZ_sR, z_hI_sA, z_hL_sA, z_hR_sA, z_hA_sA, z_hB_sA, z_hC_sA, z_hT_sA, z_hN_sA, z_hZ_sA, z_hI_sB, z_hL_sB, z_hR_sB, z_hA_sB, z_hB_sB, z_hC_sB, z_hT_sB, z_hN_sB, z_hZ_sB, z_hI_sC, z_hL_sC, z_hR_sC, z_hA_sC, z_hB_sC, z_hC_sC, z_hT_sC, z_hN_sC, z_hZ_sC, z_hI_sY, z_hL_sY, z_hR_sY, z_hA_sY, z_hB_sY, z_hC_sY, z_hT_sY, z_hN_sY, z_hZ_sY, z_hI_nO, z_hL_nO, z_hR_nO, z_hA_nO, z_hB_nO, z_hC_nO, z_hT_nO, z_hN_nO, z_hZ_nO, z_hI_nA, z_hL_nA, z_hR_nA, z_hA_nA, z_hB_nA, z_hC_nA, z_hT_nA, z_hN_nA, z_hZ_nA, if_true, if_false, and_false, false_and, and_true, true_and, and_self, decide_true, decide_false, reduceCtorEq, not_false_eq_true, not_true_eq_false, Nat.reduceEqDiff, Nat.reduceAdd, Nat.reduceMul, Nat.add_zero, Nat.zero_add]
    unfold fX4_variableNumber_2F
    rw [oC_d S.t23, vc, if_pos (nI_le (by omega) (by omega)), show fd (fun j => decide (hA h 29 j = x)) 0 i = -1 from rfl, if_pos rfl]
    by_cases c : v < 3
    · rw [if_pos (show nI v < 3 from nI_lt (b := 3) c (by omega)), if_pos c, S.r514_23, oN_v, oC_d S.t29, S.n29, oC_t (ix_n c (by omega)), oL_v, nI_clamp (show v < 2147483648 by omega), e516, nI_1, oL_v, e516', sb]
    · rw [if_neg (show ¬ nI v < 3 from nI_nlt (b := 3) (by omega) (by omega)), if_neg c]
  | succ d ih =>
    intro i f hi
    show fX4_variableNumber_2F (fX4_variableNumber_2 (f + (d + 1))) h 23 x (nI i) = _
    have ef : fd (fun j => decide (hA h 29 j = x)) (d + 1) i = if hA h 29 i = x then nI i else fd (fun j => decide (hA h 29 j = x)) d (i + 1) := by
      show (if decide (hA h 29 i = x) = true then nI i else _) = _
      by_cases q : hA h 29 i = x
      · rw [if_pos (decide_eq_true q), if_pos q]
      · rw [if_neg (by rw [decide_eq_false q]; decide), if_neg q]
    unfold fX4_variableNumber_2F
    rw [oC_d S.t23, vc, if_neg (nI_ge (by omega) (by omega)), S.r514_23, oN_v, oC_d S.t29, S.n29, oC_t (ix_n (show i < 3 by omega) (by omega)), nI_clamp (show i < 2147483648 by omega), oL_v, nI_1, ih (i + 1) f (by omega), ef]
    by_cases q : hA h 29 i = x
    · rw [if_pos q, if_pos q, if_neg (nI_m1 (by omega))]
    · rw [if_neg q, if_neg q]
theorem var_c (S : SX h G) (hv : v ≤ 3) (vc : hI h 516 23 = nI v) (x : Int32) : fX4_variableNumber h 23 x = if fd (fun j => decide (hA h 29 j = x)) v 0 = -1 then (if v < 3 then some (sI (sA h 29 v x) 516 23 (nI (v + 1)), nI v) else some (h, -1)) else some (h, fd (fun j => decide (hA h 29 j = x)) v 0) := by
  have := var_cl S hv vc x v 0 (FU - (v + 1)) (by omega)
  rw [show FU - (v + 1) + (v + 1) = FU by rw [FU_v]; omega] at this
  exact this
theorem var_ml {w : Nat} (hw : w < 30) (m65 : mI u 65 = nI w) (m42 : mA u 42 w = nI v) (hv : v ≤ 3) (m11 : mI u 11 = nI t) (ht : t < 1203) : ∀ d i f, i + d = v → fX12_variable_2 (f + (d + 1)) u (nI i) = if fd (fun j => decide (mA u 43 (3 * w + j) = mA u 7 t)) d i = -1 then (if v < 3 then oB (fX12_next (mSA (mSA u 43 (3 * w + v) (mA u 7 t)) 42 w (nI (v + 1)))) (fun h13 => oC (ix (mI h13 65) (mlen 42)) (some (h13, mA h13 42 (Int32.toNatClampNeg (mI h13 65)) - 1))) else oB (fX12_fail u 2) (fun h16 => some (h16, -1))) else oB (fX12_next u) (fun h21 => some (h21, fd (fun j => decide (mA u 43 (3 * w + j) = mA u 7 t)) d i)) := by
  have i42 : ix (nI w) (mlen 42) = true := ix_n (show w < mlen 42 from hw) (by decide)
  have i7 : ix (nI t) (mlen 7) = true := ix_n (show t < mlen 7 from ht) (by decide)
  have e3 : ∀ i, 3 * nI w + nI i = nI (3 * w + i) := fun i => by rw [show (3 : Int32) = nI 3 from rfl, nI_mul, nI_add]
  intro d
  induction d with
  | zero =>
    intro i f hi
    show fX12_variable_2F (fX12_variable_2 f) u (nI i) = _
    unfold fX12_variable_2F
    rw [m65, oC_t i42, nI_clamp (show w < 2147483648 by omega), m42, if_pos (nI_le (by omega) (by omega)), oC_t i42, show fd (fun j => decide (mA u 43 (3 * w + j) = mA u 7 t)) 0 i = -1 from rfl, if_pos rfl]
    have e33 : nI v = 3 ↔ v = 3 := nI_eq (b := 3) (by omega) (by omega)
    by_cases c : v < 3
    · have w65 : mI (mSA u 43 (3 * w + v) (mA u 7 t)) 65 = nI w := m65
      have w42 : mA (mSA u 43 (3 * w + v) (mA u 7 t)) 42 w = nI v := by simp only [z_mI_mSI, z_mL_mSI, z_mA_mSI, z_mB_mSI, z_mI_mSL, z_mL_mSL, z_mA_mSL, z_mB_mSL, z_mI_mSA, z_mL_mSA, z_mA_mSA, z_mB_mSA, z_mI_mSB, z_mL_mSB, z_mA_mSB, z_mB_mSB, if_true, if_false, and_false, false_and, and_true, true_and, and_self, decide_true, decide_false, reduceCtorEq, not_false_eq_true, not_true_eq_false, Nat.reduceEqDiff, Nat.reduceAdd, Nat.reduceMul, Nat.add_zero, Nat.zero_add]; exact m42
      rw [if_neg (fun q => by have := e33.mp q; omega), if_pos c, oC_t i42, m11, oC_t i7, e3, oC_t (ix_n (show 3 * w + v < mlen 43 by show 3 * w + v < 90; omega) (by decide)), oL_v, nI_clamp (show 3 * w + v < 2147483648 by omega), nI_clamp (show t < 2147483648 by omega), w65, oC_t i42, oC_t i42, oL_v, nI_clamp (show w < 2147483648 by omega), w42, nI_1]
    · rw [if_pos (e33.mpr (by omega)), if_neg c]
  | succ d ih =>
    intro i f hi
    show fX12_variable_2F (fX12_variable_2 (f + (d + 1))) u (nI i) = _
    have ef : fd (fun j => decide (mA u 43 (3 * w + j) = mA u 7 t)) (d + 1) i = if mA u 43 (3 * w + i) = mA u 7 t then nI i else fd (fun j => decide (mA u 43 (3 * w + j) = mA u 7 t)) d (i + 1) := by
      show (if decide (mA u 43 (3 * w + i) = mA u 7 t) = true then nI i else _) = _
      by_cases q : mA u 43 (3 * w + i) = mA u 7 t
      · rw [if_pos (decide_eq_true q), if_pos q]
      · rw [if_neg (by rw [decide_eq_false q]; decide), if_neg q]
    unfold fX12_variable_2F
    rw [m65, oC_t i42, nI_clamp (show w < 2147483648 by omega), m42, if_neg (nI_ge (by omega) (by omega)), e3, oC_t (ix_n (show 3 * w + i < mlen 43 by show 3 * w + i < 90; omega) (by decide)), m11, oC_t i7, nI_clamp (show 3 * w + i < 2147483648 by omega), nI_clamp (show t < 2147483648 by omega), oL_v, nI_1, ih (i + 1) f (by omega), ef]
    by_cases q : mA u 43 (3 * w + i) = mA u 7 t
    · rw [if_pos q, if_pos q, if_neg (nI_m1 (by omega))]
    · rw [if_neg q, if_neg q]
theorem var_m (hw : w < 30) (m65 : mI u 65 = nI w) (m42 : mA u 42 w = nI v) (hv : v ≤ 3) (m11 : mI u 11 = nI t) (ht : t < 1203) : fX12_variable u = if fd (fun j => decide (mA u 43 (3 * w + j) = mA u 7 t)) v 0 = -1 then (if v < 3 then oB (fX12_next (mSA (mSA u 43 (3 * w + v) (mA u 7 t)) 42 w (nI (v + 1)))) (fun h13 => oC (ix (mI h13 65) (mlen 42)) (some (h13, mA h13 42 (Int32.toNatClampNeg (mI h13 65)) - 1))) else oB (fX12_fail u 2) (fun h16 => some (h16, -1))) else oB (fX12_next u) (fun h21 => some (h21, fd (fun j => decide (mA u 43 (3 * w + j) = mA u 7 t)) v 0)) := by
  have := var_ml hw m65 m42 hv m11 ht v 0 (FU - (v + 1)) (by omega)
  rw [show FU - (v + 1) + (v + 1) = FU by rw [FU_v]; omega] at this
  exact this
end VA
