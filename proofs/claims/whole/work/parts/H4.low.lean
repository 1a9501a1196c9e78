/-! a judgment: the lowest terms of a fraction -/
theorem lc_gt (a b : Int64) : (0 < lg_cmp a b) ↔ b.toInt < a.toInt := by
  unfold lg_cmp
  by_cases h : a > b
  · rw [if_pos h]
    exact ⟨fun _ => Int64.lt_iff_toInt_lt.mp h, fun _ => by decide⟩
  · rw [if_neg h]
    have h' : ¬ b.toInt < a.toInt := fun q => h (Int64.lt_iff_toInt_lt.mpr q)
    split
    · exact ⟨fun q => absurd q (by decide), fun q => absurd q h'⟩
    · exact ⟨fun q => absurd q (by decide), fun q => absurd q h'⟩
theorem lc_eq (a b : Int64) : (lg_cmp a b = 0) ↔ a.toInt = b.toInt := by
  unfold lg_cmp
  by_cases h : a > b
  · rw [if_pos h]
    have := Int64.lt_iff_toInt_lt.mp h
    exact ⟨fun q => absurd q (by decide), fun q => by omega⟩
  · rw [if_neg h]
    split
    · rename_i q
      exact ⟨fun _ => by rw [q], fun _ => rfl⟩
    · rename_i q
      exact ⟨fun p => absurd p (by decide), fun p => absurd (Int64.toInt_inj.mp p) q⟩
theorem lc_lt (a b : Int64) : (lg_cmp a b < 0) ↔ a.toInt < b.toInt := by
  unfold lg_cmp
  by_cases h : a > b
  · rw [if_pos h]
    have := Int64.lt_iff_toInt_lt.mp h
    exact ⟨fun q => absurd q (by decide), fun q => by omega⟩
  · rw [if_neg h]
    have h' : ¬ b.toInt < a.toInt := fun q => h (Int64.lt_iff_toInt_lt.mpr q)
    split
    · rename_i q
      exact ⟨fun p => absurd p (by decide), fun p => by rw [q] at p; omega⟩
    · rename_i q
      have : a.toInt ≠ b.toInt := fun p => q (Int64.toInt_inj.mp p)
      exact ⟨fun _ => by omega, fun _ => by decide⟩
theorem lc_le (a b : Int64) : (lg_cmp a b ≤ 0) ↔ a.toInt ≤ b.toInt := by
  have h := lc_gt a b
  constructor
  · intro q
    have : ¬ b.toInt < a.toInt := fun p => absurd (h.mpr p) (Int32.not_lt.mpr q)
    omega
  · intro q
    exact Int32.not_lt.mp fun p => by have := h.mp p; omega
theorem lc_ge (a b : Int64) : (0 ≤ lg_cmp a b) ↔ b.toInt ≤ a.toInt := by
  have h := lc_lt a b
  constructor
  · intro q
    have : ¬ a.toInt < b.toInt := fun p => absurd (h.mpr p) (Int32.not_lt.mpr q)
    omega
  · intro q
    exact Int32.not_lt.mp fun p => by have := h.mp p; omega
theorem half_mod {a c k : Nat} (hc : 0 < c) (ca : c ≤ a) (h : a < 2 ^ (k + 1)) : a % c < 2 ^ k := by
  have h1 : a % c < c := Nat.mod_lt a hc
  have h2 := Nat.mod_add_div a c
  have h3 : 1 ≤ a / c := Nat.div_pos ca hc
  have h4 : c * 1 ≤ c * (a / c) := Nat.mul_le_mul_left c h3
  rw [Nat.pow_succ] at h
  omega
theorem lzero : (0 : Int64) = nL 0 := rfl
theorem lcz {a : Nat} (h : a < 9223372036854775808) : lg_cmp (nL a) 0 = 0 ↔ a = 0 := by
  rw [lzero]
  exact lgc_eq h (by decide)
theorem nLne {a : Nat} (h : a < 9223372036854775808) (z : a ≠ 0) : (¬ nL a = 0) := by
  rw [lzero, nL_inj h (by decide)]
  exact z
theorem common17 : ∀ k n a b, 2 * k + 1 ≤ n → a < 2 ^ k → a < 9223372036854775808 → b < 9223372036854775808 → fX12_common_17 n (nL a) (nL b) = some (nL (Nat.gcd a b))
  | 0, n + 1, a, b, hn, ha, l1, l2 => by
    have : a = 0 := by simpa using ha
    subst this
    rw [fX12_common_17, fX12_common_17F, if_pos ((lcz l1).mpr rfl), Nat.gcd_zero_left]
  | k + 1, n + 2, a, b, hn, ha, l1, l2 => by
    by_cases z : a = 0
    · subst z
      rw [fX12_common_17, fX12_common_17F, if_pos ((lcz l1).mpr rfl), Nat.gcd_zero_left]
    · have lm : b % a < 9223372036854775808 := Nat.lt_of_lt_of_le (Nat.mod_lt b (by omega)) (by omega)
      rw [fX12_common_17, fX12_common_17F, if_neg (fun q => z ((lcz l1).mp q)), decide_eq_true (nLne l1 z)]
      simp only [oN_v, oC_v, oB_v, oB2_v, oB3_v, oB4_v, oK3_v, oK4_v, oL_v, if_true]
      rw [nL_div l2 l1, nL_mod2, Nat.gcd_rec]
      by_cases y : b % a = 0
      · rw [fX12_common_17, fX12_common_17F, if_pos ((lcz lm).mpr y), y, Nat.gcd_zero_left]
      · have lq : a % (b % a) < 9223372036854775808 := Nat.lt_of_le_of_lt (Nat.mod_le a _) l1
        rw [fX12_common_17, fX12_common_17F, if_neg (fun q => y ((lcz lm).mp q)), decide_eq_true (nLne lm y)]
        simp only [oN_v, oC_v, oB_v, oB2_v, oB3_v, oB4_v, oK3_v, oK4_v, oL_v, if_true]
        rw [nL_div l1 lm, nL_mod2, Nat.gcd_rec]
        exact common17 k n _ _ (by omega) (half_mod (by omega) (Nat.le_of_lt (Nat.mod_lt b (by omega))) ha) lq lm
theorem become12 (h : PH) (x0 : Nat) (x1 x3 : Int64) : ∀ k n a b i, 2 * k + 1 ≤ n → i + 2 * k < 128 → b < 2 ^ k → a < 9223372036854775808 → b < 9223372036854775808 → fX3_become_20 n h x0 x1 x3 (nL a) (nL b) (nI i) = fX3_become_56 h x0 x1 x3 (nL (Nat.gcd a b))
  | 0, n + 1, a, b, i, hn, hi, hb, l1, l2 => by
    have : b = 0 := by simpa using hb
    subst this
    rw [fX3_become_20, fX3_become_20F, show (128 : Int32) = nI 128 from rfl, if_neg (nI_ge (show i < 128 by omega) (by decide)), if_pos ((lcz l2).mpr rfl), Nat.gcd_zero_right]
  | k + 1, n + 2, a, b, i, hn, hi, hb, l1, l2 => by
    rw [fX3_become_20, fX3_become_20F, show (128 : Int32) = nI 128 from rfl, if_neg (nI_ge (show i < 128 by omega) (by decide))]
    by_cases z : b = 0
    · subst z
      rw [if_pos ((lcz l2).mpr rfl), Nat.gcd_zero_right]
    · have lm : a % b < 9223372036854775808 := Nat.lt_of_lt_of_le (Nat.mod_lt a (by omega)) (by omega)
      rw [if_neg (fun q => z ((lcz l2).mp q)), decide_eq_true (nLne l2 z)]
      simp only [oN_v, oC_v, oB_v, oB2_v, oB3_v, oB4_v, oK3_v, oK4_v, oL_v, if_true]
      rw [nL_div l1 l2, nL_mod2, show nI i + 1 = nI (i + 1) from nI_add i 1, Nat.gcd_comm, Nat.gcd_rec, Nat.gcd_comm]
      rw [fX3_become_20, fX3_become_20F, show (128 : Int32) = nI 128 from rfl, if_neg (nI_ge (show i + 1 < 128 by omega) (by decide))]
      by_cases y : a % b = 0
      · rw [if_pos ((lcz lm).mpr y), y, Nat.gcd_zero_right]
      · have lq : b % (a % b) < 9223372036854775808 := Nat.lt_of_le_of_lt (Nat.mod_le b _) l2
        rw [if_neg (fun q => y ((lcz lm).mp q)), decide_eq_true (nLne lm y)]
        simp only [oN_v, oC_v, oB_v, oB2_v, oB3_v, oB4_v, oK3_v, oK4_v, oL_v, if_true]
        rw [nL_div l2 lm, nL_mod2, show nI (i + 1) + 1 = nI (i + 2) from nI_add _ 1, Nat.gcd_comm, Nat.gcd_rec, Nat.gcd_comm]
        exact become12 h x0 x1 x3 k n _ _ _ (by omega) (by omega) (half_mod (by omega) (Nat.le_of_lt (Nat.mod_lt a (by omega))) hb) lm lq
