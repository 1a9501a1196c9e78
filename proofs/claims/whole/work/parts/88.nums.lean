/-! numbers -/
def un : Nat → Nat
  | 0 => 0
  | k + 1 => 10 ^ k
theorem un_d : ∀ k, k ≤ 10 → un (k + 1) / 10 = un k := by decide +kernel
theorem un_b : ∀ k, k ≤ 10 → un k ≤ 1000000000 := by decide +kernel
theorem un_p : ∀ k, k ≤ 10 → 1 ≤ un (k + 1) := by decide +kernel
theorem dig_p : ∀ d, d < 10 → 0 ≤ by8 (nI (48 + d)) := by decide +kernel
theorem dig_v {w p : Nat} (hw : w ≤ 1000000000) (hp : p ≤ 1000000000) : 48 + Int64.toInt32 (nL w / nL p - nL w / nL p / 10 * 10) = nI (48 + w / p % 10) := by
  have : w / p ≤ w := Nat.div_le_self _ _
  rw [nL_div (by omega) (by omega), show (10 : Int64) = nL 10 from rfl, nL_div (by omega) (by omega), nL_mod2, nL_32, show (48 : Int32) = nI 48 from rfl, nI_add]
theorem nL_ne0 {p : Nat} (h : 1 ≤ p) (h2 : p < 9223372036854775808) : ¬ nL p = 0 := fun q => by
  have := (nL_inj (a := p) (b := 0) h2 (by omega)).mp q
  omega
theorem Bo.num1 {h0 : PH} {u0 : MS} {k w : Nat} (b : WB h0 k) (hw : w ≤ 1000000000) : ∀ (n m f f' : Nat) {h : PH} {u : MS} {k' i j : Nat} {l : List Int32}, n + m ≤ 10 → BW h0 h 3 k k' 0 l i j → MO u0 u l → l.length + n < 1000000 → Bo h0 u0 k l i j n (fX0_addNumber_58 (f + (n + 1)) h 3 (nL w) (nL (un n)) (nI m)) (fX12_numberOut_50 (f' + (n + 1)) u (nL w) (nL (un n))) := by
  intro n
  induction n with
  | zero =>
    intro m f f' h u k' i j l hm W V hl
    show Bo h0 u0 k l i j 0 (fX0_addNumber_58F (fX0_addNumber_58 f) h 3 (nL w) (nL 0) (nI m)) (fX12_numberOut_50F (fX12_numberOut_50 f') u (nL w) (nL 0))
    have q : ¬ (19 : Int32) ≤ nI m := nI_ge (b := 19) (by omega) (by omega)
    simp only [fX0_addNumber_58F, fX12_numberOut_50F, if_neg q, if_pos (show lg_cmp (nL 0) 0 ≤ 0 by decide)]
    exact Bo.nil W V
  | succ n ih =>
    intro m f f' h u k' i j l hm W V hl
    show Bo h0 u0 k l i j (n + 1) (fX0_addNumber_58F (fX0_addNumber_58 (f + (n + 1))) h 3 (nL w) (nL (un (n + 1))) (nI m)) (fX12_numberOut_50F (fX12_numberOut_50 (f' + (n + 1))) u (nL w) (nL (un (n + 1))))
    have q : ¬ (19 : Int32) ≤ nI m := nI_ge (b := 19) (by omega) (by omega)
    have up := un_p n (by omega)
    have ub := un_b (n + 1) (by omega)
    have g : ¬ lg_cmp (nL (un (n + 1))) 0 ≤ 0 := fun q => by
      have := (lgc_le (a := un (n + 1)) (b := 0) (by omega) (by omega)).mp q
      omega
    have g2 : nL (un (n + 1)) / 10 = nL (un n) := by
      rw [show (10 : Int64) = nL 10 from rfl, nL_div (by omega) (by omega), un_d n (by omega)]
    simp only [fX0_addNumber_58F, fX12_numberOut_50F, if_neg q, if_neg g, decide_eq_true (nL_ne0 up (by omega)), oN_v, oC_v, oB_v, oB2_v, oB3_v, oB4_v, oK3_v, oK4_v, oL_v, W.bs.ta, if_true, if_false, and_false, false_and, and_true, true_and, and_self, decide_true, decide_false, reduceCtorEq, not_false_eq_true, not_true_eq_false, Nat.reduceEqDiff, Nat.reduceAdd, Nat.reduceMul, Nat.add_zero, Nat.zero_add, dig_v hw ub, g2, nI_1]
    rw [Nat.add_comm n 1]
    refine Bo.seq (Bo.byte b W V (by omega) _ (dig_p _ (Nat.mod_lt _ (by omega)))) fun h' k2 l' i' j' u' W' V' hn => ?_
    have := ih (m + 1) f f' (by omega) W' V' (by rw [List.length_append]; omega)
    rw [Nat.add_comm n 1] at this
    exact this
theorem Bo.num2 {h0 : PH} {u0 : MS} {k w : Nat} (b : WB h0 k) (hw : w ≤ 1000000000) {h : PH} {u : MS} {k' i j : Nat} {l : List Int32} (W : BW h0 h 3 k k' 0 l i j) (V : MO u0 u l) (hl : l.length < 900000) : ∀ (d n f f' : Nat), n + d = 9 → Bo h0 u0 k l i j 10 (fX0_addNumber_23 (f + (d + 1)) h 3 (nL w) (nL (un (n + 1))) (nI n)) (fX12_numberOut_28 (f' + (d + 1)) u (nL w) (nL (un (n + 1)))) := by
  intro d
  have base : ∀ n, n ≤ 9 → Bo h0 u0 k l i j 10 (fX0_addNumber_55 h 3 (nL w) (nL (un (n + 1)))) (fX12_numberOut_50 FU u (nL w) (nL (un (n + 1)))) := by
    intro n hn
    have := Bo.num1 (u0 := u0) b hw (n + 1) 0 (FU - (n + 2)) (FU - (n + 2)) (by omega) W V (by omega)
    rw [show FU - (n + 2) + (n + 1 + 1) = FU from Nat.sub_add_cancel (by show n + 2 ≤ 100000; omega)] at this
    exact this.mono (by omega)
  have ne : ∀ n, n ≤ 9 → ¬ nL (un (n + 1)) = 0 := fun n hn => nL_ne0 (un_p n (by omega)) (by have := un_b (n + 1) (by omega); omega)
  have dv : ∀ n, n ≤ 9 → nL w / nL (un (n + 1)) = nL (w / un (n + 1)) := fun n hn => nL_div (by omega) (by have := un_b (n + 1) (by omega); omega)
  have dl : ∀ n, n ≤ 9 → w / un (n + 1) ≤ w := fun n _ => Nat.div_le_self _ _
  induction d with
  | zero =>
    intro n f f' hn
    have : n = 9 := by omega
    subst this
    show Bo h0 u0 k l i j 10 (fX0_addNumber_23F (fX0_addNumber_23 f) h 3 (nL w) (nL (un (9 + 1))) (nI 9)) (fX12_numberOut_28F (fX12_numberOut_28 f') u (nL w) (nL (un (9 + 1))))
    have q : lg_cmp (nL (w / un (9 + 1))) 9 ≤ 0 := (lgc_le (b := 9) (by have := dl 9 (by omega); omega) (by omega)).mpr (by
      show w / 1000000000 ≤ 9
      omega)
    simp only [fX0_addNumber_23F, fX12_numberOut_28F, if_neg (show ¬ (18 : Int32) ≤ nI 9 by decide), decide_eq_true (ne 9 (by omega)), oN_v, oC_v, oB_v, oB2_v, oB3_v, oB4_v, oK3_v, oK4_v, oL_v, dv 9 (by omega), if_pos q]
    exact base 9 (by omega)
  | succ d ih =>
    intro n f f' hn
    show Bo h0 u0 k l i j 10 (fX0_addNumber_23F (fX0_addNumber_23 (f + (d + 1))) h 3 (nL w) (nL (un (n + 1))) (nI n)) (fX12_numberOut_28F (fX12_numberOut_28 (f' + (d + 1))) u (nL w) (nL (un (n + 1))))
    have q : ¬ (18 : Int32) ≤ nI n := nI_ge (b := 18) (by omega) (by omega)
    simp only [fX0_addNumber_23F, fX12_numberOut_28F, if_neg q, decide_eq_true (ne n (by omega)), oN_v, oC_v, oB_v, oB2_v, oB3_v, oB4_v, oK3_v, oK4_v, oL_v, dv n (by omega)]
    by_cases c : lg_cmp (nL (w / un (n + 1))) 9 ≤ 0
    · rw [if_pos c, if_pos c]
      exact base n (by omega)
    · rw [if_neg c, if_neg c]
      have e : nL (un (n + 1)) * 10 = nL (un (n + 1 + 1)) := by
        rw [show (10 : Int64) = nL 10 from rfl, nL_mul]
        rfl
      rw [e, show nI n + 1 = nI (n + 1) from nI_add n 1]
      exact ih (n + 1) f f' (by omega)
theorem Bo.num3 {h0 h : PH} {u0 u : MS} {k k' i j w : Nat} {l : List Int32} (b : WB h0 k) (W : BW h0 h 3 k k' 0 l i j) (V : MO u0 u l) (hl : l.length < 900000) (hw : w ≤ 1000000000) : Bo h0 u0 k l i j 10 (fX0_addNumber_23 FU h 3 (nL w) 1 0) (fX12_numberOut_24 u (nL w)) := by
  have := Bo.num2 (u0 := u0) b hw W V hl 9 0 (FU - 10) (FU - 10) (by omega)
  rw [show FU - 10 + (9 + 1) = FU by have : FU = 100000 := rfl; omega] at this
  exact this
theorem m9_v : (-1000000000 : Int64).toInt = -1000000000 := by
  rw [show (-1000000000 : Int64) = -nL 1000000000 from rfl, Int64.toInt_neg, nL_toInt (by omega)]
  exact Int.bmod_eq_of_le (by omega) (by omega)
theorem p9_v : (1000000000 : Int64).toInt = 1000000000 := nL_toInt (n := 1000000000) (by omega)
theorem low_v {v : Int64} (h : -1000000000 ≤ v) : -1000000000 ≤ v.toInt := by
  have := Int64.le_iff_toInt_le.mp h
  rw [m9_v] at this
  exact this
theorem up_v {v : Int64} (h : v ≤ 1000000000) : v.toInt ≤ 1000000000 := by
  have := Int64.le_iff_toInt_le.mp h
  rw [p9_v] at this
  exact this
theorem pos_v {v : Int64} {w : Nat} (hw : w ≤ 1000000000) (e : v.toInt = w) : v = nL w := Int64.toInt_inj.mp (by rw [nL_toInt (by omega), e])
theorem neg_v {v : Int64} {w : Nat} (hw : w ≤ 1000000000) (e : v.toInt = -(w : Int)) : v = -nL w := Int64.toInt_inj.mp (by
  rw [Int64.toInt_neg, nL_toInt (by omega), e]
  exact (Int.bmod_eq_of_le (by omega) (by omega)).symm)
theorem z64 : (0 : Int64).toInt = 0 := by decide
theorem lgp {w : Nat} (hw : w ≤ 1000000000) : 0 ≤ lg_cmp (nL w) 0 := by
  unfold lg_cmp
  split
  · decide
  · split
    · decide
    · rename_i a1 a2
      exact absurd ((nL_inj (a := w) (b := 0) (by omega) (by omega)).mpr (by
        have : ¬ 0 < w := fun p => a1 ((nL_lt (a := 0) (b := w) (by omega) (by omega)).mpr p)
        omega)) a2
theorem absp {w : Nat} (hw : w ≤ 1000000000) : (if 0 < nL w then nL w else -nL w) = nL w := by
  split
  · rfl
  · rename_i a1
    have : w = 0 := by
      have : ¬ 0 < w := fun p => a1 ((nL_lt (a := 0) (b := w) (by omega) (by omega)).mpr p)
      omega
    subst this
    decide
theorem lgn {v : Int64} (c : v.toInt < 0) : ¬ 0 ≤ lg_cmp v 0 := by
  unfold lg_cmp
  have g1 : ¬ v > 0 := fun p => by
    have := Int64.lt_iff_toInt_lt.mp p
    rw [z64] at this
    omega
  have g2 : ¬ v = 0 := fun p => by
    rw [p, z64] at c
    omega
  rw [if_neg g1, if_neg g2]
  decide
theorem Bo.num {h0 h : PH} {u0 u : MS} {k k' i j : Nat} {l : List Int32} (b : WB h0 k) (W : BW h0 h 3 k k' 0 l i j) (V : MO u0 u l) (hl : l.length < 800000) {v : Int64} (h1 : -1000000000 ≤ v) (h2 : v ≤ 1000000000) : Bo h0 u0 k l i j 11 (fX0_addNumber h 3 v) (fX12_numberOut u v) := by
  have t1 := low_v h1
  have t2 := up_v h2
  clear h1 h2
  by_cases c : 0 ≤ v.toInt
  · obtain ⟨w, e⟩ : ∃ w : Nat, v.toInt = w := ⟨v.toInt.toNat, by omega⟩
    have hw : w ≤ 1000000000 := by omega
    have ev := pos_v hw e
    subst ev
    unfold fX0_addNumber fX0_addNumber_0 fX12_numberOut fX12_numberOut_0
    rw [if_pos (lgp hw), if_pos (lgp hw)]
    unfold fX0_addNumber_12 fX12_numberOut_12
    rw [if_pos (lgp hw), oL_v, absp hw]
    exact (Bo.num3 b W V (by omega) hw).mono (by omega)
  · obtain ⟨w, e⟩ : ∃ w : Nat, v.toInt = -(w : Int) := ⟨(-v.toInt).toNat, by omega⟩
    have hw : w ≤ 1000000000 := by omega
    have ev := neg_v hw e
    have q := lgn (v := v) (by omega)
    have e2 : ¬ 0 < v := fun p => by
      have := Int64.lt_iff_toInt_lt.mp p
      rw [z64] at this
      omega
    have e3 : -v = nL w := by rw [ev, Int64.neg_neg]
    have x12 : ∀ h', fX0_addNumber_12 h' 3 v = fX0_addNumber_23 FU h' 3 (nL w) 1 0 := fun h' => by
      unfold fX0_addNumber_12
      rw [if_neg e2, oL_v, e3]
    have m12 : ∀ u', fX12_numberOut_12 u' v = fX12_numberOut_24 u' (nL w) := fun u' => by
      unfold fX12_numberOut_12
      rw [if_neg q, e3]
    unfold fX0_addNumber fX0_addNumber_0 fX12_numberOut fX12_numberOut_0
    rw [if_neg q, if_neg q, oC_d W.bs.ta, funext m12]
    simp only [x12]
    have b45 : (0 : Int32) ≤ by8 45 := by decide
    have cont : ∀ h' k' l' i' j' u', BW h0 h' 3 k k' 0 (l ++ l') (i + i') (j + j') → MO u0 u' (l ++ l') → l'.length ≤ 1 → Bo h0 u0 k (l ++ l') (i + i') (j + j') 10 (fX0_addNumber_23 FU h' 3 (nL w) 1 0) (fX12_numberOut_24 u' (nL w)) := by
      intro h' k2 l' i' j' u' W' V' hn
      refine Bo.num3 b W' V' ?_ hw
      rw [List.length_append]; omega
    exact Bo.seq (n := 1) (m := 10) (Fc := fun h' => fX0_addNumber_23 FU h' 3 (nL w) 1 0) (Mc := fun u' => fX12_numberOut_24 u' (nL w)) (Bo.byte b W V (by omega) 45 b45) cont
