/-! words of bits -/
theorem nI_bv {a : Nat} (h : a < 4294967296) : (nI a).toBitVec.toNat = a := by
  show (BitVec.ofNat 32 a).toNat = a
  rw [BitVec.toNat_ofNat]
  omega
theorem nI_and {a b : Nat} (ha : a < 2147483648) (hb : b < 2147483648) : nI a &&& nI b = nI (a &&& b) := by
  apply Int32.toBitVec_inj.mp
  apply BitVec.eq_of_toNat_eq
  have l : a &&& b ≤ a := Nat.and_le_left
  have e : (nI a &&& nI b).toBitVec = (nI a).toBitVec &&& (nI b).toBitVec := rfl
  rw [e, BitVec.toNat_and, nI_bv (by omega), nI_bv (by omega), nI_bv (by omega)]
theorem nI_or {a b : Nat} (ha : a < 2147483648) (hb : b < 2147483648) : nI a ||| nI b = nI (a ||| b) := by
  apply Int32.toBitVec_inj.mp
  apply BitVec.eq_of_toNat_eq
  have l : a ||| b < 2 ^ 31 := Nat.or_lt_two_pow ha hb
  have e : (nI a ||| nI b).toBitVec = (nI a).toBitVec ||| (nI b).toBitVec := rfl
  rw [e, BitVec.toNat_or, nI_bv (by omega), nI_bv (by omega), nI_bv (by omega)]
theorem nI_xor {a b : Nat} (ha : a < 2147483648) (hb : b < 2147483648) : nI a ^^^ nI b = nI (a ^^^ b) := by
  apply Int32.toBitVec_inj.mp
  apply BitVec.eq_of_toNat_eq
  have l : a ^^^ b < 2 ^ 31 := Nat.xor_lt_two_pow ha hb
  have e : (nI a ^^^ nI b).toBitVec = (nI a).toBitVec ^^^ (nI b).toBitVec := rfl
  rw [e, BitVec.toNat_xor, nI_bv (by omega), nI_bv (by omega), nI_bv (by omega)]
theorem nI_shr {v s : Nat} {b : Int32} (hv : v < 2147483648) (hb : (b.toBitVec.smod 32#32).toNat = s) : nI v >>> b = nI (v / 2 ^ s) := by
  apply Int32.toBitVec_inj.mp
  apply BitVec.eq_of_toNat_eq
  have hq : v / 2 ^ s ≤ v := Nat.div_le_self _ _
  have m : (nI v).toBitVec.msb = false := by
    rw [BitVec.msb_eq_false_iff_two_mul_lt, nI_bv (by omega)]
    omega
  have e3 : (nI v >>> b).toBitVec = (nI v).toBitVec.sshiftRight (b.toBitVec.smod 32#32).toNat := rfl
  rw [e3, BitVec.toNat_sshiftRight_of_msb_false m, hb, nI_bv (by omega), nI_bv (by omega), Nat.shiftRight_eq_div_pow]
theorem sm31 : ∀ s, s < 31 → ((nI s &&& 31).toBitVec.smod 32#32).toNat = s := by decide +kernel
theorem nI_shr31 {v s : Nat} (hv : v < 2147483648) (hs : s < 31) : nI v >>> (nI s &&& 31) = nI (v / 2 ^ s) := nI_shr hv (sm31 s hs)
theorem nI_shl1 : ∀ s, s < 31 → (1 : Int32) <<< (nI s &&& 31) = nI (2 ^ s) := by decide +kernel
theorem and1_bit (v s : Nat) : ((v / 2 ^ s) &&& 1 = 1) ↔ Nat.testBit v s = true := by
  rw [Nat.and_one_is_mod, Nat.testBit_eq_decide_div_mod_eq, decide_eq_true_iff]
theorem shr_bit {v s : Nat} (hv : v < 2147483648) (hs : s < 31) : ((nI v >>> (nI s &&& 31)) &&& 1 = 1) ↔ Nat.testBit v s = true := by
  have hq : v / 2 ^ s ≤ v := Nat.div_le_self _ _
  have l : (v / 2 ^ s) &&& 1 ≤ v / 2 ^ s := Nat.and_le_left
  rw [nI_shr31 hv hs, show (1 : Int32) = nI 1 from rfl, nI_and (by omega) (by decide), nI_eq (by omega) (by decide)]
  exact and1_bit v s
theorem shr_zero {v s : Nat} (hv : v < 2147483648) (hs : s < 31) : (nI v >>> (nI s &&& 31) = 0) ↔ v < 2 ^ s := by
  have hq : v / 2 ^ s ≤ v := Nat.div_le_self _ _
  have hp : 0 < 2 ^ s := Nat.two_pow_pos s
  rw [nI_shr31 hv hs, show (0 : Int32) = nI 0 from rfl, nI_eq (by omega) (by decide)]
  exact Nat.div_eq_zero_iff_lt hp
theorem tb_lt {v s r : Nat} (h : v < 2 ^ s) (hr : s ≤ r) : Nat.testBit v r = false := Nat.testBit_lt_two_pow (Nat.lt_of_lt_of_le h (Nat.pow_le_pow_right (by decide) hr))
theorem and_ne {a b : Nat} : (a &&& b = 0) ↔ ∀ r, ¬ (Nat.testBit a r = true ∧ Nat.testBit b r = true) := by
  constructor
  · intro e r ⟨h1, h2⟩
    have := Nat.testBit_and a b r
    rw [e, h1, h2, Nat.zero_testBit] at this
    exact absurd this (by decide)
  · intro k
    apply Nat.eq_of_testBit_eq
    intro r
    rw [Nat.testBit_and, Nat.zero_testBit]
    have := k r
    cases h1 : Nat.testBit a r <;> cases h2 : Nat.testBit b r <;> simp_all
theorem xor1 : ∀ p, p < 600 → p ^^^ 1 = (if p % 2 = 0 then p + 1 else p - 1) := by decide +kernel
theorem xor1_lt {p : Nat} (h : p < 600) : p ^^^ 1 < 600 := by
  rw [xor1 p h]
  split <;> omega
theorem xor1_xor {p : Nat} (h : p < 600) : (p ^^^ 1) ^^^ 1 = p := by
  rw [Nat.xor_assoc, Nat.xor_self, Nat.xor_zero]
theorem nI_xor1 {p : Nat} (h : p < 600) : nI p ^^^ 1 = nI (p ^^^ 1) := nI_xor (by omega) (by decide)
theorem code_hi {op x : Nat} (ho : op ≤ 7) (hx : x < 1048576) : nI (1048576 * op + x) >>> (20 &&& 31) = nI op := by
  rw [nI_shr (s := 20) (by omega) (by decide +kernel)]
  congr 1
  omega
theorem code_lo {op x : Nat} (ho : op ≤ 7) (hx : x < 1048576) : nI (1048576 * op + x) &&& 1048575 = nI x := by
  rw [show (1048575 : Int32) = nI 1048575 from rfl, nI_and (by omega) (by decide), show 1048575 = 2 ^ 20 - 1 from rfl, Nat.and_two_pow_sub_one_eq_mod]
  congr 1
  omega
