/-! longs -/
def nL (n : Nat) : Int64 := Int64.ofNat n
theorem nL_toInt {n : Nat} (h : n < 9223372036854775808) : (nL n).toInt = n := Int64.toInt_ofNat_of_lt (by omega)
theorem nL_mul (a b : Nat) : nL a * nL b = nL (a * b) := (Int64.ofNat_mul a b).symm
theorem nL_add (a b : Nat) : nL a + nL b = nL (a + b) := (Int64.ofNat_add a b).symm
theorem nL_div {a b : Nat} (ha : a < 9223372036854775808) (hb : b < 9223372036854775808) : nL a / nL b = nL (a / b) := by
  apply Int64.toInt_inj.mp
  have hq : a / b < 9223372036854775808 := Nat.lt_of_le_of_lt (Nat.div_le_self a b) ha
  rw [Int64.toInt_div, nL_toInt ha, nL_toInt hb, nL_toInt hq]
  rw [show ((a : Int).tdiv (b : Int)) = ((a / b : Nat) : Int) from rfl]
  generalize a / b = q at hq ⊢
  apply Int.bmod_eq_of_le
  · omega
  · omega
theorem nL_sub {a b : Nat} (h : b ≤ a) : nL a - nL b = nL (a - b) := by
  rw [Int64.sub_eq_iff_eq_add, nL_add]
  congr 1
  omega
theorem nL_mod2 (a b : Nat) : nL a - nL (a / b) * nL b = nL (a % b) := by
  rw [nL_mul, nL_sub (Nat.div_mul_le_self a b)]
  congr 1
  have := Nat.div_add_mod a b
  rw [Nat.mul_comm] at this
  omega
theorem nL_inj {a b : Nat} (ha : a < 9223372036854775808) (hb : b < 9223372036854775808) : nL a = nL b ↔ a = b := by
  refine ⟨fun e => ?_, fun e => by rw [e]⟩
  have := nL_toInt ha
  rw [e, nL_toInt hb] at this
  omega
theorem nL_lt {a b : Nat} (ha : a < 9223372036854775808) (hb : b < 9223372036854775808) : nL a < nL b ↔ a < b := by
  rw [Int64.lt_iff_toInt_lt, nL_toInt ha, nL_toInt hb]
  omega
theorem lgc_le {a b : Nat} (ha : a < 9223372036854775808) (hb : b < 9223372036854775808) : lg_cmp (nL a) (nL b) ≤ 0 ↔ a ≤ b := by
  unfold lg_cmp
  by_cases h1 : b < a
  · have : nL a > nL b := (nL_lt hb ha).mpr h1
    rw [if_pos this]
    exact ⟨fun q => absurd q (by decide), fun q => by omega⟩
  · have : ¬ nL a > nL b := fun q => h1 ((nL_lt hb ha).mp q)
    rw [if_neg this]
    split
    · exact ⟨fun _ => by omega, fun _ => by decide⟩
    · exact ⟨fun _ => by omega, fun _ => by decide⟩
theorem nL_32 (n : Nat) : Int64.toInt32 (nL n) = nI n := Int64.toInt32_ofNat'
theorem nL_shr {v s : Nat} {b : Int64} (hv : v < 9223372036854775808) (hb : (b.toBitVec.smod 64#64).toNat = s) : nL v >>> b = nL (v / 2 ^ s) := by
  apply Int64.toBitVec_inj.mp
  apply BitVec.eq_of_toNat_eq
  have e1 : (nL v).toBitVec.toNat = v := by
    show (BitVec.ofNat 64 v).toNat = v
    rw [BitVec.toNat_ofNat]
    omega
  have hq : v / 2 ^ s ≤ v := Nat.div_le_self _ _
  have e2 : (nL (v / 2 ^ s)).toBitVec.toNat = v / 2 ^ s := by
    show (BitVec.ofNat 64 (v / 2 ^ s)).toNat = _
    rw [BitVec.toNat_ofNat]
    exact Nat.mod_eq_of_lt (Nat.lt_of_le_of_lt hq (by omega))
  have m : (nL v).toBitVec.msb = false := by
    rw [BitVec.msb_eq_false_iff_two_mul_lt, e1]
    omega
  have e3 : (nL v >>> b).toBitVec = (nL v).toBitVec.sshiftRight (b.toBitVec.smod 64#64).toNat := rfl
  rw [e3, BitVec.toNat_sshiftRight_of_msb_false m, hb, e1, e2, Nat.shiftRight_eq_div_pow]
theorem nI_and63 (n : Nat) : nI n &&& 63 = nI (n % 64) := by
  apply Int32.toBitVec_inj.mp
  apply BitVec.eq_of_toNat_eq
  have e1 : (nI n &&& 63).toBitVec = (BitVec.ofNat 32 n) &&& 63#32 := rfl
  have e2 : (nI (n % 64)).toBitVec = BitVec.ofNat 32 (n % 64) := rfl
  rw [e1, e2, BitVec.toNat_and, BitVec.toNat_ofNat, BitVec.toNat_ofNat, BitVec.toNat_ofNat, show 63 % 2 ^ 32 = 2 ^ 6 - 1 from rfl, Nat.and_two_pow_sub_one_eq_mod]
  omega
