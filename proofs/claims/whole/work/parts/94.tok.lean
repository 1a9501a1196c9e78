/-! tokens, as both programs cut them -/
abbrev isSm (c : Nat) : Prop := 97 ≤ c ∧ c ≤ 122
abbrev isDg (c : Nat) : Prop := 48 ≤ c ∧ c ≤ 57
abbrev isBl (c : Nat) : Prop := c = 9 ∨ c = 10 ∨ c = 13 ∨ c = 32
abbrev isAn (c : Nat) : Prop := (97 ≤ c ∧ c ≤ 122) ∨ (48 ≤ c ∧ c ≤ 57)
/-- the letter's number -/
def ltr (c : Nat) : Nat := if 97 ≤ c then c - 96 else c - 21
/-- how many bytes of a sort stand from p on -/
def rn (P : Nat → Bool) (b : Nat → Nat) (L : Nat) : Nat → Nat → Nat
  | 0, _ => 0
  | f + 1, p => if p < L then (if P (b p) then rn P b L f (p + 1) + 1 else 0) else 0
theorem rn_le (P : Nat → Bool) (b : Nat → Nat) (L : Nat) : ∀ f p, p ≤ L → p + rn P b L f p ≤ L := by
  intro f
  induction f with
  | zero => intro p hp; exact hp
  | succ f ih =>
    intro p hp
    unfold rn
    split
    · split
      · have := ih (p + 1) (by omega); omega
      · exact hp
    · exact hp
theorem rn_in (P : Nat → Bool) (b : Nat → Nat) (L : Nat) : ∀ f p q, p ≤ q → q < p + rn P b L f p → P (b q) = true := by
  intro f
  induction f with
  | zero => intro p q h1 h2; simp only [rn] at h2; omega
  | succ f ih =>
    intro p q h1 h2
    unfold rn at h2
    split at h2
    · split at h2
      · by_cases e : q = p
        · subst e; assumption
        · exact ih (p + 1) q (by omega) (by omega)
      · omega
    · omega
theorem rn_out (P : Nat → Bool) (b : Nat → Nat) (L : Nat) : ∀ f p, L < p + f → p + rn P b L f p < L → P (b (p + rn P b L f p)) = false := by
  intro f
  induction f with
  | zero => intro p h1 h2; simp only [rn] at h2; omega
  | succ f ih =>
    intro p h1 h2
    by_cases c1 : p < L
    · by_cases c2 : P (b p) = true
      · have e : rn P b L (f + 1) p = rn P b L f (p + 1) + 1 := by
          show (if p < L then (if P (b p) then rn P b L f (p + 1) + 1 else 0) else 0) = _
          rw [if_pos c1, if_pos c2]
        rw [e] at h2 ⊢
        rw [show p + (rn P b L f (p + 1) + 1) = p + 1 + rn P b L f (p + 1) by omega]
        exact ih (p + 1) (by omega) (by omega)
      · have e : rn P b L (f + 1) p = 0 := by
          show (if p < L then (if P (b p) then rn P b L f (p + 1) + 1 else 0) else 0) = _
          rw [if_pos c1, if_neg c2]
        rw [e, Nat.add_zero]
        exact Bool.eq_false_iff.mpr c2
    · have e : rn P b L (f + 1) p = 0 := by
        show (if p < L then (if P (b p) then rn P b L f (p + 1) + 1 else 0) else 0) = _
        rw [if_neg c1]
      rw [e] at h2
      omega
def aln (c : Nat) : Bool := decide (isAn c)
def dgt (c : Nat) : Bool := decide (48 ≤ c ∧ c ≤ 57)
def nmL (b : Nat → Nat) (p n : Nat) : List Nat := (List.range' p n).map (fun q => ltr (b q))
def dgV (b : Nat → Nat) (p : Nat) : Nat → Nat
  | 0 => 0
  | n + 1 => 10 * dgV b p n + (b (p + n) - 48)
theorem dgV_lt {b : Nat → Nat} {p : Nat} : ∀ n, (∀ q, p ≤ q → q < p + n → b q ≤ 57) → dgV b p n < 10 ^ n := by
  intro n
  induction n with
  | zero => intro _; exact Nat.one_pos
  | succ n ih =>
    intro h
    have h1 := ih fun q a1 a2 => h q a1 (by omega)
    have h2 := h (p + n) (by omega) (by omega)
    unfold dgV
    rw [Nat.pow_succ]
    omega
/-- the words, in the reference's order -/
def kwl : List (List Nat) := [[16, 5, 18, 19, 15, 14], [23, 15, 18, 4], [19, 21, 13], [12, 1, 23], [18, 1, 14, 11], [6, 18, 15, 13], [21, 14, 20, 9, 12], [5, 14, 4], [15, 22, 5, 18], [18, 21, 12, 5], [2, 1, 18], [20, 1, 11, 5], [19, 1, 13, 5], [15, 20, 8, 5, 18], [9, 6], [14, 15, 20], [13, 15, 19, 20], [12, 5, 1, 19, 20]]
def kwGo (ls : List Nat) : Nat → List (List Nat) → Nat
  | _, [] => 1
  | j, w :: ws => if w = ls then j else kwGo ls (j + 1) ws
def kwK (ls : List Nat) : Nat := kwGo ls 20 kwl
/-- signs: kind, length -/
def sg1 (c : Nat) : Nat := if c = 59 then 5 else if c = 58 then 6 else if c = 44 then 7 else if c = 46 then 8 else if c = 40 then 9 else if c = 41 then 10 else if c = 43 then 11 else if c = 45 then 12 else if c = 42 then 13 else if c = 47 then 14 else if c = 60 then 18 else 4
def sgK (c d : Nat) : Nat × Nat :=
  if c = 61 ∧ d = 62 then (15, 2) else if c = 61 ∧ d = 61 then (16, 2) else if c = 33 ∧ d = 61 then (17, 2) else if c = 60 ∧ d = 61 then (19, 2) else (sg1 c, 1)
/-- a token at p (no blank there): kind, end, value, letters -/
def tk (b : Nat → Nat) (L p : Nat) : Nat × Nat × Nat × List Nat :=
  if L ≤ p then (0, p, 0, [])
  else if 97 ≤ b p ∧ b p ≤ 122 then (if rn aln b L 5000 p ≤ 10 then (kwK (nmL b p (rn aln b L 5000 p)), p + rn aln b L 5000 p, 0, nmL b p (rn aln b L 5000 p)) else (4, p + rn aln b L 5000 p, 0, []))
  else if 48 ≤ b p ∧ b p ≤ 57 then (if rn dgt b L 5000 p ≤ 6 then (3, p + rn dgt b L 5000 p, dgV b p (rn dgt b L 5000 p), []) else (4, p + rn dgt b L 5000 p, 0, []))
  else if 65 ≤ b p ∧ b p ≤ 90 then (2, p + 1, b p, [])
  else ((sgK (b p) (if p + 1 < L then b (p + 1) else 0)).1, p + (sgK (b p) (if p + 1 < L then b (p + 1) else 0)).2, 0, [])
/-- the other program's kinds -/
def cKl : List Nat := [263, 260, 261, 262, 264, 59, 58, 44, 46, 40, 41, 43, 45, 42, 47, 256, 257, 258, 60, 259, 300, 301, 302, 303, 304, 305, 306, 307, 308, 309, 310, 311, 314, 315, 316, 317, 312, 313]
def cK (k : Nat) : Int32 := nI (cKl.getD k 0)
theorem cK_inj' : ∀ a, a < 38 → ∀ b, b < 38 → cKl.getD a 0 = cKl.getD b 0 → a = b := by decide +kernel
theorem cK_b : ∀ a, a < 38 → cKl.getD a 0 < 1000 := by decide +kernel
theorem cK_inj {a b : Nat} (ha : a < 38) (hb : b < 38) : cK a = cK b ↔ a = b := by
  unfold cK
  have h1 := cK_b a ha
  have h2 := cK_b b hb
  rw [nI_eq (by omega) (by omega)]
  exact ⟨cK_inj' a ha b hb, fun e => by rw [e]⟩
theorem ltr_ok {c : Nat} (h : isAn c) : 1 ≤ ltr c ∧ ltr c ≤ 36 := by
  unfold ltr
  split <;> omega
theorem nI_64 {n : Nat} (h : n < 2147483648) : Int32.toInt64 (nI n) = nL n := by
  apply Int64.toInt_inj.mp
  rw [Int32.toInt_toInt64, nI_toInt h, nL_toInt (by omega)]
theorem shl6 {v s : Nat} (hv : v < 144115188075855872) (hs : s < 64) : (nL v <<< ((6 : Int32).toInt64 &&& 63)) ||| nL s = nL (64 * v + s) := by
  apply Int64.toBitVec_inj.mp
  apply BitVec.eq_of_toNat_eq
  have e1 : (nL v).toBitVec.toNat = v := by
    show (BitVec.ofNat 64 v).toNat = v
    rw [BitVec.toNat_ofNat]; omega
  have e2 : (nL s).toBitVec.toNat = s := by
    show (BitVec.ofNat 64 s).toNat = s
    rw [BitVec.toNat_ofNat]; omega
  have e3 : (nL (64 * v + s)).toBitVec.toNat = 64 * v + s := by
    show (BitVec.ofNat 64 (64 * v + s)).toNat = _
    rw [BitVec.toNat_ofNat]; omega
  have e4 : ((nL v <<< ((6 : Int32).toInt64 &&& 63)) ||| nL s).toBitVec = ((nL v).toBitVec <<< ((((6 : Int32).toInt64 &&& 63).toBitVec.smod 64#64).toNat)) ||| (nL s).toBitVec := rfl
  have e5 : (((6 : Int32).toInt64 &&& 63).toBitVec.smod 64#64).toNat = 6 := by decide +kernel
  rw [e4, e5, BitVec.toNat_or, BitVec.toNat_shiftLeft, e1, e2, e3, Nat.mod_eq_of_lt (by rw [Nat.shiftLeft_eq]; omega), ← Nat.shiftLeft_add_eq_or_of_lt (by omega), Nat.shiftLeft_eq]
  omega
theorem small_v {c : Nat} (h : c < 256) : fX10_isSmall (nI c) = some (if isSm c then 1 else 0) := by
  unfold fX10_isSmall fX10_isSmall_0 isSm
  have a1 : nI c < 97 ↔ c < 97 := nI_ltI (b := 97) (by omega) (by omega)
  have a2 : 122 < nI c ↔ 122 < c := nI_ltI (a := 122) (by omega) (by omega)
  by_cases q1 : c < 97
  · rw [if_pos (a1.mpr q1), if_neg (by omega)]
  · rw [if_neg (fun p => q1 (a1.mp p))]
    by_cases q2 : 122 < c
    · rw [if_pos (a2.mpr q2), if_neg (by omega)]
    · rw [if_neg (fun p => q2 (a2.mp p)), if_pos (by omega)]
theorem digit_v {c : Nat} (h : c < 256) : fX10_isDigit (nI c) = some (if isDg c then 1 else 0) := by
  unfold fX10_isDigit fX10_isDigit_0 isDg
  have a1 : nI c < 48 ↔ c < 48 := nI_ltI (b := 48) (by omega) (by omega)
  have a2 : 57 < nI c ↔ 57 < c := nI_ltI (a := 57) (by omega) (by omega)
  by_cases q1 : c < 48
  · rw [if_pos (a1.mpr q1), if_neg (by omega)]
  · rw [if_neg (fun p => q1 (a1.mp p))]
    by_cases q2 : 57 < c
    · rw [if_pos (a2.mpr q2), if_neg (by omega)]
    · rw [if_neg (fun p => q2 (a2.mp p)), if_pos (by omega)]
theorem letterM_v (c : Int32) : fX12_isLetter c = fX10_isSmall c := rfl
theorem digitM_v (c : Int32) : fX12_isDigit c = fX10_isDigit c := rfl
