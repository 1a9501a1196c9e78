/-- the reference's step -/
theorem emit_v {u : MS} {rc : Nat} (m24 : mI u 24 = nI rc) (hr : rc < 37000) (op x y : Int32) : fX12_emit u op x y = some (mSI (mSA (mSA (mSA u 60 rc op) 61 rc x) 62 rc y) 24 (nI (rc + 1))) := by
  have a1 : mI (mSA u 60 rc op) 24 = nI rc := m24
  have a2 : mI (mSA (mSA u 60 rc op) 61 rc x) 24 = nI rc := m24
  have a3 : mI (mSA (mSA (mSA u 60 rc op) 61 rc x) 62 rc y) 24 = nI rc := m24
  unfold fX12_emit fX12_emit_0
  rw [m24, oC_t (ix_n (show rc < mlen 60 from hr) (by decide)), oL_v, nI_clamp (show rc < 2147483648 by omega), a1, oC_t (ix_n (show rc < mlen 61 from hr) (by decide)), oL_v, nI_clamp (show rc < 2147483648 by omega), a2, oC_t (ix_n (show rc < mlen 62 from hr) (by decide)), oL_v, nI_clamp (show rc < 2147483648 by omega), a3, nI_1, oL_v]
theorem shl20 : (((20 : Int32) &&& 31).toBitVec.smod 32#32).toNat = 20 := by decide +kernel
/-- the class's step as a number -/
theorem step_n {op x : Nat} (ho : op ≤ 7) (hx : x < 1048576) : (nI op <<< (20 &&& 31)) ||| nI x = nI (1048576 * op + x) := by
  apply Int32.toBitVec_inj.mp
  apply BitVec.eq_of_toNat_eq
  have e1 : (nI op).toBitVec.toNat = op := by
    show (BitVec.ofNat 32 op).toNat = op
    rw [BitVec.toNat_ofNat]; omega
  have e2 : (nI x).toBitVec.toNat = x := by
    show (BitVec.ofNat 32 x).toNat = x
    rw [BitVec.toNat_ofNat]; omega
  have e3 : (nI (1048576 * op + x)).toBitVec.toNat = 1048576 * op + x := by
    show (BitVec.ofNat 32 (1048576 * op + x)).toNat = _
    rw [BitVec.toNat_ofNat]; omega
  have e4 : ((nI op <<< ((20 : Int32) &&& 31)) ||| nI x).toBitVec = ((nI op).toBitVec <<< ((((20 : Int32) &&& 31).toBitVec.smod 32#32).toNat)) ||| (nI x).toBitVec := rfl
  rw [e4, shl20, BitVec.toNat_or, BitVec.toNat_shiftLeft, e1, e2, e3, Nat.mod_eq_of_lt (by rw [Nat.shiftLeft_eq]; omega), ← Nat.shiftLeft_add_eq_or_of_lt (by omega), Nat.shiftLeft_eq]
  omega
/-- the rows of steps, one step longer -/
theorem okD.app : ∀ (e f : List Tok) (a b d : Nat), okD e a b → okD f b d → okD (e ++ f) a d := by
  intro e
  induction e with
  | nil => intro f a b d h1 h2; have : a = b := h1; rw [this]; exact h2
  | cons t e ih =>
    intro f a b d h1 h2
    exact ⟨h1.1, ih f _ b d h1.2 h2⟩
theorem cc_app (e f : List Tok) : cc (e ++ f) = cc e ++ cc f := List.flatMap_append
theorem rc_app (e f : List Tok) : rc (e ++ f) = rc e ++ rc f := List.map_append
