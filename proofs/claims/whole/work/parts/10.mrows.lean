def mk : Nat → Nat
  | 1 => 2
  | 3 => 2
  | 5 => 2
  | 6 => 2
  | 7 => 2
  | 8 => 2
  | 9 => 2
  | 25 => 2
  | 26 => 2
  | 27 => 2
  | 28 => 2
  | 29 => 2
  | 30 => 2
  | 31 => 2
  | 32 => 2
  | 33 => 2
  | 34 => 2
  | 35 => 2
  | 36 => 2
  | 37 => 2
  | 38 => 2
  | 39 => 2
  | 40 => 2
  | 41 => 2
  | 42 => 2
  | 43 => 2
  | 44 => 2
  | 45 => 2
  | 46 => 2
  | 47 => 2
  | 48 => 2
  | 49 => 2
  | 50 => 2
  | 51 => 2
  | 52 => 2
  | 53 => 2
  | 54 => 2
  | 55 => 2
  | 56 => 2
  | 57 => 2
  | 58 => 2
  | 59 => 2
  | 60 => 2
  | 61 => 2
  | 62 => 2
  | 64 => 2
  | 71 => 2
  | 74 => 2
  | 75 => 2
  | 76 => 2
  | 77 => 2
  | 78 => 2
  | 80 => 1
  | 81 => 1
  | 82 => 2
  | 83 => 2
  | 84 => 2
  | 85 => 2
  | 86 => 2
  | 87 => 2
  | 88 => 2
  | 89 => 2
  | 90 => 2
  | 91 => 2
  | 92 => 2
  | 93 => 2
  | 94 => 2
  | 95 => 2
  | 104 => 2
  | 105 => 2
  | 106 => 2
  | 107 => 2
  | 108 => 2
  | 109 => 2
  | 110 => 2
  | 111 => 2
  | 112 => 2
  | 114 => 2
  | 115 => 2
  | _ => 0
def mlen : Nat → Nat
  | 1 => 4000
  | 3 => 4000
  | 5 => 1203
  | 6 => 1203
  | 7 => 1203
  | 8 => 1203
  | 9 => 18
  | 25 => 5
  | 26 => 20
  | 27 => 12
  | 28 => 12
  | 29 => 4
  | 30 => 10
  | 31 => 10
  | 32 => 10
  | 33 => 10
  | 34 => 10
  | 35 => 10
  | 36 => 20
  | 37 => 20
  | 38 => 30
  | 39 => 30
  | 40 => 30
  | 41 => 30
  | 42 => 30
  | 43 => 90
  | 44 => 30
  | 45 => 30
  | 46 => 30
  | 47 => 30
  | 48 => 30
  | 49 => 30
  | 50 => 30
  | 51 => 180
  | 52 => 180
  | 53 => 180
  | 54 => 180
  | 55 => 180
  | 56 => 180
  | 57 => 180
  | 58 => 180
  | 59 => 180
  | 60 => 37000
  | 61 => 37000
  | 62 => 37000
  | 64 => 44
  | 71 => 40
  | 74 => 100
  | 75 => 100
  | 76 => 100
  | 77 => 100
  | 78 => 100
  | 82 => 1300
  | 83 => 1300
  | 84 => 3750
  | 85 => 3750
  | 86 => 3750
  | 87 => 600
  | 88 => 600
  | 89 => 3750
  | 90 => 3750
  | 91 => 600
  | 92 => 600
  | 93 => 600
  | 94 => 900
  | 95 => 3
  | 104 => 600
  | 105 => 600
  | 106 => 600
  | 107 => 1800
  | 108 => 20
  | 109 => 20
  | 110 => 20
  | 111 => 20
  | 112 => 600
  | 114 => 4000
  | 115 => 12
  | _ => 0
def mak : Nat → Nat
  | 5 => 1
  | 6 => 1
  | 7 => 1
  | 8 => 2
  | 9 => 2
  | 25 => 2
  | 26 => 1
  | 27 => 2
  | 28 => 1
  | 29 => 2
  | 30 => 2
  | 31 => 1
  | 32 => 1
  | 33 => 1
  | 34 => 1
  | 35 => 1
  | 36 => 1
  | 37 => 1
  | 38 => 2
  | 39 => 1
  | 40 => 1
  | 41 => 1
  | 42 => 1
  | 43 => 1
  | 44 => 1
  | 45 => 3
  | 46 => 1
  | 47 => 1
  | 48 => 1
  | 49 => 1
  | 50 => 1
  | 51 => 1
  | 52 => 1
  | 53 => 3
  | 54 => 1
  | 55 => 1
  | 56 => 1
  | 57 => 1
  | 58 => 1
  | 59 => 1
  | 60 => 1
  | 61 => 1
  | 62 => 1
  | 64 => 1
  | 71 => 1
  | 74 => 1
  | 75 => 1
  | 76 => 1
  | 77 => 1
  | 78 => 1
  | 82 => 2
  | 83 => 2
  | 84 => 3
  | 85 => 1
  | 86 => 1
  | 87 => 1
  | 88 => 1
  | 89 => 3
  | 90 => 3
  | 91 => 3
  | 92 => 3
  | 93 => 3
  | 94 => 3
  | 95 => 1
  | 104 => 1
  | 105 => 1
  | 106 => 1
  | 107 => 1
  | 108 => 2
  | 109 => 2
  | 110 => 1
  | 111 => 3
  | 112 => 1
  | 115 => 1
  | _ => 0
/-! the reference's state: fields by slot, arrays by slot -/
abbrev MS : Type := (Nat → Int32) × (Nat → Int64) × (Nat → Nat → Int32) × (Nat → Nat → Int64)
def mI (u : MS) : Nat → Int32 := u.1
def mL (u : MS) : Nat → Int64 := u.2.1
def mA (u : MS) : Nat → Nat → Int32 := u.2.2.1
def mB (u : MS) : Nat → Nat → Int64 := u.2.2.2
def up1 {α : Type} (f : Nat → α) (a : Nat) (v : α) : Nat → α := fun x => if x = a then v else f x
def mSI (u : MS) (k : Nat) (v : Int32) : MS := (up1 u.1 k v, u.2)
def mSL (u : MS) (k : Nat) (v : Int64) : MS := (u.1, up1 u.2.1 k v, u.2.2)
def mSA (u : MS) (k i : Nat) (v : Int32) : MS := (u.1, u.2.1, up2 u.2.2.1 k i v, u.2.2.2)
def mSB (u : MS) (k i : Nat) (v : Int64) : MS := (u.1, u.2.1, u.2.2.1, up2 u.2.2.2 k i v)
def mfk (u : MS) (ad : Nat → Nat) (t k : Nat) : Value := match t with
  | 0 => .int (mI u k)
  | 1 => .long (mL u k)
  | _ => .ref (ad k)
def mfv (u : MS) (ad : Nat → Nat) : Nat → Value := fun k => mfk u ad (mk k) k
def mav (u : MS) (t k : Nat) : Nat → Value := match t with
  | 2 => fun j => .long (mB u k j)
  | _ => fun j => .int (mA u k j)
/-- number 116: the object; number k: the array of field k -/
def wM (u : MS) (ad : Nat → Nat) : GW := fun i => if i = 116 then some (.inl (12, mfv u ad)) else if mk i = 2 then some (.inr (mak i, mlen i, mav u (mak i) i)) else none
/-- ad 117: how many cells there are (its methods make none) -/
def EM (D : va_G) (aC : Nat → ClassId) (ad : Nat → Nat) (u : MS) (H : Heap) : Prop := GR D aC ad (wM u ad) H ∧ H.size = ad 117
theorem wM_o {u : MS} {ad : Nat → Nat} : wM u ad 116 = some (.inl (12, mfv u ad)) := if_pos rfl
theorem wM_a {u : MS} {ad : Nat → Nat} {k t : Nat} (hk : mk k = 2) (ht : mak k = t) : wM u ad k = some (.inr (t, mlen k, mav u t k)) := by
  have h1 : k ≠ 116 := fun h => by rw [h] at hk; cases hk
  unfold wM
  rw [if_neg h1, if_pos hk, ht]
theorem up1_s {α : Type} {f : Nat → α} {a : Nat} {v : α} : up1 f a v a = v := if_pos rfl
theorem up1_n {α : Type} {f : Nat → α} {a x : Nat} {v : α} (h : x ≠ a) : up1 f a v x = f x := if_neg h
theorem wM_sI {u : MS} {ad : Nat → Nat} {k j : Nat} {v : Int32} (hj : j ≠ 116) : wM (mSI u k v) ad j = wM u ad j := by
  unfold wM
  rw [if_neg hj, if_neg hj]
  unfold mav
  split <;> rfl
theorem wM_sL {u : MS} {ad : Nat → Nat} {k j : Nat} {v : Int64} (hj : j ≠ 116) : wM (mSL u k v) ad j = wM u ad j := by
  unfold wM
  rw [if_neg hj, if_neg hj]
  unfold mav
  split <;> rfl
theorem wM_sA {u : MS} {ad : Nat → Nat} {k i j : Nat} {v : Int32} (hj : j ≠ k) : wM (mSA u k i v) ad j = wM u ad j := by
  unfold wM
  have h2 : mav (mSA u k i v) (mak j) j = mav u (mak j) j := by
    unfold mav
    split
    · rfl
    · exact funext fun q => congrArg Value.int (up2_1 hj)
  rw [h2]
  have h1 : mfv (mSA u k i v) ad = mfv u ad := by funext q; unfold mfv mfk; split <;> rfl
  rw [h1]
theorem wM_sB {u : MS} {ad : Nat → Nat} {k i j : Nat} {v : Int64} (hj : j ≠ k) : wM (mSB u k i v) ad j = wM u ad j := by
  unfold wM
  have h2 : mav (mSB u k i v) (mak j) j = mav u (mak j) j := by
    unfold mav
    split
    · exact funext fun q => congrArg Value.long (up2_1 hj)
    · rfl
  rw [h2]
  have h1 : mfv (mSB u k i v) ad = mfv u ad := by funext q; unfold mfv mfk; split <;> rfl
  rw [h1]
theorem mfv_sI {u : MS} {ad : Nat → Nat} {k : Nat} {v : Int32} (hk : mk k = 0) : mfv (mSI u k v) ad = updV (mfv u ad) k (.int v) := by
  funext j
  unfold updV
  by_cases hj : j = k
  · subst hj
    rw [if_pos rfl]
    unfold mfv
    rw [hk]
    exact congrArg Value.int up1_s
  · rw [if_neg hj]
    unfold mfv mfk
    split <;> first | rfl | exact congrArg Value.int (up1_n hj)
theorem mfv_sL {u : MS} {ad : Nat → Nat} {k : Nat} {v : Int64} (hk : mk k = 1) : mfv (mSL u k v) ad = updV (mfv u ad) k (.long v) := by
  funext j
  unfold updV
  by_cases hj : j = k
  · subst hj
    rw [if_pos rfl]
    unfold mfv
    rw [hk]
    exact congrArg Value.long up1_s
  · rw [if_neg hj]
    unfold mfv mfk
    split <;> first | rfl | exact congrArg Value.long (up1_n hj)
