def kd : Nat → Nat → Nat
  | 0, 0 => 2
  | 1, 0 => 2
  | 1, 1 => 2
  | 1, 2 => 2
  | 1, 3 => 2
  | 1, 4 => 2
  | 1, 5 => 2
  | 1, 6 => 2
  | 1, 7 => 2
  | 1, 8 => 2
  | 1, 9 => 2
  | 1, 10 => 2
  | 1, 13 => 2
  | 3, 0 => 1
  | 3, 1 => 1
  | 4, 0 => 2
  | 4, 1 => 2
  | 4, 2 => 2
  | 4, 3 => 2
  | 4, 11 => 1
  | 5, 0 => 2
  | 5, 1 => 2
  | 5, 5 => 2
  | 5, 6 => 2
  | 5, 7 => 2
  | 5, 8 => 2
  | 5, 9 => 2
  | 5, 10 => 2
  | 5, 12 => 2
  | 5, 13 => 2
  | 5, 14 => 2
  | 5, 16 => 2
  | 5, 17 => 2
  | 5, 18 => 2
  | 6, 0 => 2
  | 6, 1 => 2
  | 6, 2 => 2
  | 6, 3 => 2
  | 6, 4 => 2
  | 6, 5 => 2
  | 6, 6 => 2
  | 6, 7 => 2
  | 7, 0 => 2
  | 8, 4 => 2
  | 8, 5 => 2
  | 10, 0 => 2
  | 10, 1 => 2
  | 10, 2 => 2
  | 10, 3 => 2
  | 10, 5 => 2
  | 11, 0 => 2
  | 11, 1 => 2
  | 11, 2 => 2
  | 11, 3 => 2
  | 11, 4 => 2
  | 11, 8 => 2
  | _, _ => 0
/-! the pure heap of the class: fields by (field's number, object), arrays by (array, index), tags, lengths, size -/
abbrev PH : Type := (Nat → Nat → Int32) × (Nat → Nat → Int64) × (Nat → Nat → Option Nat) × (Nat → Nat → Int32) × (Nat → Nat → Int64) × (Nat → Nat → Option Nat) × (Nat → Nat) × (Nat → Nat) × Nat
def hI (h : PH) : Nat → Nat → Int32 := h.1
def hL (h : PH) : Nat → Nat → Int64 := h.2.1
def hR (h : PH) : Nat → Nat → Option Nat := h.2.2.1
def hA (h : PH) : Nat → Nat → Int32 := h.2.2.2.1
def hB (h : PH) : Nat → Nat → Int64 := h.2.2.2.2.1
def hC (h : PH) : Nat → Nat → Option Nat := h.2.2.2.2.2.1
def hT (h : PH) : Nat → Nat := h.2.2.2.2.2.2.1
def hN (h : PH) : Nat → Nat := h.2.2.2.2.2.2.2.1
def hZ (h : PH) : Nat := h.2.2.2.2.2.2.2.2
def up2 {α : Type} (f : Nat → Nat → α) (a b : Nat) (v : α) : Nat → Nat → α := fun x y => if x = a ∧ y = b then v else f x y
def sI (h : PH) (f a : Nat) (v : Int32) : PH := (up2 h.1 f a v, h.2)
def sL (h : PH) (f a : Nat) (v : Int64) : PH := (h.1, up2 h.2.1 f a v, h.2.2)
def sR (h : PH) (f a : Nat) (v : Option Nat) : PH := (h.1, h.2.1, up2 h.2.2.1 f a v, h.2.2.2)
def sA (h : PH) (a i : Nat) (v : Int32) : PH := (h.1, h.2.1, h.2.2.1, up2 h.2.2.2.1 a i v, h.2.2.2.2)
def sB (h : PH) (a i : Nat) (v : Int64) : PH := (h.1, h.2.1, h.2.2.1, h.2.2.2.1, up2 h.2.2.2.2.1 a i v, h.2.2.2.2.2)
def sC (h : PH) (a i : Nat) (v : Option Nat) : PH := (h.1, h.2.1, h.2.2.1, h.2.2.2.1, h.2.2.2.2.1, up2 h.2.2.2.2.2.1 a i v, h.2.2.2.2.2.2)
/-- a new object of tag t -/
def nO (h : PH) (t : Nat) : PH := (fun f a => if a = hZ h then 0 else hI h f a, fun f a => if a = hZ h then 0 else hL h f a, fun f a => if a = hZ h then none else hR h f a, hA h, hB h, hC h, fun a => if a = hZ h then t else hT h a, hN h, hZ h + 1)
/-- a new array of tag t and length n -/
def nA (h : PH) (t n : Nat) : PH := (hI h, hL h, hR h, fun a i => if a = hZ h then 0 else hA h a i, fun a i => if a = hZ h then 0 else hB h a i, fun a i => if a = hZ h then none else hC h a i, fun a => if a = hZ h then t else hT h a, fun a => if a = hZ h then n else hN h a, hZ h + 1)
def fid (c k : Nat) : Nat := c * 128 + k
def fvk (h : PH) (ad : Nat → Nat) (t f a : Nat) : Value := match t with
  | 0 => .int (hI h f a)
  | 1 => .long (hL h f a)
  | _ => va_rf ((hR h f a).map ad)
def fv (h : PH) (ad : Nat → Nat) (c a : Nat) : Nat → Value := fun k => fvk h ad (kd c k) (fid c k) a
def av (h : PH) (ad : Nat → Nat) (k a : Nat) : Nat → Value := match k with
  | 0 => fun j => .int (hA h a j)
  | 1 => fun j => .int (hA h a j)
  | 2 => fun j => .long (hB h a j)
  | 3 => fun j => .int (hA h a j)
  | _ => fun j => va_rf ((hC h a j).map ad)
def wX (h : PH) (ad : Nat → Nat) : GW := fun i => if hT h i = 0 then none else if hT h i < 100 then some (.inl (hT h i - 1, fv h ad (hT h i - 1) i)) else some (.inr (hT h i - 100, hN h i, av h ad (hT h i - 100) i))
def EX (D : va_G) (aC : Nat → ClassId) (ad : Nat → Nat) (h : PH) (H : Heap) : Prop := GR D aC ad (wX h ad) H ∧ H.size = ad (hZ h) ∧ (∀ i, hZ h ≤ i → ad (i + 1) = ad i + 1) ∧ ∀ i, hZ h ≤ i → hT h i = 0
theorem wX_o {h : PH} {ad : Nat → Nat} {a c : Nat} (ht : hT h a = c + 1) (hc : c < 99) : wX h ad a = some (.inl (c, fv h ad c a)) := by
  unfold wX
  rw [if_neg (by omega), if_pos (by omega), ht]
  rfl
theorem wX_a {h : PH} {ad : Nat → Nat} {a k : Nat} (ht : hT h a = 100 + k) : wX h ad a = some (.inr (k, hN h a, av h ad k a)) := by
  unfold wX
  rw [if_neg (by omega), if_neg (by omega), ht, show 100 + k - 100 = k by omega]
theorem wX_eq {h h' : PH} {ad : Nat → Nat} {j : Nat} (ht : hT h' j = hT h j) (hf : ∀ c, fv h' ad c j = fv h ad c j) (hn : hN h' j = hN h j) (ha : ∀ k, av h' ad k j = av h ad k j) : wX h' ad j = wX h ad j := by
  unfold wX
  rw [ht, hn, hf, ha]
theorem fid_ne {c k c' k' : Nat} (h : k ≠ k') : ¬ (fid c k = fid c k') := by unfold fid; omega
theorem up2_s {α : Type} {f : Nat → Nat → α} {a b : Nat} {v : α} : up2 f a b v a b = v := by simp [up2]
theorem up2_n {α : Type} {f : Nat → Nat → α} {a b x y : Nat} {v : α} (h : ¬ (x = a ∧ y = b)) : up2 f a b v x y = f x y := by unfold up2; rw [if_neg h]
theorem up2_2 {α : Type} {f : Nat → Nat → α} {a b x y : Nat} {v : α} (h : y ≠ b) : up2 f a b v x y = f x y := up2_n (fun q => h q.2)
theorem up2_1 {α : Type} {f : Nat → Nat → α} {a b x y : Nat} {v : α} (h : x ≠ a) : up2 f a b v x y = f x y := up2_n (fun q => h q.1)
theorem wX_sI_n {h : PH} {ad : Nat → Nat} {f a j : Nat} {v : Int32} (hj : j ≠ a) : wX (sI h f a v) ad j = wX h ad j :=
  wX_eq rfl (fun c => funext fun k => by unfold fv fvk; split <;> first | rfl | (show Value.int (up2 _ _ _ _ _ _) = _; rw [up2_2 hj]; rfl)) rfl (fun k => by unfold av; split <;> rfl)
theorem wX_sL_n {h : PH} {ad : Nat → Nat} {f a j : Nat} {v : Int64} (hj : j ≠ a) : wX (sL h f a v) ad j = wX h ad j :=
  wX_eq rfl (fun c => funext fun k => by unfold fv fvk; split <;> first | rfl | (show Value.long (up2 _ _ _ _ _ _) = _; rw [up2_2 hj]; rfl)) rfl (fun k => by unfold av; split <;> rfl)
theorem wX_sR_n {h : PH} {ad : Nat → Nat} {f a j : Nat} {v : Option Nat} (hj : j ≠ a) : wX (sR h f a v) ad j = wX h ad j :=
  wX_eq rfl (fun c => funext fun k => by unfold fv fvk; split <;> first | rfl | (show va_rf (Option.map ad (up2 _ _ _ _ _ _)) = _; rw [up2_2 hj]; rfl)) rfl (fun k => by unfold av; split <;> rfl)
theorem wX_sA_n {h : PH} {ad : Nat → Nat} {a i j : Nat} {v : Int32} (hj : j ≠ a) : wX (sA h a i v) ad j = wX h ad j :=
  wX_eq rfl (fun c => rfl) rfl (fun k => by unfold av; split <;> first | rfl | (funext q; show Value.int (up2 _ _ _ _ _ _) = _; rw [up2_1 hj]; rfl))
theorem wX_sB_n {h : PH} {ad : Nat → Nat} {a i j : Nat} {v : Int64} (hj : j ≠ a) : wX (sB h a i v) ad j = wX h ad j :=
  wX_eq rfl (fun c => rfl) rfl (fun k => by unfold av; split <;> first | rfl | (funext q; show Value.long (up2 _ _ _ _ _ _) = _; rw [up2_1 hj]; rfl))
theorem wX_sC_n {h : PH} {ad : Nat → Nat} {a i j : Nat} {v : Option Nat} (hj : j ≠ a) : wX (sC h a i v) ad j = wX h ad j :=
  wX_eq rfl (fun c => rfl) rfl (fun k => by unfold av; split <;> first | rfl | (funext q; show va_rf (Option.map ad (up2 _ _ _ _ _ _)) = _; rw [up2_1 hj]; rfl))
theorem wX_nO_n {h : PH} {ad : Nat → Nat} {t j : Nat} (hj : j ≠ hZ h) : wX (nO h t) ad j = wX h ad j :=
  wX_eq (if_neg hj) (fun c => funext fun k => by unfold fv fvk; split <;> first | exact congrArg Value.int (if_neg hj) | exact congrArg Value.long (if_neg hj) | exact congrArg (fun z => va_rf (Option.map ad z)) (if_neg hj)) rfl (fun k => by unfold av; split <;> rfl)
theorem wX_nA_n {h : PH} {ad : Nat → Nat} {t n j : Nat} (hj : j ≠ hZ h) : wX (nA h t n) ad j = wX h ad j :=
  wX_eq (if_neg hj) (fun c => rfl) (if_neg hj) (fun k => by unfold av; split <;> first | exact funext fun q => congrArg Value.int (if_neg hj) | exact funext fun q => congrArg Value.long (if_neg hj) | exact funext fun q => congrArg (fun z => va_rf (Option.map ad z)) (if_neg hj))
theorem fv_sI {h : PH} {ad : Nat → Nat} {c k a : Nat} {v : Int32} (hk : kd c k = 0) : fv (sI h (fid c k) a v) ad c a = updV (fv h ad c a) k (.int v) := by
  funext j
  unfold updV
  by_cases hj : j = k
  · subst hj
    rw [if_pos rfl]
    unfold fv
    rw [hk]
    show Value.int (up2 _ _ _ _ _ _) = _
    rw [up2_s]
  · rw [if_neg hj]
    unfold fv fvk
    split <;> first | rfl | (show Value.int (up2 _ _ _ _ _ _) = _; rw [up2_1 (fid_ne (c' := c) hj)]; rfl)
theorem fv_sL {h : PH} {ad : Nat → Nat} {c k a : Nat} {v : Int64} (hk : kd c k = 1) : fv (sL h (fid c k) a v) ad c a = updV (fv h ad c a) k (.long v) := by
  funext j
  unfold updV
  by_cases hj : j = k
  · subst hj
    rw [if_pos rfl]
    unfold fv
    rw [hk]
    show Value.long (up2 _ _ _ _ _ _) = _
    rw [up2_s]
  · rw [if_neg hj]
    unfold fv fvk
    split <;> first | rfl | (show Value.long (up2 _ _ _ _ _ _) = _; rw [up2_1 (fid_ne (c' := c) hj)]; rfl)
theorem fv_sR {h : PH} {ad : Nat → Nat} {c k a : Nat} {v : Option Nat} (hk : kd c k = 2) : fv (sR h (fid c k) a v) ad c a = updV (fv h ad c a) k (va_rf (v.map ad)) := by
  funext j
  unfold updV
  by_cases hj : j = k
  · subst hj
    rw [if_pos rfl]
    unfold fv
    rw [hk]
    show va_rf (Option.map ad (up2 _ _ _ _ _ _)) = _
    rw [up2_s]
  · rw [if_neg hj]
    unfold fv fvk
    split <;> first | rfl | (show va_rf (Option.map ad (up2 _ _ _ _ _ _)) = _; rw [up2_1 (fid_ne (c' := c) hj)]; rfl)
