/-! names told, and flaws -/
theorem NR.inj {a b x y : Int64} (p : NR a b) (q : NR x y) : a = x ↔ b = y := by
  obtain ⟨l, hl, e1, e2⟩ := p
  obtain ⟨m, hm, e3, e4⟩ := q
  subst e1 e2 e3 e4
  have c1 : Int64.ofNat (pk 64 l) = Int64.ofNat (pk 64 m) ↔ pk 64 l = pk 64 m := nL_inj (pk64_lt hl) (pk64_lt hm)
  have c2 : Int64.ofNat (pk 37 l) = Int64.ofNat (pk 37 m) ↔ pk 37 l = pk 37 m := nL_inj (pk37_lt hl) (pk37_lt hm)
  rw [c1, c2]
  constructor
  · intro e; rw [pk_inj (b := 64) (by omega) _ l m (Nat.le_refl _) hl.2.2 hm.2.2 e]
  · intro e; rw [pk_inj (b := 37) (by omega) _ l m (Nat.le_refl _) hl.2.2 hm.2.2 e]
def fd (P : Nat → Bool) : Nat → Nat → Int32
  | 0, _ => -1
  | d + 1, i => if P i then nI i else fd P d (i + 1)
theorem fd_r (P : Nat → Bool) : ∀ d i, fd P d i = -1 ∨ ∃ j, i ≤ j ∧ j < i + d ∧ fd P d i = nI j ∧ P j = true := by
  intro d
  induction d with
  | zero => intro i; exact .inl rfl
  | succ d ih =>
    intro i
    unfold fd
    by_cases c : P i = true
    · rw [if_pos c]; exact .inr ⟨i, by omega, by omega, rfl, c⟩
    · rw [if_neg c]
      rcases ih (i + 1) with e | ⟨j, h1, h2, h3, h4⟩
      · exact .inl e
      · exact .inr ⟨j, by omega, by omega, h3, h4⟩
theorem fd_c {P Q : Nat → Bool} : ∀ d i, (∀ j, i ≤ j → j < i + d → P j = Q j) → fd P d i = fd Q d i := by
  intro d
  induction d with
  | zero => intro i _; rfl
  | succ d ih =>
    intro i h
    unfold fd
    rw [h i (by omega) (by omega), ih (i + 1) (fun j h1 h2 => h j (by omega) (by omega))]
theorem find_cl {h : PH} {o a s : Nat} (t1 : hT h o = 8) (sz : hI h 897 o = nI s) (r : hR h 896 o = some a) (t2 : hT h a = 102) (hs : s ≤ hN h a) (hN' : hN h a < 1000) (x : Int64) : ∀ d i f, i + d = s → fX7_find_2 (f + (d + 1)) h o x (nI i) = some (fd (fun j => decide (hB h a j = x)) d i) := by
  intro d
  induction d with
  | zero =>
    intro i f hi
    show fX7_find_2F (fX7_find_2 f) h o x (nI i) = _
    unfold fX7_find_2F
    rw [oC_d t1, sz, if_pos (nI_le (by omega) (by omega))]
    rfl
  | succ d ih =>
    intro i f hi
    show fX7_find_2F (fX7_find_2 (f + (d + 1))) h o x (nI i) = some (if decide (hB h a i = x) then nI i else fd _ d (i + 1))
    unfold fX7_find_2F
    rw [oC_d t1, sz, if_neg (nI_ge (by omega) (by omega)), r, oN_v, oC_d t2, oC_t (ix_n (show i < hN h a by omega) (by omega)), nI_clamp (show i < 2147483648 by omega), oL_v, nI_1, ih (i + 1) f (by omega)]
    by_cases c : hB h a i = x
    · rw [if_pos ((lgc0_v _ _).mpr c), if_pos (decide_eq_true c)]
    · rw [if_neg (fun q => c ((lgc0_v _ _).mp q)), if_neg (by rw [decide_eq_false c]; decide)]
theorem find_c {h : PH} {o a s : Nat} (t1 : hT h o = 8) (sz : hI h 897 o = nI s) (r : hR h 896 o = some a) (t2 : hT h a = 102) (hs : s ≤ hN h a) (hN' : hN h a < 1000) (x : Int64) : fX7_find h o x = some (fd (fun j => decide (hB h a j = x)) s 0) := by
  have := find_cl t1 sz r t2 hs hN' x s 0 (FU - (s + 1)) (by omega)
  rw [show FU - (s + 1) + (s + 1) = FU by rw [FU_v]; omega] at this
  exact this
theorem find_ml {u : MS} {k s : Nat} (hs : s ≤ mlen k) (hk : mlen k < 1000) (x : Int64) : ∀ d i f, i + d = s → fX12_find_3 k (f + (d + 1)) u (nI s) x (nI i) = some (fd (fun j => decide (mB u k j = x)) d i) := by
  intro d
  induction d with
  | zero =>
    intro i f hi
    show fX12_find_3F k (fX12_find_3 k f) u (nI s) x (nI i) = _
    unfold fX12_find_3F
    rw [if_pos (nI_le (by omega) (by omega))]
    rfl
  | succ d ih =>
    intro i f hi
    show fX12_find_3F k (fX12_find_3 k (f + (d + 1))) u (nI s) x (nI i) = some (if decide (mB u k i = x) then nI i else fd _ d (i + 1))
    unfold fX12_find_3F
    rw [if_neg (nI_ge (by omega) (by omega)), oC_t (ix_n (show i < mlen k by omega) (by omega)), nI_clamp (show i < 2147483648 by omega), oL_v, nI_1, ih (i + 1) f (by omega)]
    by_cases c : mB u k i = x
    · rw [if_pos ((lgc0_v _ _).mpr c), if_pos (decide_eq_true c)]
    · rw [if_neg (fun q => c ((lgc0_v _ _).mp q)), if_neg (by rw [decide_eq_false c]; decide)]
theorem find_m {u : MS} {k s : Nat} (kk : (decide (mk k = 2) && decide (mak k = 2)) = true) (hs : s ≤ mlen k) (hk : mlen k < 1000) (x : Int64) : fX12_find u k (nI s) x = some (fd (fun j => decide (mB u k j = x)) s 0) := by
  have := find_ml (u := u) hs hk x s 0 (FU - (s + 1)) (by omega)
  rw [show FU - (s + 1) + (s + 1) = FU by rw [FU_v]; omega] at this
  unfold fX12_find fX12_find_0
  rw [oC_t kk]
  exact this
/-- the same name is found in both -/
theorem find_e {h : PH} {u : MS} {a k s : Nat} {x y : Int64} (A : ∀ i, i < s → NR (hB h a i) (mB u k i)) (N : NR x y) : fd (fun j => decide (hB h a j = x)) s 0 = fd (fun j => decide (mB u k j = y)) s 0 :=
  fd_c s 0 fun j _ hj => by
    have := (A j (by omega)).inj N
    by_cases c : hB h a j = x
    · rw [decide_eq_true c, decide_eq_true (this.mp c)]
    · rw [decide_eq_false c, decide_eq_false (fun q => c (this.mpr q))]
/-- the class has changed nothing but where it stands -/
def Q (h : PH) (h' : PH) : Prop := (hR h' = hR h) ∧ (hC h' = hC h) ∧ (hT h' = hT h) ∧ (hN h' = hN h) ∧ (hZ h' = hZ h) ∧ (hA h' = hA h) ∧ (hB h' = hB h) ∧ (∀ f a, a ≠ 23 → hI h' f a = hI h f a) ∧ (∀ f a, a ≠ 23 → hL h' f a = hL h f a) ∧ (∀ f, f < 520 → hI h' f 23 = hI h f 23)
theorem Q.R {h : PH} {h' : PH} (X_ : Q h h') : hR h' = hR h := X_.1
theorem Q.C {h : PH} {h' : PH} (X_ : Q h h') : hC h' = hC h := X_.2.1
theorem Q.T {h : PH} {h' : PH} (X_ : Q h h') : hT h' = hT h := X_.2.2.1
theorem Q.N {h : PH} {h' : PH} (X_ : Q h h') : hN h' = hN h := X_.2.2.2.1
theorem Q.Z {h : PH} {h' : PH} (X_ : Q h h') : hZ h' = hZ h := X_.2.2.2.2.1
theorem Q.A {h : PH} {h' : PH} (X_ : Q h h') : hA h' = hA h := X_.2.2.2.2.2.1
theorem Q.B {h : PH} {h' : PH} (X_ : Q h h') : hB h' = hB h := X_.2.2.2.2.2.2.1
theorem Q.I {h : PH} {h' : PH} (X_ : Q h h') : ∀ f a, a ≠ 23 → hI h' f a = hI h f a := X_.2.2.2.2.2.2.2.1
theorem Q.L {h : PH} {h' : PH} (X_ : Q h h') : ∀ f a, a ≠ 23 → hL h' f a = hL h f a := X_.2.2.2.2.2.2.2.2.1
theorem Q.g {h : PH} {h' : PH} (X_ : Q h h') : ∀ f, f < 520 → hI h' f 23 = hI h f 23 := X_.2.2.2.2.2.2.2.2.2
theorem Q.mk {h : PH} {h' : PH} (R_ : hR h' = hR h) (C_ : hC h' = hC h) (T_ : hT h' = hT h) (N_ : hN h' = hN h) (Z_ : hZ h' = hZ h) (A_ : hA h' = hA h) (B_ : hB h' = hB h) (I_ : ∀ f a, a ≠ 23 → hI h' f a = hI h f a) (L_ : ∀ f a, a ≠ 23 → hL h' f a = hL h f a) (g_ : ∀ f, f < 520 → hI h' f 23 = hI h f 23) : Q h h' := ⟨R_, C_, T_, N_, Z_, A_, B_, I_, L_, g_⟩
theorem Q.refl (h : PH) : Q h h := ⟨rfl, rfl, rfl, rfl, rfl, rfl, rfl, fun _ _ _ => rfl, fun _ _ _ => rfl, fun _ _ => rfl⟩
theorem Q.trans {h h1 h2 : PH} (X : Q h h1) (Y : Q h1 h2) : Q h h2 := ⟨Y.R.trans X.R, Y.C.trans X.C, Y.T.trans X.T, Y.N.trans X.N, Y.Z.trans X.Z, Y.A.trans X.A, Y.B.trans X.B, fun f a q => (Y.I f a q).trans (X.I f a q), fun f a q => (Y.L f a q).trans (X.L f a q), fun f q => (Y.g f q).trans (X.g f q)⟩
theorem Q.sI {h h' : PH} (X : Q h h') {f : Nat} {v : Int32} (hf : 520 ≤ f) : Q h (sI h' f 23 v) := X.trans ⟨rfl, rfl, rfl, rfl, rfl, rfl, rfl, fun f' a q => by simp only [z_hI_sI, z_hL_sI, z_hR_sI, z_hA_sI, z_hB_sI, z_hC_sI, z_hT_sI, z_hN_sI, z_hZ_sI, z_hI_sL, z_hL_sL, z_hR_sL, z_hA_sL, z_hB_sL, z_hC_sL, z_hT_sL, z_hN_sL, z_hZ_sL, z_hI_sR, z_hL_sR, z_hR_sR, z_hA_sR, z_hB_sR, z_hC_sR, z_hT_sR, z_hN_sR, z_hZ_sR, z_hI_sA, z_hL_sA, z_hR_sA, z_hA_sA, z_hB_sA, z_hC_sA, z_hT_sA, z_hN_sA, z_hZ_sA, z_hI_sB, z_hL_sB, z_hR_sB, z_hA_sB, z_hB_sB, z_hC_sB, z_hT_sB, z_hN_sB, z_hZ_sB, z_hI_sC, z_hL_sC, z_hR_sC, z_hA_sC, z_hB_sC, z_hC_sC, z_hT_sC, z_hN_sC, z_hZ_sC, z_hI_sY, z_hL_sY, z_hR_sY, z_hA_sY, z_hB_sY, z_hC_sY, z_hT_sY, z_hN_sY, z_hZ_sY, z_hI_nO, z_hL_nO, z_hR_nO, z_hA_nO, z_hB_nO, z_hC_nO, z_hT_nO, z_hN_nO, z_hZ_nO, z_hI_nA, z_hL_nA, z_hR_nA, z_hA_nA, z_hB_nA, z_hC_nA, z_hT_nA, z_hN_nA, z_hZ_nA]; rw [if_neg (fun p => q p.2)], fun _ _ _ => rfl, fun f' q => by simp only [z_hI_sI, z_hL_sI, z_hR_sI, z_hA_sI, z_hB_sI, z_hC_sI, z_hT_sI, z_hN_sI, z_hZ_sI, z_hI_sL, z_hL_sL, z_hR_sL, z_hA_sL, z_hB_sL, z_hC_sL, z_hT_sL, z_hN_sL, z_hZ_sL, z_hI_sR, z_hL_sR, z_hR_sR, z_hA_sR, z_hB_sR, z_hC_sR, z_hT_sR, z_hN_sR, z_hZ_sR, z_hI_sA, z_hL_sA, z_hR_sA, z_hA_sA, z_hB_sA, z_hC_sA, z_hT_sA, z_hN_sA, z_hZ_sA, z_hI_sB, z_hL_sB, z_hR_sB, z_hA_sB, z_hB_sB, z_hC_sB, z_hT_sB, z_hN_sB, z_hZ_sB, z_hI_sC, z_hL_sC, z_hR_sC, z_hA_sC, z_hB_sC, z_hC_sC, z_hT_sC, z_hN_sC, z_hZ_sC, z_hI_sY, z_hL_sY, z_hR_sY, z_hA_sY, z_hB_sY, z_hC_sY, z_hT_sY, z_hN_sY, z_hZ_sY, z_hI_nO, z_hL_nO, z_hR_nO, z_hA_nO, z_hB_nO, z_hC_nO, z_hT_nO, z_hN_nO, z_hZ_nO, z_hI_nA, z_hL_nA, z_hR_nA, z_hA_nA, z_hB_nA, z_hC_nA, z_hT_nA, z_hN_nA, z_hZ_nA]; rw [if_neg (fun p => by omega)]⟩
theorem Q.sL {h h' : PH} (X : Q h h') {f : Nat} {v : Int64} : Q h (sL h' f 23 v) := X.trans ⟨rfl, rfl, rfl, rfl, rfl, rfl, rfl, fun _ _ _ => rfl, fun f' a q => by simp only [z_hI_sI, z_hL_sI, z_hR_sI, z_hA_sI, z_hB_sI, z_hC_sI, z_hT_sI, z_hN_sI, z_hZ_sI, z_hI_sL, z_hL_sL, z_hR_sL, z_hA_sL, z_hB_sL, z_hC_sL, z_hT_sL, z_hN_sL, z_hZ_sL, z_hI_sR, z_hL_sR, z_hR_sR, z_hA_sR, z_hB_sR, z_hC_sR, z_hT_sR, z_hN_sR, z_hZ_sR, z_hI_sA, z_hL_sA, z_hR_sA, z_hA_sA, z_hB_sA, z_hC_sA, z_hT_sA, z_hN_sA, z_hZ_sA, z_hI_sB, z_hL_sB, z_hR_sB, z_hA_sB, z_hB_sB, z_hC_sB, z_hT_sB, z_hN_sB, z_hZ_sB, z_hI_sC, z_hL_sC, z_hR_sC, z_hA_sC, z_hB_sC, z_hC_sC, z_hT_sC, z_hN_sC, z_hZ_sC, z_hI_sY, z_hL_sY, z_hR_sY, z_hA_sY, z_hB_sY, z_hC_sY, z_hT_sY, z_hN_sY, z_hZ_sY, z_hI_nO, z_hL_nO, z_hR_nO, z_hA_nO, z_hB_nO, z_hC_nO, z_hT_nO, z_hN_nO, z_hZ_nO, z_hI_nA, z_hL_nA, z_hR_nA, z_hA_nA, z_hB_nA, z_hC_nA, z_hT_nA, z_hN_nA, z_hZ_nA]; rw [if_neg (fun p => q p.2)], fun _ _ => rfl⟩
theorem Q.sx {h h' : PH} {G : Gh} (X : Q h h') (S : SX h G) : SX h' G := by
  unfold SX
  rw [X.R, X.C, X.T, X.N, X.Z]
  exact S
theorem Q.cd {h h' : PH} {G : Gh} {z : Sz} (X : Q h h') (S : SX h G) (nr : z.nr ≤ G.nr) : CD h h' G G z := by
  have o : ∀ a, G.ow a / 100000 ≠ 7 → a ≠ 23 := fun a ha q => ha (by rw [q, S.o23])
  refine CD.mk (X.sx S) (GD.refl G _) (by rw [X.Z]; exact Nat.le_refl _) (fun _ _ => by rw [X.N]) (fun a ha => ⟨fun f => X.I f a (o a ha.2.2.1), fun f => X.L f a (o a ha.2.2.1), fun i => by rw [X.A], fun i => by rw [X.B]⟩) (fun _ => by rw [X.A, X.B]; exact ⟨rfl, rfl, rfl⟩) (X.I _ _ (by omega)) (fun _ _ _ => by rw [X.A, X.B]; exact ⟨rfl, rfl⟩) (fun a ha f' => X.I f' a (o a (by have := (kO_o S nr ha).1; omega))) (fun _ _ => by rw [X.A]) (by rw [X.N]; exact Nat.le_refl _) ⟨X.g _ (by omega), X.I _ _ (by omega), X.I _ _ (by omega), X.I _ _ (by omega), X.I _ _ (by omega), X.I _ _ (by omega), X.I _ _ (by omega), X.I _ _ (by omega)⟩
theorem Q.ad (h : PH) (D : Nat → Nat × Nat × Nat × List Nat) (t : Nat) : Q h (adH h D t) := ((((Q.refl h).sI (by omega)).sI (by omega)).sI (by omega)).sL
theorem Q.st (h : PH) (f : Int32) : Q h (stH h f) := (((Q.refl h).sI (by omega)).sI (by omega)).sI (by omega)
/-- the reference has changed nothing but where it stands -/
def W' (u : MS) (u' : MS) : Prop := (mA u' = mA u) ∧ (mB u' = mB u) ∧ (mL u' = mL u) ∧ (∀ k, ¬ (k = 11 ∨ (13 ≤ k ∧ k ≤ 16)) → mI u' k = mI u k)
theorem W'.A {u : MS} {u' : MS} (X_ : W' u u') : mA u' = mA u := X_.1
theorem W'.B {u : MS} {u' : MS} (X_ : W' u u') : mB u' = mB u := X_.2.1
theorem W'.L {u : MS} {u' : MS} (X_ : W' u u') : mL u' = mL u := X_.2.2.1
theorem W'.I {u : MS} {u' : MS} (X_ : W' u u') : ∀ k, ¬ (k = 11 ∨ (13 ≤ k ∧ k ≤ 16)) → mI u' k = mI u k := X_.2.2.2
theorem W'.mk {u : MS} {u' : MS} (A_ : mA u' = mA u) (B_ : mB u' = mB u) (L_ : mL u' = mL u) (I_ : ∀ k, ¬ (k = 11 ∨ (13 ≤ k ∧ k ≤ 16)) → mI u' k = mI u k) : W' u u' := ⟨A_, B_, L_, I_⟩
theorem W'.refl (u : MS) : W' u u := ⟨rfl, rfl, rfl, fun _ _ => rfl⟩
theorem W'.trans {u u1 u2 : MS} (X : W' u u1) (Y : W' u1 u2) : W' u u2 := ⟨Y.A.trans X.A, Y.B.trans X.B, Y.L.trans X.L, fun k q => (Y.I k q).trans (X.I k q)⟩
theorem W'.sI {u u' : MS} (X : W' u u') {k : Nat} {v : Int32} (hk : k = 11 ∨ (13 ≤ k ∧ k ≤ 16)) : W' u (mSI u' k v) := X.trans ⟨rfl, rfl, rfl, fun k' q => by simp only [z_mI_mSI, z_mL_mSI, z_mA_mSI, z_mB_mSI, z_mI_mSL, z_mL_mSL, z_mA_mSL, z_mB_mSL, z_mI_mSA, z_mL_mSA, z_mA_mSA, z_mB_mSA, z_mI_mSB, z_mL_mSB, z_mA_mSB, z_mB_mSB]; rw [if_neg (fun e => q (by rw [e]; exact hk))]⟩
theorem W'.md {u u' : MS} (X : W' u u') (z : Sz) : MD u u' z := ⟨fun k hk => ⟨X.I k (by omega), by rw [X.L], fun i => by rw [X.A], fun i => by rw [X.B]⟩, fun k i _ => ⟨by rw [X.A], by rw [X.B]⟩⟩
/-- the same flaw in both -/
def FL (h : PH) (u : MS) : Prop := hI h 526 23 = mI u 15 ∧ (mI u 15 ≠ 0 → ∃ p, p ≤ 4000 ∧ hI h 527 23 = nI p ∧ mI u 16 = nI p) ∧ (mI u 15 = 0 → hI h 527 23 = -1)
/-- a flaw at q or ahead of it -/
def FP (u : MS) (q : Nat) : Prop := mI u 15 ≠ 0 ∧ ∃ p, p ≤ q ∧ p ≤ 4000 ∧ mI u 16 = nI p
theorem note_v {h : PH} {u : MS} {G : Gh} (S : SX h G) (F : FL h u) (f0 : mI u 13 = 0) {i p : Nat} (hi : i < 1203) (hp : p ≤ 4000) (pl : mA u 6 i = nI p) {f : Int32} (hf : f ≠ 0) : ∃ h' u', fX4_note h 23 f (nI p) = some h' ∧ fX12_wrong u f (nI i) = some u' ∧ FL h' u' ∧ FP u' p ∧ (∀ q, FP u q → FP u' q) ∧ Q h h' ∧ W' u u' ∧ (∀ f, f < 526 → hI h' f 23 = hI h f 23) ∧ hL h' = hL h ∧ mI u' 11 = mI u 11 ∧ mI u' 13 = mI u 13 ∧ mI u' 14 = mI u 14 := by
  obtain ⟨F1, F2, F3⟩ := F
  have setc : fX4_note_31 h 23 f (nI p) = some (sI (sI h 526 23 f) 527 23 (nI p)) := by
    simp only [fX4_note_31, S.t0, S.t1, S.t3, S.t5, S.t6, S.t8, S.t10, S.t12, S.t14, S.t23, S.t24, S.t7, S.t9, S.t11, S.t13, S.t15, S.t16, S.t17, S.t18, S.t19, S.t20, S.t21, S.t25, S.t29, S.t30, S.t31, S.n7, S.n9, S.n11, S.n13, S.n15, S.n16, S.n17, S.n18, S.n19, S.n20, S.n21, S.n25, S.n29, S.n30, S.n31, S.r1408_0, S.r1409_0, S.r1410_0, S.r1411_0, S.r1412_0, S.r128_5, S.r129_5, S.r130_5, S.r131_5, S.r132_5, S.r133_5, S.r134_5, S.r135_5, S.r136_5, S.r137_5, S.r138_5, S.r512_23, S.r513_23, S.r514_23, S.r515_23, S.r896_6, S.r896_8, S.r896_10, S.r896_12, S.r896_14, S.r1280_24, S.r0_1, S.ttk, S.otk, S.r0_3, S.twk, S.owk, S.r141_5, S.tpg, S.opg, S.r1281_24, S.tkd, S.okd, S.r1282_24, S.tst, S.ost, S.r1283_24, S.tvl, S.ovl, S.o0, S.o1, S.o3, S.o31, S.o5, S.o6, S.o7, S.o8, S.o9, S.o10, S.o11, S.o12, S.o13, S.o14, S.o15, S.o16, S.o17, S.o18, S.o19, S.o20, S.o21, S.o23, S.o24, S.o25, S.o29, S.o30, oN_v, oC_v, oB_v, oB2_v, oB3_v, oB4_v, oK3_v, oK4_v, oL_v, if_true, if_false, and_false, false_and, and_true, true_and, and_self, decide_true, decide_false, reduceCtorEq, not_false_eq_true, not_true_eq_false, Nat.reduceEqDiff, Nat.reduceAdd, Nat.reduceMul, Nat.add_zero, Nat.zero_add]
  have setm : fX12_wrong_46 u f (nI p) = some (mSI (mSI u 15 f) 16 (nI p)) := by
    simp only [fX12_wrong_46, oN_v, oC_v, oB_v, oB2_v, oB3_v, oB4_v, oK3_v, oK4_v, oL_v]
  have em : fX12_wrong u f (nI i) = if mI u 15 = 0 then some (mSI (mSI u 15 f) 16 (nI p)) else if mI u 16 < nI p then some u else if nI p = mI u 16 then (if f < mI u 15 then some (mSI (mSI u 15 f) 16 (nI p)) else some u) else some (mSI (mSI u 15 f) 16 (nI p)) := by
    unfold fX12_wrong fX12_wrong_0
    rw [oC_t (ix_n (show i < mlen 6 from hi) (by decide)), oL_v, nI_clamp (show i < 2147483648 by omega), pl, f0, if_neg (by decide), setm]
  have ec : fX4_note h 23 f (nI p) = if hI h 526 23 = 0 then some (sI (sI h 526 23 f) 527 23 (nI p)) else if nI p < hI h 527 23 then some (sI (sI h 526 23 f) 527 23 (nI p)) else if nI p = hI h 527 23 then (if hI h 526 23 ≤ f then some h else some (sI (sI h 526 23 f) 527 23 (nI p))) else some h := by
    unfold fX4_note fX4_note_0
    rw [oC_d S.t23, setc]
  have yes : fX4_note h 23 f (nI p) = some (sI (sI h 526 23 f) 527 23 (nI p)) → fX12_wrong u f (nI i) = some (mSI (mSI u 15 f) 16 (nI p)) → (∀ q, FP u q → p ≤ q) → ∃ h' u', fX4_note h 23 f (nI p) = some h' ∧ fX12_wrong u f (nI i) = some u' ∧ FL h' u' ∧ FP u' p ∧ (∀ q, FP u q → FP u' q) ∧ Q h h' ∧ W' u u' ∧ (∀ f, f < 526 → hI h' f 23 = hI h f 23) ∧ hL h' = hL h ∧ mI u' 11 = mI u 11 ∧ mI u' 13 = mI u 13 ∧ mI u' 14 = mI u 14 := by
    intro e1 e2 hq
    have fp : ∀ q, p ≤ q → FP (mSI (mSI u 15 f) 16 (nI p)) q := fun q h1 => ⟨by simp only [z_mI_mSI, z_mL_mSI, z_mA_mSI, z_mB_mSI, z_mI_mSL, z_mL_mSL, z_mA_mSL, z_mB_mSL, z_mI_mSA, z_mL_mSA, z_mA_mSA, z_mB_mSA, z_mI_mSB, z_mL_mSB, z_mA_mSB, z_mB_mSB, if_true, if_false, and_false, false_and, and_true, true_and, and_self, decide_true, decide_false, reduceCtorEq, not_false_eq_true, not_true_eq_false, Nat.reduceEqDiff, Nat.reduceAdd, Nat.reduceMul, Nat.add_zero, Nat.zero_add]; exact hf, p, h1, hp, by simp only [z_mI_mSI, z_mL_mSI, z_mA_mSI, z_mB_mSI, z_mI_mSL, z_mL_mSL, z_mA_mSL, z_mB_mSL, z_mI_mSA, z_mL_mSA, z_mA_mSA, z_mB_mSA, z_mI_mSB, z_mL_mSB, z_mA_mSB, z_mB_mSB, if_true, if_false, and_false, false_and, and_true, true_and, and_self, decide_true, decide_false, reduceCtorEq, not_false_eq_true, not_true_eq_false, Nat.reduceEqDiff, Nat.reduceAdd, Nat.reduceMul, Nat.add_zero, Nat.zero_add]⟩
    refine ⟨_, _, e1, e2, ⟨by simp only [z_hI_sI, z_hL_sI, z_hR_sI, z_hA_sI, z_hB_sI, z_hC_sI, z_hT_sI, z_hN_sI, z_hZ_sI, z_hI_sL, z_hL_sL, z_hR_sL, z_hA_sL, z_hB_sL, z_hC_sL, z_hT_sL, z_hN_sL, z_hZ_sL, z_hI_sR, z_hL_sR, z_hR_sR, z_hA_sR, z_hB_sR, z_hC_sR, z_hT_sR, z_hN_sR, z_hZ_sR, z_hI_sA, z_hL_sA, z_hR_sA, z_hA_sA, z_hB_sA, z_hC_sA, z_hT_sA, z_hN_sA, z_hZ_sA, z_hI_sB, z_hL_sB, z_hR_sB, z_hA_sB, z_hB_sB, z_hC_sB, z_hT_sB, z_hN_sB, z_hZ_sB, z_hI_sC, z_hL_sC, z_hR_sC, z_hA_sC, z_hB_sC, z_hC_sC, z_hT_sC, z_hN_sC, z_hZ_sC, z_hI_sY, z_hL_sY, z_hR_sY, z_hA_sY, z_hB_sY, z_hC_sY, z_hT_sY, z_hN_sY, z_hZ_sY, z_hI_nO, z_hL_nO, z_hR_nO, z_hA_nO, z_hB_nO, z_hC_nO, z_hT_nO, z_hN_nO, z_hZ_nO, z_hI_nA, z_hL_nA, z_hR_nA, z_hA_nA, z_hB_nA, z_hC_nA, z_hT_nA, z_hN_nA, z_hZ_nA, z_mI_mSI, z_mL_mSI, z_mA_mSI, z_mB_mSI, z_mI_mSL, z_mL_mSL, z_mA_mSL, z_mB_mSL, z_mI_mSA, z_mL_mSA, z_mA_mSA, z_mB_mSA, z_mI_mSB, z_mL_mSB, z_mA_mSB, z_mB_mSB, if_true, if_false, and_false, false_and, and_true, true_and, and_self, decide_true, decide_false, reduceCtorEq, not_false_eq_true, not_true_eq_false, Nat.reduceEqDiff, Nat.reduceAdd, Nat.reduceMul, Nat.add_zero, Nat.zero_add], fun _ => ⟨p, hp, by simp only [z_hI_sI, z_hL_sI, z_hR_sI, z_hA_sI, z_hB_sI, z_hC_sI, z_hT_sI, z_hN_sI, z_hZ_sI, z_hI_sL, z_hL_sL, z_hR_sL, z_hA_sL, z_hB_sL, z_hC_sL, z_hT_sL, z_hN_sL, z_hZ_sL, z_hI_sR, z_hL_sR, z_hR_sR, z_hA_sR, z_hB_sR, z_hC_sR, z_hT_sR, z_hN_sR, z_hZ_sR, z_hI_sA, z_hL_sA, z_hR_sA, z_hA_sA, z_hB_sA, z_hC_sA, z_hT_sA, z_hN_sA, z_hZ_sA, z_hI_sB, z_hL_sB, z_hR_sB, z_hA_sB, z_hB_sB, z_hC_sB, z_hT_sB, z_hN_sB, z_hZ_sB, z_hI_sC, z_hL_sC, z_hR_sC, z_hA_sC, z_hB_sC, z_hC_sC, z_hT_sC, z_hN_sC, z_hZ_sC, z_hI_sY, z_hL_sY, z_hR_sY, z_hA_sY, z_hB_sY, z_hC_sY, z_hT_sY, z_hN_sY, z_hZ_sY, z_hI_nO, z_hL_nO, z_hR_nO, z_hA_nO, z_hB_nO, z_hC_nO, z_hT_nO, z_hN_nO, z_hZ_nO, z_hI_nA, z_hL_nA, z_hR_nA, z_hA_nA, z_hB_nA, z_hC_nA, z_hT_nA, z_hN_nA, z_hZ_nA, if_true, if_false, and_false, false_and, and_true, true_and, and_self, decide_true, decide_false, reduceCtorEq, not_false_eq_true, not_true_eq_false, Nat.reduceEqDiff, Nat.reduceAdd, Nat.reduceMul, Nat.add_zero, Nat.zero_add], by simp only [z_mI_mSI, z_mL_mSI, z_mA_mSI, z_mB_mSI, z_mI_mSL, z_mL_mSL, z_mA_mSL, z_mB_mSL, z_mI_mSA, z_mL_mSA, z_mA_mSA, z_mB_mSA, z_mI_mSB, z_mL_mSB, z_mA_mSB, z_mB_mSB, if_true, if_false, and_false, false_and, and_true, true_and, and_self, decide_true, decide_false, reduceCtorEq, not_false_eq_true, not_true_eq_false, Nat.reduceEqDiff, Nat.reduceAdd, Nat.reduceMul, Nat.add_zero, Nat.zero_add]⟩, fun q => absurd q (by simp only [z_mI_mSI, z_mL_mSI, z_mA_mSI, z_mB_mSI, z_mI_mSL, z_mL_mSL, z_mA_mSL, z_mB_mSL, z_mI_mSA, z_mL_mSA, z_mA_mSA, z_mB_mSA, z_mI_mSB, z_mL_mSB, z_mA_mSB, z_mB_mSB, if_true, if_false, and_false, false_and, and_true, true_and, and_self, decide_true, decide_false, reduceCtorEq, not_false_eq_true, not_true_eq_false, Nat.reduceEqDiff, Nat.reduceAdd, Nat.reduceMul, Nat.add_zero, Nat.zero_add]; exact hf)⟩, fp p (Nat.le_refl _), fun q h1 => fp q (hq q h1), ((Q.refl h).sI (by omega)).sI (by omega), ((W'.refl u).sI (by omega)).sI (by omega), fun f' h1 => ?_, rfl, by simp only [z_mI_mSI, z_mL_mSI, z_mA_mSI, z_mB_mSI, z_mI_mSL, z_mL_mSL, z_mA_mSL, z_mB_mSL, z_mI_mSA, z_mL_mSA, z_mA_mSA, z_mB_mSA, z_mI_mSB, z_mL_mSB, z_mA_mSB, z_mB_mSB, if_true, if_false, and_false, false_and, and_true, true_and, and_self, decide_true, decide_false, reduceCtorEq, not_false_eq_true, not_true_eq_false, Nat.reduceEqDiff, Nat.reduceAdd, Nat.reduceMul, Nat.add_zero, Nat.zero_add], by simp only [z_mI_mSI, z_mL_mSI, z_mA_mSI, z_mB_mSI, z_mI_mSL, z_mL_mSL, z_mA_mSL, z_mB_mSL, z_mI_mSA, z_mL_mSA, z_mA_mSA, z_mB_mSA, z_mI_mSB, z_mL_mSB, z_mA_mSB, z_mB_mSB, if_true, if_false, and_false, false_and, and_true, true_and, and_self, decide_true, decide_false, reduceCtorEq, not_false_eq_true, not_true_eq_false, Nat.reduceEqDiff, Nat.reduceAdd, Nat.reduceMul, Nat.add_zero, Nat.zero_add], by simp only [z_mI_mSI, z_mL_mSI, z_mA_mSI, z_mB_mSI, z_mI_mSL, z_mL_mSL, z_mA_mSL, z_mB_mSL, z_mI_mSA, z_mL_mSA, z_mA_mSA, z_mB_mSA, z_mI_mSB, z_mL_mSB, z_mA_mSB, z_mB_mSB, if_true, if_false, and_false, false_and, and_true, true_and, and_self, decide_true, decide_false, reduceCtorEq, not_false_eq_true, not_true_eq_false, Nat.reduceEqDiff, Nat.reduceAdd, Nat.reduceMul, Nat.add_zero, Nat.zero_add]⟩
    simp only [z_hI_sI, z_hL_sI, z_hR_sI, z_hA_sI, z_hB_sI, z_hC_sI, z_hT_sI, z_hN_sI, z_hZ_sI, z_hI_sL, z_hL_sL, z_hR_sL, z_hA_sL, z_hB_sL, z_hC_sL, z_hT_sL, z_hN_sL, z_hZ_sL, z_hI_sR, z_hL_sR, z_hR_sR, z_hA_sR, z_hB_sR, z_hC_sR, z_hT_sR, z_hN_sR, z_hZ_sR, z_hI_sA, z_hL_sA, z_hR_sA, z_hA_sA, z_hB_sA, z_hC_sA, z_hT_sA, z_hN_sA, z_hZ_sA, z_hI_sB, z_hL_sB, z_hR_sB, z_hA_sB, z_hB_sB, z_hC_sB, z_hT_sB, z_hN_sB, z_hZ_sB, z_hI_sC, z_hL_sC, z_hR_sC, z_hA_sC, z_hB_sC, z_hC_sC, z_hT_sC, z_hN_sC, z_hZ_sC, z_hI_sY, z_hL_sY, z_hR_sY, z_hA_sY, z_hB_sY, z_hC_sY, z_hT_sY, z_hN_sY, z_hZ_sY, z_hI_nO, z_hL_nO, z_hR_nO, z_hA_nO, z_hB_nO, z_hC_nO, z_hT_nO, z_hN_nO, z_hZ_nO, z_hI_nA, z_hL_nA, z_hR_nA, z_hA_nA, z_hB_nA, z_hC_nA, z_hT_nA, z_hN_nA, z_hZ_nA]
    rw [if_neg (fun e => by omega), if_neg (fun e => by omega)]
  have no : fX4_note h 23 f (nI p) = some h → fX12_wrong u f (nI i) = some u → FP u p → ∃ h' u', fX4_note h 23 f (nI p) = some h' ∧ fX12_wrong u f (nI i) = some u' ∧ FL h' u' ∧ FP u' p ∧ (∀ q, FP u q → FP u' q) ∧ Q h h' ∧ W' u u' ∧ (∀ f, f < 526 → hI h' f 23 = hI h f 23) ∧ hL h' = hL h ∧ mI u' 11 = mI u 11 ∧ mI u' 13 = mI u 13 ∧ mI u' 14 = mI u 14 :=
    fun e1 e2 fp => ⟨h, u, e1, e2, ⟨F1, F2, F3⟩, fp, fun _ q => q, Q.refl h, W'.refl u, fun _ _ => rfl, rfl, rfl, rfl, rfl⟩
  by_cases c0 : mI u 15 = 0
  · exact yes (by rw [ec, F1, if_pos c0]) (by rw [em, if_pos c0]) (fun q h1 => absurd c0 h1.1)
  · obtain ⟨p0, hp0, e1, e2⟩ := F2 c0
    have lt : nI p < nI p0 ↔ p < p0 := nI_ltI (by omega) (by omega)
    have gt : nI p0 < nI p ↔ p0 < p := nI_ltI (by omega) (by omega)
    have eq : nI p = nI p0 ↔ p = p0 := nI_eq (by omega) (by omega)
    have fq : ∀ q, FP u q → p0 ≤ q := fun q h1 => by
      obtain ⟨_, p1, h2, h3, h4⟩ := h1
      rw [e2, nI_eq (by omega) (by omega)] at h4
      omega
    rw [F1, if_neg c0, e1] at ec
    rw [if_neg c0, e2] at em
    by_cases c1 : p < p0
    · exact yes (by rw [ec, if_pos (lt.mpr c1)]) (by rw [em, if_neg (fun q => by have := gt.mp q; omega), if_neg (fun q => by have := eq.mp q; omega)]) (fun q h1 => by have := fq q h1; omega)
    · rw [if_neg (fun q => c1 (lt.mp q))] at ec
      by_cases c2 : p = p0
      · rw [if_pos (eq.mpr c2)] at ec
        rw [if_neg (fun q => by have := gt.mp q; omega), if_pos (eq.mpr c2)] at em
        by_cases c3 : f < mI u 15
        · exact yes (by rw [ec, if_neg (fun q => by grind)]) (by rw [em, if_pos c3]) (fun q h1 => by have := fq q h1; omega)
        · exact no (by rw [ec, if_pos (by grind)]) (by rw [em, if_neg c3]) ⟨c0, p0, by omega, hp0, e2⟩
      · rw [if_neg (fun q => c2 (eq.mp q))] at ec
        rw [if_pos (gt.mpr (by omega))] at em
        exact no ec em ⟨c0, p0, by omega, hp0, e2⟩
