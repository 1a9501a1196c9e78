/-- below the new cells nothing changed -/
def BeL (h : PH) (h' : PH) (Z : Nat) : Prop := (∀ f a, a < Z → hI h' f a = hI h f a) ∧ (∀ f a, a < Z → hL h' f a = hL h f a) ∧ (∀ a i, a < Z → hA h' a i = hA h a i) ∧ (∀ a i, a < Z → hB h' a i = hB h a i) ∧ (∀ a, a < Z → hT h' a = hT h a) ∧ (∀ a, a < Z → hN h' a = hN h a) ∧ (∀ f a, a < Z → hR h' f a = hR h f a) ∧ (∀ a i, a < Z → hC h' a i = hC h a i)
theorem BeL.I {h : PH} {h' : PH} {Z : Nat} (X_ : BeL h h' Z) : ∀ f a, a < Z → hI h' f a = hI h f a := X_.1
theorem BeL.L {h : PH} {h' : PH} {Z : Nat} (X_ : BeL h h' Z) : ∀ f a, a < Z → hL h' f a = hL h f a := X_.2.1
theorem BeL.A {h : PH} {h' : PH} {Z : Nat} (X_ : BeL h h' Z) : ∀ a i, a < Z → hA h' a i = hA h a i := X_.2.2.1
theorem BeL.B {h : PH} {h' : PH} {Z : Nat} (X_ : BeL h h' Z) : ∀ a i, a < Z → hB h' a i = hB h a i := X_.2.2.2.1
theorem BeL.T {h : PH} {h' : PH} {Z : Nat} (X_ : BeL h h' Z) : ∀ a, a < Z → hT h' a = hT h a := X_.2.2.2.2.1
theorem BeL.N {h : PH} {h' : PH} {Z : Nat} (X_ : BeL h h' Z) : ∀ a, a < Z → hN h' a = hN h a := X_.2.2.2.2.2.1
theorem BeL.R {h : PH} {h' : PH} {Z : Nat} (X_ : BeL h h' Z) : ∀ f a, a < Z → hR h' f a = hR h f a := X_.2.2.2.2.2.2.1
theorem BeL.C {h : PH} {h' : PH} {Z : Nat} (X_ : BeL h h' Z) : ∀ a i, a < Z → hC h' a i = hC h a i := X_.2.2.2.2.2.2.2
theorem BeL.mk {h : PH} {h' : PH} {Z : Nat} (I_ : ∀ f a, a < Z → hI h' f a = hI h f a) (L_ : ∀ f a, a < Z → hL h' f a = hL h f a) (A_ : ∀ a i, a < Z → hA h' a i = hA h a i) (B_ : ∀ a i, a < Z → hB h' a i = hB h a i) (T_ : ∀ a, a < Z → hT h' a = hT h a) (N_ : ∀ a, a < Z → hN h' a = hN h a) (R_ : ∀ f a, a < Z → hR h' f a = hR h f a) (C_ : ∀ a i, a < Z → hC h' a i = hC h a i) : BeL h h' Z := ⟨I_, L_, A_, B_, T_, N_, R_, C_⟩
theorem BeL.trans {h h1 h2 : PH} {Z Z' : Nat} (a : BeL h h1 Z) (b : BeL h1 h2 Z') (k : Z ≤ Z') : BeL h h2 Z := BeL.mk (fun f x hx => (b.I f x (by omega)).trans (a.I f x hx)) (fun f x hx => (b.L f x (by omega)).trans (a.L f x hx)) (fun x i hx => (b.A x i (by omega)).trans (a.A x i hx)) (fun x i hx => (b.B x i (by omega)).trans (a.B x i hx)) (fun x hx => (b.T x (by omega)).trans (a.T x hx)) (fun x hx => (b.N x (by omega)).trans (a.N x hx)) (fun f x hx => (b.R f x (by omega)).trans (a.R f x hx)) (fun x i hx => (b.C x i (by omega)).trans (a.C x i hx))
theorem BeL.o' {h h' : PH} {Z t : Nat} (a : BeL h h' Z) (k : Z ≤ hZ h') : BeL h (nO h' t) Z := by
  refine BeL.mk (fun f x hx => ?_) (fun f x hx => ?_) a.A a.B (fun x hx => ?_) a.N (fun f x hx => ?_) a.C
  · rw [z_hI_nO, if_neg (by omega)]; exact a.I f x hx
  · rw [z_hL_nO, if_neg (by omega)]; exact a.L f x hx
  · rw [z_hT_nO, if_neg (by omega)]; exact a.T x hx
  · rw [z_hR_nO, if_neg (by omega)]; exact a.R f x hx
theorem BeL.sR' {h h' : PH} {Z z f : Nat} {v : Option Nat} (a : BeL h h' Z) (kz : Z ≤ z) : BeL h (sR h' f z v) Z := by
  refine BeL.mk a.I a.L a.A a.B a.T a.N (fun f x hx => ?_) a.C
  rw [z_hR_sR, if_neg (by omega)]; exact a.R f x hx
theorem BeL.sA' {h h' : PH} {Z z i : Nat} {v : Int32} (a : BeL h h' Z) (kz : Z ≤ z) : BeL h (sA h' z i v) Z := by
  refine BeL.mk a.I a.L (fun x i hx => ?_) a.B a.T a.N a.R a.C
  rw [z_hA_sA, if_neg (by omega)]; exact a.A x i hx
theorem BeL.rf (h : PH) (Z : Nat) : BeL h h Z := BeL.mk (fun _ _ _ => rfl) (fun _ _ _ => rfl) (fun _ _ _ => rfl) (fun _ _ _ => rfl) (fun _ _ => rfl) (fun _ _ => rfl) (fun _ _ _ => rfl) (fun _ _ _ => rfl)
/-! the first judgment makes its parts: one cell -/
def AD (g : PH) (g' : PH) (z : Nat) (f : Nat) (t : Nat) : Prop := (hZ g' = hZ g + 1) ∧ (hT g' (hZ g) = t) ∧ (hR g' f z = some (hZ g)) ∧ (∀ f a, a < hZ g → hI g' f a = hI g f a) ∧ (∀ f a, a < hZ g → hL g' f a = hL g f a) ∧ (∀ a i, a < hZ g → hA g' a i = hA g a i) ∧ (∀ a i, a < hZ g → hB g' a i = hB g a i) ∧ (∀ a i, a < hZ g → hC g' a i = hC g a i) ∧ (∀ a, a < hZ g → hT g' a = hT g a) ∧ (∀ a, a < hZ g → hN g' a = hN g a) ∧ (∀ f' a, a < hZ g → ¬ (f' = f ∧ a = z) → hR g' f' a = hR g f' a) ∧ (∀ i, hZ g + 1 ≤ i → hT g' i = hT g i)
theorem AD.Z {g : PH} {g' : PH} {z : Nat} {f : Nat} {t : Nat} (X_ : AD g g' z f t) : hZ g' = hZ g + 1 := X_.1
theorem AD.T {g : PH} {g' : PH} {z : Nat} {f : Nat} {t : Nat} (X_ : AD g g' z f t) : hT g' (hZ g) = t := X_.2.1
theorem AD.R {g : PH} {g' : PH} {z : Nat} {f : Nat} {t : Nat} (X_ : AD g g' z f t) : hR g' f z = some (hZ g) := X_.2.2.1
theorem AD.bI {g : PH} {g' : PH} {z : Nat} {f : Nat} {t : Nat} (X_ : AD g g' z f t) : ∀ f a, a < hZ g → hI g' f a = hI g f a := X_.2.2.2.1
theorem AD.bL {g : PH} {g' : PH} {z : Nat} {f : Nat} {t : Nat} (X_ : AD g g' z f t) : ∀ f a, a < hZ g → hL g' f a = hL g f a := X_.2.2.2.2.1
theorem AD.bA {g : PH} {g' : PH} {z : Nat} {f : Nat} {t : Nat} (X_ : AD g g' z f t) : ∀ a i, a < hZ g → hA g' a i = hA g a i := X_.2.2.2.2.2.1
theorem AD.bB {g : PH} {g' : PH} {z : Nat} {f : Nat} {t : Nat} (X_ : AD g g' z f t) : ∀ a i, a < hZ g → hB g' a i = hB g a i := X_.2.2.2.2.2.2.1
theorem AD.bC {g : PH} {g' : PH} {z : Nat} {f : Nat} {t : Nat} (X_ : AD g g' z f t) : ∀ a i, a < hZ g → hC g' a i = hC g a i := X_.2.2.2.2.2.2.2.1
theorem AD.bT {g : PH} {g' : PH} {z : Nat} {f : Nat} {t : Nat} (X_ : AD g g' z f t) : ∀ a, a < hZ g → hT g' a = hT g a := X_.2.2.2.2.2.2.2.2.1
theorem AD.bN {g : PH} {g' : PH} {z : Nat} {f : Nat} {t : Nat} (X_ : AD g g' z f t) : ∀ a, a < hZ g → hN g' a = hN g a := X_.2.2.2.2.2.2.2.2.2.1
theorem AD.bR {g : PH} {g' : PH} {z : Nat} {f : Nat} {t : Nat} (X_ : AD g g' z f t) : ∀ f' a, a < hZ g → ¬ (f' = f ∧ a = z) → hR g' f' a = hR g f' a := X_.2.2.2.2.2.2.2.2.2.2.1
theorem AD.fr {g : PH} {g' : PH} {z : Nat} {f : Nat} {t : Nat} (X_ : AD g g' z f t) : ∀ i, hZ g + 1 ≤ i → hT g' i = hT g i := X_.2.2.2.2.2.2.2.2.2.2.2
theorem AD.mk {g : PH} {g' : PH} {z : Nat} {f : Nat} {t : Nat} (Z_ : hZ g' = hZ g + 1) (T_ : hT g' (hZ g) = t) (R_ : hR g' f z = some (hZ g)) (bI_ : ∀ f a, a < hZ g → hI g' f a = hI g f a) (bL_ : ∀ f a, a < hZ g → hL g' f a = hL g f a) (bA_ : ∀ a i, a < hZ g → hA g' a i = hA g a i) (bB_ : ∀ a i, a < hZ g → hB g' a i = hB g a i) (bC_ : ∀ a i, a < hZ g → hC g' a i = hC g a i) (bT_ : ∀ a, a < hZ g → hT g' a = hT g a) (bN_ : ∀ a, a < hZ g → hN g' a = hN g a) (bR_ : ∀ f' a, a < hZ g → ¬ (f' = f ∧ a = z) → hR g' f' a = hR g f' a) (fr_ : ∀ i, hZ g + 1 ≤ i → hT g' i = hT g i) : AD g g' z f t := ⟨Z_, T_, R_, bI_, bL_, bA_, bB_, bC_, bT_, bN_, bR_, fr_⟩
theorem aA (g : PH) (z f t n : Nat) (hz : z < hZ g) : ∃ g', sR (nA g t n) f z (some (hZ g)) = g' ∧ AD g g' z f t ∧ hN g' (hZ g) = n ∧ ∀ i, hA g' (hZ g) i = 0 := by
  refine ⟨_, rfl, AD.mk rfl ?_ ?_ (fun _ _ _ => rfl) (fun _ _ _ => rfl) ?_ ?_ ?_ ?_ ?_ ?_ ?_, ?_, ?_⟩
  · rw [z_hT_sR, z_hT_nA, if_pos rfl]
  · rw [z_hR_sR, if_pos ⟨rfl, rfl⟩]
  · intro a i ha; rw [z_hA_sR, z_hA_nA, if_neg (by omega)]
  · intro a i ha; rw [z_hB_sR, z_hB_nA, if_neg (by omega)]
  · intro a i ha; rw [z_hC_sR, z_hC_nA, if_neg (by omega)]
  · intro a ha; rw [z_hT_sR, z_hT_nA, if_neg (by omega)]
  · intro a ha; rw [z_hN_sR, z_hN_nA, if_neg (by omega)]
  · intro f' a ha hn; rw [z_hR_sR, if_neg hn, z_hR_nA]
  · intro i hi; rw [z_hT_sR, z_hT_nA, if_neg (by omega)]
  · rw [z_hN_sR, z_hN_nA, if_pos rfl]
  · intro i; rw [z_hA_sR, z_hA_nA, if_pos rfl]
theorem aF (g : PH) (z f : Nat) (hz : z < hZ g) : ∃ g', sR (sL (nO g 4) 385 (hZ g) 1) f z (some (hZ g)) = g' ∧ AD g g' z f 4 := by
  refine ⟨_, rfl, AD.mk rfl ?_ ?_ ?_ ?_ (fun _ _ _ => rfl) (fun _ _ _ => rfl) (fun _ _ _ => rfl) ?_ (fun _ _ => rfl) ?_ ?_⟩
  · rw [z_hT_sR, z_hT_sL, z_hT_nO, if_pos rfl]
  · rw [z_hR_sR, if_pos ⟨rfl, rfl⟩]
  · intro f' a ha; rw [z_hI_sR, z_hI_sL, z_hI_nO, if_neg (by omega)]
  · intro f' a ha; rw [z_hL_sR, z_hL_sL, if_neg (by omega), z_hL_nO, if_neg (by omega)]
  · intro a ha; rw [z_hT_sR, z_hT_sL, z_hT_nO, if_neg (by omega)]
  · intro f' a ha hn; rw [z_hR_sR, if_neg hn, z_hR_sL, z_hR_nO, if_neg (by omega)]
  · intro i hi; rw [z_hT_sR, z_hT_sL, z_hT_nO, if_neg (by omega)]
theorem AD.be {h g g' : PH} {Z z f t : Nat} (a : AD g g' z f t) (b : BeL h g Z) (k : Z ≤ hZ g) (kz : Z ≤ z) : BeL h g' Z := BeL.mk (fun f x hx => (a.bI f x (by omega)).trans (b.I f x hx)) (fun f x hx => (a.bL f x (by omega)).trans (b.L f x hx)) (fun x i hx => (a.bA x i (by omega)).trans (b.A x i hx)) (fun x i hx => (a.bB x i (by omega)).trans (b.B x i hx)) (fun x hx => (a.bT x (by omega)).trans (b.T x hx)) (fun x hx => (a.bN x (by omega)).trans (b.N x hx)) (fun f x hx => (a.bR f x (by omega) (by omega)).trans (b.R f x hx)) (fun x i hx => (a.bC x i (by omega)).trans (b.C x i hx))
/-- what is kept from g to G', and of the fields up to f -/
def Kp (g G' : PH) (z f : Nat) : Prop := hZ g ≤ hZ G' ∧ (∀ a, a < hZ g → hT G' a = hT g a) ∧ (∀ a, a < hZ g → hN G' a = hN g a) ∧ (∀ a i, a < hZ g → hA G' a i = hA g a i) ∧ ∀ f', f' ≤ f → hR G' f' z = hR g f' z
theorem Kp.rf (g : PH) (z f : Nat) : Kp g g z f := ⟨Nat.le_refl _, fun _ _ => rfl, fun _ _ => rfl, fun _ _ _ => rfl, fun _ _ => rfl⟩
theorem AD.kp {g g' G' : PH} {z f t f0 f1 : Nat} (a : AD g g' z f t) (k : Kp g' G' z f1) (hz : z < hZ g) (h1 : f0 < f) (h2 : f ≤ f1) : Kp g G' z f0 := by
  obtain ⟨k0, k1, k2, k3, k4⟩ := k
  have zz := a.Z
  exact ⟨by omega, fun x hx => (k1 x (by omega)).trans (a.bT x hx), fun x hx => (k2 x (by omega)).trans (a.bN x hx), fun x i hx => (k3 x i (by omega)).trans (a.bA x i hx), fun f' hf => (k4 f' (by omega)).trans (a.bR f' z hz (by omega))⟩
theorem init3 (g : PH) : fX3_init (nO g 4) (hZ g) = some (sL (nO g 4) 385 (hZ g) 1) := by
  have t : hT (nO g 4) (hZ g) = 4 := by rw [z_hT_nO, if_pos rfl]
  rw [fX3_init, fX3_init_0, oC_d t, oL_v]
