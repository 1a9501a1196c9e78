/-! rows made one after another -/
theorem aA' (g : PH) (z f t n : Nat) : AD g (sR (nA g t n) f z (some (hZ g))) z f t ∧ hN (sR (nA g t n) f z (some (hZ g))) (hZ g) = n ∧ ∀ i, hA (sR (nA g t n) f z (some (hZ g))) (hZ g) i = 0 := by
  refine ⟨AD.mk rfl ?_ ?_ (fun _ _ _ => rfl) (fun _ _ _ => rfl) ?_ ?_ ?_ ?_ ?_ ?_ ?_, ?_, ?_⟩
  · rw [z_hT_sR, z_hT_nA, if_pos rfl]
  · rw [z_hR_sR, if_pos ⟨rfl, rfl⟩]
  · intro a i ha; rw [z_hA_sR, z_hA_nA, if_neg (by omega)]
  · intro a i ha; rw [z_hB_sR, z_hB_nA, if_neg (by omega)]
  · intro a i ha; rw [z_hC_sR, z_hC_nA, if_neg (by omega)]
  · intro a ha; rw [z_hT_sR, z_hT_nA, if_neg (by omega)]
  · intro a ha; rw [z_hN_sR, z_hN_nA, if_neg (by omega)]
  · intro f' a ha hn; rw [z_hR_sR, if_neg hn, z_hR_nA]
  · intro i hi; rw [z_hT_sR, z_hT_nA, if_neg (by omega)]
  · rw [z_hN_sR, z_hN_nA, if_pos rfl]
  · intro i; rw [z_hA_sR, z_hA_nA, if_pos rfl]
theorem aF' (g : PH) (z f : Nat) : AD g (sR (sL (nO g 4) 385 (hZ g) 1) f z (some (hZ g))) z f 4 := by
  refine AD.mk rfl ?_ ?_ ?_ ?_ (fun _ _ _ => rfl) (fun _ _ _ => rfl) (fun _ _ _ => rfl) ?_ (fun _ _ => rfl) ?_ ?_
  · rw [z_hT_sR, z_hT_sL, z_hT_nO, if_pos rfl]
  · rw [z_hR_sR, if_pos ⟨rfl, rfl⟩]
  · intro f' a ha; rw [z_hI_sR, z_hI_sL, z_hI_nO, if_neg (by omega)]
  · intro f' a ha; rw [z_hL_sR, z_hL_sL, if_neg (by omega), z_hL_nO, if_neg (by omega)]
  · intro a ha; rw [z_hT_sR, z_hT_sL, z_hT_nO, if_neg (by omega)]
  · intro f' a ha hn; rw [z_hR_sR, if_neg hn, z_hR_sL, z_hR_nO, if_neg (by omega)]
  · intro i hi; rw [z_hT_sR, z_hT_sL, z_hT_nO, if_neg (by omega)]
/-- a tower of rows over b, with their fields in z -/
def tA (b : PH) (z : Nat) (f t n : Nat → Nat) : Nat → PH
  | 0 => b
  | k + 1 => sR (nA (tA b z f t n k) (t k) (n k)) (f k) z (some (hZ (tA b z f t n k)))
theorem tA_s (b : PH) (z : Nat) (f t n : Nat → Nat) (k : Nat) : sR (nA (tA b z f t n k) (t k) (n k)) (f k) z (some (hZ (tA b z f t n k))) = tA b z f t n (k + 1) := rfl
theorem tA_Z (b : PH) (z : Nat) (f t n : Nat → Nat) : ∀ k, hZ (tA b z f t n k) = hZ b + k
  | 0 => rfl
  | k + 1 => by rw [← tA_s, (aA' (tA b z f t n k) z (f k) (t k) (n k)).1.Z, tA_Z b z f t n k]; omega
def TwA (b : PH) (g : PH) (z : Nat) (f : Nat → Nat) (t : Nat → Nat) (n : Nat → Nat) (k : Nat) : Prop := (∀ Z, Z ≤ hZ b → Z ≤ z → BeL b g Z) ∧ (∀ i, hZ b + k ≤ i → hT g i = hT b i) ∧ (∀ a, a < hZ b → hT g a = hT b a) ∧ (∀ f', (∀ j, j < k → f' ≠ f j) → hR g f' z = hR b f' z) ∧ (∀ j, j < k → hT g (hZ b + j) = t j ∧ hN g (hZ b + j) = n j ∧ (∀ i, hA g (hZ b + j) i = 0) ∧ hR g (f j) z = some (hZ b + j))
theorem TwA.be {b : PH} {g : PH} {z : Nat} {f : Nat → Nat} {t : Nat → Nat} {n : Nat → Nat} {k : Nat} (X_ : TwA b g z f t n k) : ∀ Z, Z ≤ hZ b → Z ≤ z → BeL b g Z := X_.1
theorem TwA.fr {b : PH} {g : PH} {z : Nat} {f : Nat → Nat} {t : Nat → Nat} {n : Nat → Nat} {k : Nat} (X_ : TwA b g z f t n k) : ∀ i, hZ b + k ≤ i → hT g i = hT b i := X_.2.1
theorem TwA.tz {b : PH} {g : PH} {z : Nat} {f : Nat → Nat} {t : Nat → Nat} {n : Nat → Nat} {k : Nat} (X_ : TwA b g z f t n k) : ∀ a, a < hZ b → hT g a = hT b a := X_.2.2.1
theorem TwA.rz {b : PH} {g : PH} {z : Nat} {f : Nat → Nat} {t : Nat → Nat} {n : Nat → Nat} {k : Nat} (X_ : TwA b g z f t n k) : ∀ f', (∀ j, j < k → f' ≠ f j) → hR g f' z = hR b f' z := X_.2.2.2.1
theorem TwA.T {b : PH} {g : PH} {z : Nat} {f : Nat → Nat} {t : Nat → Nat} {n : Nat → Nat} {k : Nat} (X_ : TwA b g z f t n k) : ∀ j, j < k → hT g (hZ b + j) = t j ∧ hN g (hZ b + j) = n j ∧ (∀ i, hA g (hZ b + j) i = 0) ∧ hR g (f j) z = some (hZ b + j) := X_.2.2.2.2
theorem TwA.mk {b : PH} {g : PH} {z : Nat} {f : Nat → Nat} {t : Nat → Nat} {n : Nat → Nat} {k : Nat} (be_ : ∀ Z, Z ≤ hZ b → Z ≤ z → BeL b g Z) (fr_ : ∀ i, hZ b + k ≤ i → hT g i = hT b i) (tz_ : ∀ a, a < hZ b → hT g a = hT b a) (rz_ : ∀ f', (∀ j, j < k → f' ≠ f j) → hR g f' z = hR b f' z) (T_ : ∀ j, j < k → hT g (hZ b + j) = t j ∧ hN g (hZ b + j) = n j ∧ (∀ i, hA g (hZ b + j) i = 0) ∧ hR g (f j) z = some (hZ b + j)) : TwA b g z f t n k := ⟨be_, fr_, tz_, rz_, T_⟩
theorem tA_v (b : PH) (z : Nat) (f t n : Nat → Nat) (hz : z < hZ b) : ∀ k, (∀ i j, i < k → j < k → f i = f j → i = j) → TwA b (tA b z f t n k) z f t n k
  | 0, _ => TwA.mk (fun Z _ _ => BeL.rf b Z) (fun _ _ => rfl) (fun _ _ => rfl) (fun _ _ => rfl) (fun j hj => by omega)
  | k + 1, inj => by
    have ih := tA_v b z f t n hz k (fun i j hi hj => inj i j (by omega) (by omega))
    have zk := tA_Z b z f t n k
    obtain ⟨A, an, aa⟩ := aA' (tA b z f t n k) z (f k) (t k) (n k)
    rw [tA_s] at A an aa
    apply TwA.mk
    · exact fun Z h1 h2 => A.be (ih.be Z h1 h2) (by omega) h2
    · intro i hi; rw [A.fr i (by omega), ih.fr i (by omega)]
    · intro a ha; rw [A.bT a (by omega), ih.tz a ha]
    · intro f' hf; rw [A.bR f' z (by omega) (fun e => hf k (by omega) e.1), ih.rz f' (fun j hj => hf j (by omega))]
    · intro j hj
      by_cases c : j = k
      · rw [c, ← zk]; exact ⟨A.T, an, aa, A.R⟩
      · obtain ⟨q1, q2, q3, q4⟩ := ih.T j (by omega)
        refine ⟨?_, ?_, ?_, ?_⟩
        · rw [A.bT _ (by omega)]; exact q1
        · rw [A.bN _ (by omega)]; exact q2
        · intro i; rw [A.bA _ _ (by omega)]; exact q3 i
        · rw [A.bR _ _ (by omega) (fun e => c (inj j k (by omega) (by omega) e.1))]; exact q4
def tF (b : PH) (z f : Nat) : Nat → PH
  | 0 => b
  | k + 1 => sR (sL (nO (tF b z f k) 4) 385 (hZ (tF b z f k)) 1) (f + k) z (some (hZ (tF b z f k)))
theorem tF_s (b : PH) (z f k : Nat) : sR (sL (nO (tF b z f k) 4) 385 (hZ (tF b z f k)) 1) (f + k) z (some (hZ (tF b z f k))) = tF b z f (k + 1) := rfl
theorem tF_Z (b : PH) (z f : Nat) : ∀ k, hZ (tF b z f k) = hZ b + k
  | 0 => rfl
  | k + 1 => by rw [← tF_s, (aF' (tF b z f k) z (f + k)).Z, tF_Z b z f k]; omega
def TwF (b : PH) (g : PH) (z : Nat) (f : Nat) (k : Nat) : Prop := (∀ Z, Z ≤ hZ b → Z ≤ z → BeL b g Z) ∧ (∀ i, hZ b + k ≤ i → hT g i = hT b i) ∧ (∀ a, a < hZ b → hT g a = hT b a ∧ hN g a = hN b a) ∧ (∀ f', f' < f → hR g f' z = hR b f' z) ∧ (∀ j, j < k → hT g (hZ b + j) = 4 ∧ hR g (f + j) z = some (hZ b + j))
theorem TwF.be {b : PH} {g : PH} {z : Nat} {f : Nat} {k : Nat} (X_ : TwF b g z f k) : ∀ Z, Z ≤ hZ b → Z ≤ z → BeL b g Z := X_.1
theorem TwF.fr {b : PH} {g : PH} {z : Nat} {f : Nat} {k : Nat} (X_ : TwF b g z f k) : ∀ i, hZ b + k ≤ i → hT g i = hT b i := X_.2.1
theorem TwF.tz {b : PH} {g : PH} {z : Nat} {f : Nat} {k : Nat} (X_ : TwF b g z f k) : ∀ a, a < hZ b → hT g a = hT b a ∧ hN g a = hN b a := X_.2.2.1
theorem TwF.rz {b : PH} {g : PH} {z : Nat} {f : Nat} {k : Nat} (X_ : TwF b g z f k) : ∀ f', f' < f → hR g f' z = hR b f' z := X_.2.2.2.1
theorem TwF.T {b : PH} {g : PH} {z : Nat} {f : Nat} {k : Nat} (X_ : TwF b g z f k) : ∀ j, j < k → hT g (hZ b + j) = 4 ∧ hR g (f + j) z = some (hZ b + j) := X_.2.2.2.2
theorem TwF.mk {b : PH} {g : PH} {z : Nat} {f : Nat} {k : Nat} (be_ : ∀ Z, Z ≤ hZ b → Z ≤ z → BeL b g Z) (fr_ : ∀ i, hZ b + k ≤ i → hT g i = hT b i) (tz_ : ∀ a, a < hZ b → hT g a = hT b a ∧ hN g a = hN b a) (rz_ : ∀ f', f' < f → hR g f' z = hR b f' z) (T_ : ∀ j, j < k → hT g (hZ b + j) = 4 ∧ hR g (f + j) z = some (hZ b + j)) : TwF b g z f k := ⟨be_, fr_, tz_, rz_, T_⟩
theorem tF_v (b : PH) (z f : Nat) (hz : z < hZ b) : ∀ k, TwF b (tF b z f k) z f k
  | 0 => TwF.mk (fun Z _ _ => BeL.rf b Z) (fun _ _ => rfl) (fun _ _ => ⟨rfl, rfl⟩) (fun _ _ => rfl) (fun j hj => by omega)
  | k + 1 => by
    have ih := tF_v b z f hz k
    have zk := tF_Z b z f k
    have A := aF' (tF b z f k) z (f + k)
    rw [tF_s] at A
    apply TwF.mk
    · exact fun Z h1 h2 => A.be (ih.be Z h1 h2) (by omega) h2
    · intro i hi; rw [A.fr i (by omega), ih.fr i (by omega)]
    · intro a ha; rw [A.bT a (by omega), A.bN a (by omega)]; exact ih.tz a ha
    · intro f' hf; rw [A.bR f' z (by omega) (by omega), ih.rz f' hf]
    · intro j hj
      by_cases c : j = k
      · rw [c, ← zk]; exact ⟨A.T, A.R⟩
      · obtain ⟨q1, q2⟩ := ih.T j (by omega)
        exact ⟨by rw [A.bT _ (by omega)]; exact q1, by rw [A.bR _ _ (by omega) (by omega)]; exact q2⟩
