/-- where the parts lie -/
def mOf (i : Nat) : Nat := if i = 0 then 0 else if i ≤ 8 then 12 + i else if i ≤ 20 then i - 8 else i - 79
def mIv (k : Nat) : Nat := if k = 0 then 0 else if k ≤ 12 then k + 8 else if k ≤ 20 then k - 12 else k + 79
theorem mIv_Of {i : Nat} (h : i < 21 ∨ (100 ≤ i ∧ i < 124)) : mIv (mOf i) = i := by
  unfold mIv mOf
  by_cases c0 : i = 0
  · rw [if_pos c0, if_pos rfl, c0]
  rw [if_neg c0]
  by_cases c1 : i ≤ 8
  · rw [if_pos c1, if_neg (by omega), if_neg (by omega), if_pos (by omega)]; omega
  rw [if_neg c1]
  by_cases c2 : i ≤ 20
  · rw [if_pos c2, if_neg (by omega), if_pos (by omega)]; omega
  rw [if_neg c2, if_neg (by omega), if_neg (by omega), if_neg (by omega)]; omega
def mOw (h : PH) (G : Gh) (a : Nat) : Nat := if a < hZ h then G.ow a else 500000 + mIv (a - hZ h)
def mG (h : PH) (G : Gh) : Gh := Gh.mk G.tk G.wk G.kd G.st G.vl G.pg G.rl G.ca G.hd G.cd G.nr G.nc G.te G.nt true (fun i => hZ h + mOf i) (mOw h G)
/-- the made heap -/
def MadeJ (h : PH) (h' : PH) : Prop := (hZ h' = hZ h + 45) ∧ (∀ f a, a < hZ h → hI h' f a = hI h f a) ∧ (∀ f a, a < hZ h → hL h' f a = hL h f a) ∧ (∀ a i, a < hZ h → hA h' a i = hA h a i) ∧ (∀ a i, a < hZ h → hB h' a i = hB h a i) ∧ (∀ a, a < hZ h → hT h' a = hT h a) ∧ (∀ a, a < hZ h → hN h' a = hN h a) ∧ (∀ f a, a < hZ h → ¬ (f = 1416 ∧ a = 0) → hR h' f a = hR h f a) ∧ (∀ a i, a < hZ h → hC h' a i = hC h a i) ∧ (∀ i, hZ h + 45 ≤ i → hT h' i = hT h i) ∧ (hR h' 1416 0 = some (hZ h)) ∧ (hT h' (hZ h) = 6) ∧ (hT h' (hZ h + 1) = 101 ∧ hN h' (hZ h + 1) = 600 ∧ hR h' 645 (hZ h) = some (hZ h + 1)) ∧ (hT h' (hZ h + 2) = 100 ∧ hN h' (hZ h + 2) = 600 ∧ hR h' 646 (hZ h) = some (hZ h + 2)) ∧ (hT h' (hZ h + 3) = 101 ∧ hN h' (hZ h + 3) = 600 ∧ hR h' 647 (hZ h) = some (hZ h + 3)) ∧ (hT h' (hZ h + 4) = 101 ∧ hN h' (hZ h + 4) = 600 ∧ hR h' 648 (hZ h) = some (hZ h + 4)) ∧ (hT h' (hZ h + 5) = 101 ∧ hN h' (hZ h + 5) = 600 ∧ hR h' 649 (hZ h) = some (hZ h + 5)) ∧ (hT h' (hZ h + 6) = 101 ∧ hN h' (hZ h + 6) = 30 ∧ hR h' 650 (hZ h) = some (hZ h + 6)) ∧ (hT h' (hZ h + 7) = 101 ∧ hN h' (hZ h + 7) = 32 ∧ hR h' 652 (hZ h) = some (hZ h + 7)) ∧ (hT h' (hZ h + 8) = 101 ∧ hN h' (hZ h + 8) = 32 ∧ hR h' 653 (hZ h) = some (hZ h + 8)) ∧ (hT h' (hZ h + 9) = 100 ∧ hN h' (hZ h + 9) = 32 ∧ hR h' 654 (hZ h) = some (hZ h + 9)) ∧ (hT h' (hZ h + 10) = 101 ∧ hN h' (hZ h + 10) = 4 ∧ hR h' 656 (hZ h) = some (hZ h + 10)) ∧ (hT h' (hZ h + 11) = 101 ∧ hN h' (hZ h + 11) = 20 ∧ hR h' 657 (hZ h) = some (hZ h + 11)) ∧ (hT h' (hZ h + 12) = 102 ∧ hN h' (hZ h + 12) = 40 ∧ hR h' 658 (hZ h) = some (hZ h + 12)) ∧ (hT h' (hZ h + 13) = 7 ∧ hR h' 640 (hZ h) = some 5 ∧ hR h' 641 (hZ h) = some (hZ h + 13) ∧ hR h' 768 (hZ h + 13) = some 5) ∧ (hT h' (hZ h + 14) = 101 ∧ hN h' (hZ h + 14) = 8 ∧ hR h' 769 (hZ h + 13) = some (hZ h + 14)) ∧ (hT h' (hZ h + 15) = 107 ∧ hN h' (hZ h + 15) = 24 ∧ hR h' 770 (hZ h + 13) = some (hZ h + 15)) ∧ (hT h' (hZ h + 16) = 4 ∧ hR h' 771 (hZ h + 13) = some (hZ h + 16)) ∧ (hT h' (hZ h + 17) = 4 ∧ hR h' 772 (hZ h + 13) = some (hZ h + 17)) ∧ (hT h' (hZ h + 18) = 4 ∧ hR h' 773 (hZ h + 13) = some (hZ h + 18)) ∧ (hT h' (hZ h + 19) = 4 ∧ hR h' 774 (hZ h + 13) = some (hZ h + 19)) ∧ (hT h' (hZ h + 20) = 4 ∧ hR h' 775 (hZ h + 13) = some (hZ h + 20)) ∧ (∀ i, i < 24 → hT h' (hZ h + 21 + i) = 4 ∧ hC h' (hZ h + 15) i = some (hZ h + 21 + i)) ∧ (∀ p, p < 5 → hA h' (hZ h + 14) p = nI p) ∧ (∀ i, hA h' (hZ h + 9) i = 0)
theorem MadeJ.z {h : PH} {h' : PH} (X_ : MadeJ h h') : hZ h' = hZ h + 45 := X_.1
theorem MadeJ.I {h : PH} {h' : PH} (X_ : MadeJ h h') : ∀ f a, a < hZ h → hI h' f a = hI h f a := X_.2.1
theorem MadeJ.L {h : PH} {h' : PH} (X_ : MadeJ h h') : ∀ f a, a < hZ h → hL h' f a = hL h f a := X_.2.2.1
theorem MadeJ.A {h : PH} {h' : PH} (X_ : MadeJ h h') : ∀ a i, a < hZ h → hA h' a i = hA h a i := X_.2.2.2.1
theorem MadeJ.B {h : PH} {h' : PH} (X_ : MadeJ h h') : ∀ a i, a < hZ h → hB h' a i = hB h a i := X_.2.2.2.2.1
theorem MadeJ.T {h : PH} {h' : PH} (X_ : MadeJ h h') : ∀ a, a < hZ h → hT h' a = hT h a := X_.2.2.2.2.2.1
theorem MadeJ.N {h : PH} {h' : PH} (X_ : MadeJ h h') : ∀ a, a < hZ h → hN h' a = hN h a := X_.2.2.2.2.2.2.1
theorem MadeJ.R {h : PH} {h' : PH} (X_ : MadeJ h h') : ∀ f a, a < hZ h → ¬ (f = 1416 ∧ a = 0) → hR h' f a = hR h f a := X_.2.2.2.2.2.2.2.1
theorem MadeJ.C {h : PH} {h' : PH} (X_ : MadeJ h h') : ∀ a i, a < hZ h → hC h' a i = hC h a i := X_.2.2.2.2.2.2.2.2.1
theorem MadeJ.fr {h : PH} {h' : PH} (X_ : MadeJ h h') : ∀ i, hZ h + 45 ≤ i → hT h' i = hT h i := X_.2.2.2.2.2.2.2.2.2.1
theorem MadeJ.r16 {h : PH} {h' : PH} (X_ : MadeJ h h') : hR h' 1416 0 = some (hZ h) := X_.2.2.2.2.2.2.2.2.2.2.1
theorem MadeJ.T0 {h : PH} {h' : PH} (X_ : MadeJ h h') : hT h' (hZ h) = 6 := X_.2.2.2.2.2.2.2.2.2.2.2.1
theorem MadeJ.T1 {h : PH} {h' : PH} (X_ : MadeJ h h') : hT h' (hZ h + 1) = 101 ∧ hN h' (hZ h + 1) = 600 ∧ hR h' 645 (hZ h) = some (hZ h + 1) := X_.2.2.2.2.2.2.2.2.2.2.2.2.1
theorem MadeJ.T2 {h : PH} {h' : PH} (X_ : MadeJ h h') : hT h' (hZ h + 2) = 100 ∧ hN h' (hZ h + 2) = 600 ∧ hR h' 646 (hZ h) = some (hZ h + 2) := X_.2.2.2.2.2.2.2.2.2.2.2.2.2.1
theorem MadeJ.T3' {h : PH} {h' : PH} (X_ : MadeJ h h') : hT h' (hZ h + 3) = 101 ∧ hN h' (hZ h + 3) = 600 ∧ hR h' 647 (hZ h) = some (hZ h + 3) := X_.2.2.2.2.2.2.2.2.2.2.2.2.2.2.1
theorem MadeJ.T4 {h : PH} {h' : PH} (X_ : MadeJ h h') : hT h' (hZ h + 4) = 101 ∧ hN h' (hZ h + 4) = 600 ∧ hR h' 648 (hZ h) = some (hZ h + 4) := X_.2.2.2.2.2.2.2.2.2.2.2.2.2.2.2.1
theorem MadeJ.T5 {h : PH} {h' : PH} (X_ : MadeJ h h') : hT h' (hZ h + 5) = 101 ∧ hN h' (hZ h + 5) = 600 ∧ hR h' 649 (hZ h) = some (hZ h + 5) := X_.2.2.2.2.2.2.2.2.2.2.2.2.2.2.2.2.1
theorem MadeJ.T6 {h : PH} {h' : PH} (X_ : MadeJ h h') : hT h' (hZ h + 6) = 101 ∧ hN h' (hZ h + 6) = 30 ∧ hR h' 650 (hZ h) = some (hZ h + 6) := X_.2.2.2.2.2.2.2.2.2.2.2.2.2.2.2.2.2.1
theorem MadeJ.T7 {h : PH} {h' : PH} (X_ : MadeJ h h') : hT h' (hZ h + 7) = 101 ∧ hN h' (hZ h + 7) = 32 ∧ hR h' 652 (hZ h) = some (hZ h + 7) := X_.2.2.2.2.2.2.2.2.2.2.2.2.2.2.2.2.2.2.1
theorem MadeJ.T8 {h : PH} {h' : PH} (X_ : MadeJ h h') : hT h' (hZ h + 8) = 101 ∧ hN h' (hZ h + 8) = 32 ∧ hR h' 653 (hZ h) = some (hZ h + 8) := X_.2.2.2.2.2.2.2.2.2.2.2.2.2.2.2.2.2.2.2.1
theorem MadeJ.T9 {h : PH} {h' : PH} (X_ : MadeJ h h') : hT h' (hZ h + 9) = 100 ∧ hN h' (hZ h + 9) = 32 ∧ hR h' 654 (hZ h) = some (hZ h + 9) := X_.2.2.2.2.2.2.2.2.2.2.2.2.2.2.2.2.2.2.2.2.1
theorem MadeJ.T10 {h : PH} {h' : PH} (X_ : MadeJ h h') : hT h' (hZ h + 10) = 101 ∧ hN h' (hZ h + 10) = 4 ∧ hR h' 656 (hZ h) = some (hZ h + 10) := X_.2.2.2.2.2.2.2.2.2.2.2.2.2.2.2.2.2.2.2.2.2.1
theorem MadeJ.T11 {h : PH} {h' : PH} (X_ : MadeJ h h') : hT h' (hZ h + 11) = 101 ∧ hN h' (hZ h + 11) = 20 ∧ hR h' 657 (hZ h) = some (hZ h + 11) := X_.2.2.2.2.2.2.2.2.2.2.2.2.2.2.2.2.2.2.2.2.2.2.1
theorem MadeJ.T12 {h : PH} {h' : PH} (X_ : MadeJ h h') : hT h' (hZ h + 12) = 102 ∧ hN h' (hZ h + 12) = 40 ∧ hR h' 658 (hZ h) = some (hZ h + 12) := X_.2.2.2.2.2.2.2.2.2.2.2.2.2.2.2.2.2.2.2.2.2.2.2.1
theorem MadeJ.T13 {h : PH} {h' : PH} (X_ : MadeJ h h') : hT h' (hZ h + 13) = 7 ∧ hR h' 640 (hZ h) = some 5 ∧ hR h' 641 (hZ h) = some (hZ h + 13) ∧ hR h' 768 (hZ h + 13) = some 5 := X_.2.2.2.2.2.2.2.2.2.2.2.2.2.2.2.2.2.2.2.2.2.2.2.2.1
theorem MadeJ.T14 {h : PH} {h' : PH} (X_ : MadeJ h h') : hT h' (hZ h + 14) = 101 ∧ hN h' (hZ h + 14) = 8 ∧ hR h' 769 (hZ h + 13) = some (hZ h + 14) := X_.2.2.2.2.2.2.2.2.2.2.2.2.2.2.2.2.2.2.2.2.2.2.2.2.2.1
theorem MadeJ.T15 {h : PH} {h' : PH} (X_ : MadeJ h h') : hT h' (hZ h + 15) = 107 ∧ hN h' (hZ h + 15) = 24 ∧ hR h' 770 (hZ h + 13) = some (hZ h + 15) := X_.2.2.2.2.2.2.2.2.2.2.2.2.2.2.2.2.2.2.2.2.2.2.2.2.2.2.1
theorem MadeJ.T16 {h : PH} {h' : PH} (X_ : MadeJ h h') : hT h' (hZ h + 16) = 4 ∧ hR h' 771 (hZ h + 13) = some (hZ h + 16) := X_.2.2.2.2.2.2.2.2.2.2.2.2.2.2.2.2.2.2.2.2.2.2.2.2.2.2.2.1
theorem MadeJ.T17 {h : PH} {h' : PH} (X_ : MadeJ h h') : hT h' (hZ h + 17) = 4 ∧ hR h' 772 (hZ h + 13) = some (hZ h + 17) := X_.2.2.2.2.2.2.2.2.2.2.2.2.2.2.2.2.2.2.2.2.2.2.2.2.2.2.2.2.1
theorem MadeJ.T18 {h : PH} {h' : PH} (X_ : MadeJ h h') : hT h' (hZ h + 18) = 4 ∧ hR h' 773 (hZ h + 13) = some (hZ h + 18) := X_.2.2.2.2.2.2.2.2.2.2.2.2.2.2.2.2.2.2.2.2.2.2.2.2.2.2.2.2.2.1
theorem MadeJ.T19 {h : PH} {h' : PH} (X_ : MadeJ h h') : hT h' (hZ h + 19) = 4 ∧ hR h' 774 (hZ h + 13) = some (hZ h + 19) := X_.2.2.2.2.2.2.2.2.2.2.2.2.2.2.2.2.2.2.2.2.2.2.2.2.2.2.2.2.2.2.1
theorem MadeJ.T20 {h : PH} {h' : PH} (X_ : MadeJ h h') : hT h' (hZ h + 20) = 4 ∧ hR h' 775 (hZ h + 13) = some (hZ h + 20) := X_.2.2.2.2.2.2.2.2.2.2.2.2.2.2.2.2.2.2.2.2.2.2.2.2.2.2.2.2.2.2.2.1
theorem MadeJ.TF {h : PH} {h' : PH} (X_ : MadeJ h h') : ∀ i, i < 24 → hT h' (hZ h + 21 + i) = 4 ∧ hC h' (hZ h + 15) i = some (hZ h + 21 + i) := X_.2.2.2.2.2.2.2.2.2.2.2.2.2.2.2.2.2.2.2.2.2.2.2.2.2.2.2.2.2.2.2.2.1
theorem MadeJ.wh {h : PH} {h' : PH} (X_ : MadeJ h h') : ∀ p, p < 5 → hA h' (hZ h + 14) p = nI p := X_.2.2.2.2.2.2.2.2.2.2.2.2.2.2.2.2.2.2.2.2.2.2.2.2.2.2.2.2.2.2.2.2.2.1
theorem MadeJ.a9 {h : PH} {h' : PH} (X_ : MadeJ h h') : ∀ i, hA h' (hZ h + 9) i = 0 := X_.2.2.2.2.2.2.2.2.2.2.2.2.2.2.2.2.2.2.2.2.2.2.2.2.2.2.2.2.2.2.2.2.2.2
theorem MadeJ.mk {h : PH} {h' : PH} (z_ : hZ h' = hZ h + 45) (I_ : ∀ f a, a < hZ h → hI h' f a = hI h f a) (L_ : ∀ f a, a < hZ h → hL h' f a = hL h f a) (A_ : ∀ a i, a < hZ h → hA h' a i = hA h a i) (B_ : ∀ a i, a < hZ h → hB h' a i = hB h a i) (T_ : ∀ a, a < hZ h → hT h' a = hT h a) (N_ : ∀ a, a < hZ h → hN h' a = hN h a) (R_ : ∀ f a, a < hZ h → ¬ (f = 1416 ∧ a = 0) → hR h' f a = hR h f a) (C_ : ∀ a i, a < hZ h → hC h' a i = hC h a i) (fr_ : ∀ i, hZ h + 45 ≤ i → hT h' i = hT h i) (r16_ : hR h' 1416 0 = some (hZ h)) (T0_ : hT h' (hZ h) = 6) (T1_ : hT h' (hZ h + 1) = 101 ∧ hN h' (hZ h + 1) = 600 ∧ hR h' 645 (hZ h) = some (hZ h + 1)) (T2_ : hT h' (hZ h + 2) = 100 ∧ hN h' (hZ h + 2) = 600 ∧ hR h' 646 (hZ h) = some (hZ h + 2)) (T3'_ : hT h' (hZ h + 3) = 101 ∧ hN h' (hZ h + 3) = 600 ∧ hR h' 647 (hZ h) = some (hZ h + 3)) (T4_ : hT h' (hZ h + 4) = 101 ∧ hN h' (hZ h + 4) = 600 ∧ hR h' 648 (hZ h) = some (hZ h + 4)) (T5_ : hT h' (hZ h + 5) = 101 ∧ hN h' (hZ h + 5) = 600 ∧ hR h' 649 (hZ h) = some (hZ h + 5)) (T6_ : hT h' (hZ h + 6) = 101 ∧ hN h' (hZ h + 6) = 30 ∧ hR h' 650 (hZ h) = some (hZ h + 6)) (T7_ : hT h' (hZ h + 7) = 101 ∧ hN h' (hZ h + 7) = 32 ∧ hR h' 652 (hZ h) = some (hZ h + 7)) (T8_ : hT h' (hZ h + 8) = 101 ∧ hN h' (hZ h + 8) = 32 ∧ hR h' 653 (hZ h) = some (hZ h + 8)) (T9_ : hT h' (hZ h + 9) = 100 ∧ hN h' (hZ h + 9) = 32 ∧ hR h' 654 (hZ h) = some (hZ h + 9)) (T10_ : hT h' (hZ h + 10) = 101 ∧ hN h' (hZ h + 10) = 4 ∧ hR h' 656 (hZ h) = some (hZ h + 10)) (T11_ : hT h' (hZ h + 11) = 101 ∧ hN h' (hZ h + 11) = 20 ∧ hR h' 657 (hZ h) = some (hZ h + 11)) (T12_ : hT h' (hZ h + 12) = 102 ∧ hN h' (hZ h + 12) = 40 ∧ hR h' 658 (hZ h) = some (hZ h + 12)) (T13_ : hT h' (hZ h + 13) = 7 ∧ hR h' 640 (hZ h) = some 5 ∧ hR h' 641 (hZ h) = some (hZ h + 13) ∧ hR h' 768 (hZ h + 13) = some 5) (T14_ : hT h' (hZ h + 14) = 101 ∧ hN h' (hZ h + 14) = 8 ∧ hR h' 769 (hZ h + 13) = some (hZ h + 14)) (T15_ : hT h' (hZ h + 15) = 107 ∧ hN h' (hZ h + 15) = 24 ∧ hR h' 770 (hZ h + 13) = some (hZ h + 15)) (T16_ : hT h' (hZ h + 16) = 4 ∧ hR h' 771 (hZ h + 13) = some (hZ h + 16)) (T17_ : hT h' (hZ h + 17) = 4 ∧ hR h' 772 (hZ h + 13) = some (hZ h + 17)) (T18_ : hT h' (hZ h + 18) = 4 ∧ hR h' 773 (hZ h + 13) = some (hZ h + 18)) (T19_ : hT h' (hZ h + 19) = 4 ∧ hR h' 774 (hZ h + 13) = some (hZ h + 19)) (T20_ : hT h' (hZ h + 20) = 4 ∧ hR h' 775 (hZ h + 13) = some (hZ h + 20)) (TF_ : ∀ i, i < 24 → hT h' (hZ h + 21 + i) = 4 ∧ hC h' (hZ h + 15) i = some (hZ h + 21 + i)) (wh_ : ∀ p, p < 5 → hA h' (hZ h + 14) p = nI p) (a9_ : ∀ i, hA h' (hZ h + 9) i = 0) : MadeJ h h' := ⟨z_, I_, L_, A_, B_, T_, N_, R_, C_, fr_, r16_, T0_, T1_, T2_, T3'_, T4_, T5_, T6_, T7_, T8_, T9_, T10_, T11_, T12_, T13_, T14_, T15_, T16_, T17_, T18_, T19_, T20_, TF_, wh_, a9_⟩
theorem MadeJ.ju {h h' : PH} {G : Gh} (M : MadeJ h h') : JU' (hR h') (hC h') (hT h') (hN h') (hZ h') (mOw h G) true (fun i => hZ h + mOf i) := by
  apply JU'.mk
  · exact fun J => absurd J (by decide)
  · exact fun _ => M.r16
  · exact fun _ => M.T0
  · exact fun _ => M.T13.1
  · exact fun _ => M.T14.1
  · exact fun _ => M.T15.1
  · exact fun _ => M.T16.1
  · exact fun _ => M.T17.1
  · exact fun _ => M.T18.1
  · exact fun _ => M.T19.1
  · exact fun _ => M.T20.1
  · exact fun _ => M.T1.1
  · exact fun _ => M.T2.1
  · exact fun _ => M.T3'.1
  · exact fun _ => M.T4.1
  · exact fun _ => M.T5.1
  · exact fun _ => M.T6.1
  · exact fun _ => M.T7.1
  · exact fun _ => M.T8.1
  · exact fun _ => M.T9.1
  · exact fun _ => M.T10.1
  · exact fun _ => M.T11.1
  · exact fun _ => M.T12.1
  · exact fun _ => M.T14.2.1
  · exact fun _ => M.T15.2.1
  · exact fun _ => M.T1.2.1
  · exact fun _ => M.T2.2.1
  · exact fun _ => M.T3'.2.1
  · exact fun _ => M.T4.2.1
  · exact fun _ => M.T5.2.1
  · exact fun _ => M.T6.2.1
  · exact fun _ => M.T10.2.1
  · exact fun _ => M.T11.2.1
  · exact fun _ => M.T12.2.1
  · exact fun _ => M.T13.2.1
  · exact fun _ => M.T13.2.2.1
  · exact fun _ => M.T13.2.2.2
  · exact fun _ => M.T14.2.2
  · exact fun _ => M.T15.2.2
  · exact fun _ => M.T16.2
  · exact fun _ => M.T17.2
  · exact fun _ => M.T18.2
  · exact fun _ => M.T19.2
  · exact fun _ => M.T20.2
  · exact fun _ => M.T1.2.2
  · exact fun _ => M.T2.2.2
  · exact fun _ => M.T3'.2.2
  · exact fun _ => M.T4.2.2
  · exact fun _ => M.T5.2.2
  · exact fun _ => M.T6.2.2
  · exact fun _ => M.T7.2.2
  · exact fun _ => M.T8.2.2
  · exact fun _ => M.T9.2.2
  · exact fun _ => M.T10.2.2
  · exact fun _ => M.T11.2.2
  · exact fun _ => M.T12.2.2
  · intro _ i hi
    show mOw h G (hZ h + mOf i) = 500000 + i
    unfold mOw
    rw [if_neg (by omega), Nat.add_sub_cancel_left, mIv_Of hi]
  · intro _ i hi
    show hC h' (hZ h + 15) i = some (hZ h + mOf (100 + i))
    rw [(M.TF i hi).2]
    unfold mOf
    rw [if_neg (by omega), if_neg (by omega), if_neg (by omega)]
    congr 1; omega
  · intro _ i hi
    show hT h' (hZ h + mOf (100 + i)) = 4
    have e : hZ h + mOf (100 + i) = hZ h + 21 + i := by unfold mOf; rw [if_neg (by omega), if_neg (by omega), if_neg (by omega)]; omega
    rw [e]; exact (M.TF i hi).1
theorem MadeJ.sx {h h' : PH} {G : Gh} (M : MadeJ h h') (S : SX h G) : SX h' (mG h G) := by
  have zz := S.zz
  have ho : ∀ a, a < hZ h → mOw h G a = G.ow a := fun a ha => if_pos ha
  have fs : ∀ f a, a < hZ h → fS f → hR h' f a = hR h f a := fun f a ha hf => M.R f a ha (fun e => by unfold fS at hf; omega)
  have fr' : ∀ i, hZ h' ≤ i → hT h' i = 0 := fun i hi => by rw [M.fr i (by have := M.z; omega)]; exact S.fr i (by have := M.z; omega)
  have r : ∀ f a, a < hZ h → f ≠ 1416 → hR h' f a = hR h f a := fun f a ha hf => M.R f a ha (fun e => hf e.1)
  exact SX'.mk (SS'.step S.ss M.T M.N ho fs (by have := M.z; omega) fr') (RU'.step S.ru S.fr zz M.T M.N ho fs (fun a i ha _ => M.C a i ha)) (TE'.step (SX'.te (G := G) S) S.fr M.T M.N ho fs (fun i _ => M.C 31 i (by omega))) M.ju (P6.step (SX'.tk (G := G) S) (by omega) S.fr M.T ho (r _ _ (by omega) (by decide))) (P6.step (SX'.wk (G := G) S) (by omega) S.fr M.T ho (r _ _ (by omega) (by decide))) (P6.step (SX'.pg (G := G) S) (by omega) S.fr M.T ho (r _ _ (by omega) (by decide))) (P6.step (SX'.kd (G := G) S) (by omega) S.fr M.T ho (r _ _ (by omega) (by decide))) (P6.step (SX'.st (G := G) S) (by omega) S.fr M.T ho (r _ _ (by omega) (by decide))) (P6.step (SX'.vl (G := G) S) (by omega) S.fr M.T ho (r _ _ (by omega) (by decide)))
