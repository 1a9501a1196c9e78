theorem jF_n : ∀ j, j < 12 → jF j ≠ 640 ∧ jF j ≠ 641 ∧ jF j ≠ 1416 := by decide
def PJ (h : PH) (gp : PH) : Prop := (hZ gp = hZ h + 13) ∧ (BeL h gp (hZ h)) ∧ (∀ i, hZ h + 13 ≤ i → hT gp i = hT h i) ∧ (hT gp (hZ h) = 6) ∧ (hR gp 640 (hZ h) = some 5) ∧ (∀ j, j < 12 → hT gp (hZ h + (1 + j)) = jT j ∧ hN gp (hZ h + (1 + j)) = jL j ∧ (∀ i, hA gp (hZ h + (1 + j)) i = 0) ∧ hR gp (jF j) (hZ h) = some (hZ h + (1 + j)))
theorem PJ.z {h : PH} {gp : PH} (X_ : PJ h gp) : hZ gp = hZ h + 13 := X_.1
theorem PJ.b {h : PH} {gp : PH} (X_ : PJ h gp) : BeL h gp (hZ h) := X_.2.1
theorem PJ.fr {h : PH} {gp : PH} (X_ : PJ h gp) : ∀ i, hZ h + 13 ≤ i → hT gp i = hT h i := X_.2.2.1
theorem PJ.t0 {h : PH} {gp : PH} (X_ : PJ h gp) : hT gp (hZ h) = 6 := X_.2.2.2.1
theorem PJ.r {h : PH} {gp : PH} (X_ : PJ h gp) : hR gp 640 (hZ h) = some 5 := X_.2.2.2.2.1
theorem PJ.T {h : PH} {gp : PH} (X_ : PJ h gp) : ∀ j, j < 12 → hT gp (hZ h + (1 + j)) = jT j ∧ hN gp (hZ h + (1 + j)) = jL j ∧ (∀ i, hA gp (hZ h + (1 + j)) i = 0) ∧ hR gp (jF j) (hZ h) = some (hZ h + (1 + j)) := X_.2.2.2.2.2
theorem PJ.mk {h : PH} {gp : PH} (z_ : hZ gp = hZ h + 13) (b_ : BeL h gp (hZ h)) (fr_ : ∀ i, hZ h + 13 ≤ i → hT gp i = hT h i) (t0_ : hT gp (hZ h) = 6) (r_ : hR gp 640 (hZ h) = some 5) (T_ : ∀ j, j < 12 → hT gp (hZ h + (1 + j)) = jT j ∧ hN gp (hZ h + (1 + j)) = jL j ∧ (∀ i, hA gp (hZ h + (1 + j)) i = 0) ∧ hR gp (jF j) (hZ h) = some (hZ h + (1 + j))) : PJ h gp := ⟨z_, b_, fr_, t0_, r_, T_⟩
theorem PJ.of (h g : PH) (JT : TwA (nO h 6) g (hZ h) jF jT jL 12) (jz : hZ g = hZ (nO h 6) + 12) : PJ h (sR g 640 (hZ h) (some 5)) := by
  have nz : hZ (nO h 6) = hZ h + 1 := rfl
  have nb : BeL h (nO h 6) (hZ h) := (BeL.rf h (hZ h)).o' (t := 6) (Nat.le_refl _)
  have jb : BeL h g (hZ h) := nb.trans (JT.be (hZ h) (by omega) (Nat.le_refl _)) (Nat.le_refl _)
  apply PJ.mk
  · rw [z_hZ_sR]; omega
  · exact jb.sR' (Nat.le_refl _)
  · intro i hi; rw [z_hT_sR, JT.fr i (by omega), z_hT_nO, if_neg (by omega)]
  · rw [z_hT_sR, JT.tz (hZ h) (by omega), z_hT_nO, if_pos rfl]
  · rw [z_hR_sR, if_pos ⟨rfl, rfl⟩]
  · intro j hj
    obtain ⟨u1, u2, u3, u4⟩ := JT.T j hj
    have ea : hZ (nO h 6) + j = hZ h + (1 + j) := by omega
    rw [ea] at u1 u2 u3 u4
    refine ⟨by rw [z_hT_sR]; exact u1, by rw [z_hN_sR]; exact u2, fun i => by rw [z_hA_sR]; exact u3 i, ?_⟩
    rw [z_hR_sR, if_neg (fun e => (jF_n j hj).1 e.1)]; exact u4
theorem mkP_v (h : PH) : ∃ gp, sR (jt h 12) 640 (hZ h) (some 5) = gp ∧ PJ h gp := ⟨_, rfl, PJ.of h (jt h 12) (tA_v (nO h 6) (hZ h) jF jT jL (by show hZ h < hZ h + 1; omega) 12 (fun i j hi hj => jF_i i hi j hj)) (tA_Z (nO h 6) (hZ h) jF jT jL 12)⟩
def PR (g : PH) (gr : PH) : Prop := (hZ gr = hZ g + 8) ∧ (BeL g gr (hZ g)) ∧ (∀ i, hZ g + 8 ≤ i → hT gr i = hT g i) ∧ (hT gr (hZ g) = 7) ∧ (hR gr 768 (hZ g) = some 5) ∧ (∀ j, j < 2 → hT gr (hZ g + (1 + j)) = rT j ∧ hN gr (hZ g + (1 + j)) = rL j ∧ hR gr (rF j) (hZ g) = some (hZ g + (1 + j))) ∧ (∀ j, j < 5 → hT gr (hZ g + (3 + j)) = 4 ∧ hR gr (771 + j) (hZ g) = some (hZ g + (3 + j)))
theorem PR.z {g : PH} {gr : PH} (X_ : PR g gr) : hZ gr = hZ g + 8 := X_.1
theorem PR.b {g : PH} {gr : PH} (X_ : PR g gr) : BeL g gr (hZ g) := X_.2.1
theorem PR.fr {g : PH} {gr : PH} (X_ : PR g gr) : ∀ i, hZ g + 8 ≤ i → hT gr i = hT g i := X_.2.2.1
theorem PR.t0 {g : PH} {gr : PH} (X_ : PR g gr) : hT gr (hZ g) = 7 := X_.2.2.2.1
theorem PR.r {g : PH} {gr : PH} (X_ : PR g gr) : hR gr 768 (hZ g) = some 5 := X_.2.2.2.2.1
theorem PR.A {g : PH} {gr : PH} (X_ : PR g gr) : ∀ j, j < 2 → hT gr (hZ g + (1 + j)) = rT j ∧ hN gr (hZ g + (1 + j)) = rL j ∧ hR gr (rF j) (hZ g) = some (hZ g + (1 + j)) := X_.2.2.2.2.2.1
theorem PR.F {g : PH} {gr : PH} (X_ : PR g gr) : ∀ j, j < 5 → hT gr (hZ g + (3 + j)) = 4 ∧ hR gr (771 + j) (hZ g) = some (hZ g + (3 + j)) := X_.2.2.2.2.2.2
theorem PR.mk {g : PH} {gr : PH} (z_ : hZ gr = hZ g + 8) (b_ : BeL g gr (hZ g)) (fr_ : ∀ i, hZ g + 8 ≤ i → hT gr i = hT g i) (t0_ : hT gr (hZ g) = 7) (r_ : hR gr 768 (hZ g) = some 5) (A_ : ∀ j, j < 2 → hT gr (hZ g + (1 + j)) = rT j ∧ hN gr (hZ g + (1 + j)) = rL j ∧ hR gr (rF j) (hZ g) = some (hZ g + (1 + j))) (F_ : ∀ j, j < 5 → hT gr (hZ g + (3 + j)) = 4 ∧ hR gr (771 + j) (hZ g) = some (hZ g + (3 + j))) : PR g gr := ⟨z_, b_, fr_, t0_, r_, A_, F_⟩
theorem rF_n : ∀ j, j < 2 → rF j < 771 ∧ rF j ≠ 768 := by decide
theorem PR.of (g x y : PH) (RT : TwA (nO g 7) x (hZ g) rF rT rL 2) (xz : hZ x = hZ (nO g 7) + 2) (RF' : TwF x y (hZ g) 771 5) (yz : hZ y = hZ x + 5) : PR g (sR y 768 (hZ g) (some 5)) := by
  have nz : hZ (nO g 7) = hZ g + 1 := rfl
  have nb : BeL g (nO g 7) (hZ g) := (BeL.rf g (hZ g)).o' (t := 7) (Nat.le_refl _)
  have rb : BeL g y (hZ g) := (nb.trans (RT.be (hZ g) (by omega) (Nat.le_refl _)) (Nat.le_refl _)).trans (RF'.be (hZ g) (by omega) (Nat.le_refl _)) (Nat.le_refl _)
  apply PR.mk
  · rw [z_hZ_sR]; omega
  · exact rb.sR' (Nat.le_refl _)
  · intro i hi; rw [z_hT_sR, RF'.fr i (by omega), RT.fr i (by omega), z_hT_nO, if_neg (by omega)]
  · rw [z_hT_sR, (RF'.tz _ (by omega)).1, RT.tz _ (by omega), z_hT_nO, if_pos rfl]
  · rw [z_hR_sR, if_pos ⟨rfl, rfl⟩]
  · intro j hj
    obtain ⟨u1, u2, _, u4⟩ := RT.T j hj
    have ea : hZ (nO g 7) + j = hZ g + (1 + j) := by omega
    rw [ea] at u1 u2 u4
    have n := rF_n j hj
    refine ⟨?_, ?_, ?_⟩
    · rw [z_hT_sR, (RF'.tz _ (by omega)).1]; exact u1
    · rw [z_hN_sR, (RF'.tz _ (by omega)).2]; exact u2
    · rw [z_hR_sR, if_neg (fun e => n.2 e.1), RF'.rz _ n.1]; exact u4
  · intro j hj
    obtain ⟨u1, u2⟩ := RF'.T j hj
    have ea : hZ x + j = hZ g + (3 + j) := by omega
    rw [ea] at u1 u2
    exact ⟨by rw [z_hT_sR]; exact u1, by rw [z_hR_sR, if_neg (by omega)]; exact u2⟩
theorem mkR_v (g : PH) : ∃ gr, sR (rt2 g 5) 768 (hZ g) (some 5) = gr ∧ PR g gr := ⟨_, rfl, PR.of g (rtw g 2) (rt2 g 5) (rtw_v g) (tA_Z (nO g 7) (hZ g) rF rT rL 2) (rt2_v g 5) (tF_Z (rtw g 2) (hZ g) 771 5)⟩
