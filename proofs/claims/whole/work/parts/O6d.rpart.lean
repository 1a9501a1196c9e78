def rF (k : Nat) : Nat := [769, 770].getD k 0
def rT (k : Nat) : Nat := [101, 107].getD k 0
def rL (k : Nat) : Nat := [8, 24].getD k 0
theorem rF_i : ∀ i, i < 2 → ∀ j, j < 2 → rF i = rF j → i = j := by decide
def rtw (g : PH) (k : Nat) : PH := tA (nO g 7) (hZ g) rF rT rL k
def rt2 (g : PH) (k : Nat) : PH := tF (rtw g 2) (hZ g) 771 k
theorem rtw_0 (g : PH) : sR (nA (rtw g 0) 101 (Int32.toNatClampNeg 8)) 769 (hZ g) (some (hZ (rtw g 0))) = rtw g 1 := rfl
theorem rtw_1 (g : PH) : sR (nA (rtw g 1) 107 (Int32.toNatClampNeg 24)) 770 (hZ g) (some (hZ (rtw g 1))) = rt2 g 0 := rfl
theorem rt2_0 (g : PH) : sR (sL (nO (rt2 g 0) 4) 385 (hZ (rt2 g 0)) 1) 771 (hZ g) (some (hZ (rt2 g 0))) = rt2 g 1 := rfl
theorem rt2_1 (g : PH) : sR (sL (nO (rt2 g 1) 4) 385 (hZ (rt2 g 1)) 1) 772 (hZ g) (some (hZ (rt2 g 1))) = rt2 g 2 := rfl
theorem rt2_2 (g : PH) : sR (sL (nO (rt2 g 2) 4) 385 (hZ (rt2 g 2)) 1) 773 (hZ g) (some (hZ (rt2 g 2))) = rt2 g 3 := rfl
theorem rt2_3 (g : PH) : sR (sL (nO (rt2 g 3) 4) 385 (hZ (rt2 g 3)) 1) 774 (hZ g) (some (hZ (rt2 g 3))) = rt2 g 4 := rfl
theorem rt2_4 (g : PH) : sR (sL (nO (rt2 g 4) 4) 385 (hZ (rt2 g 4)) 1) 775 (hZ g) (some (hZ (rt2 g 4))) = rt2 g 5 := rfl
theorem rtw_Z (g : PH) (k : Nat) : hZ (rtw g k) = hZ g + 1 + k := tA_Z (nO g 7) (hZ g) rF rT rL k
theorem rt2_Z (g : PH) (k : Nat) : hZ (rt2 g k) = hZ g + 3 + k := (tF_Z (rtw g 2) (hZ g) 771 k).trans (by rw [rtw_Z])
theorem rtw_v (g : PH) : TwA (nO g 7) (rtw g 2) (hZ g) rF rT rL 2 := tA_v (nO g 7) (hZ g) rF rT rL (by show hZ g < hZ g + 1; omega) 2 (fun i j hi hj => rF_i i hi j hj)
theorem rt2_v (g : PH) (k : Nat) : TwF (rtw g 2) (rt2 g k) (hZ g) 771 k := tF_v (rtw g 2) (hZ g) 771 (by rw [rtw_Z]; omega) k
theorem rt2_7 (g : PH) (k : Nat) : hT (rt2 g k) (hZ g) = 7 := by
  rw [((rt2_v g k).tz _ (by rw [rtw_Z]; omega)).1, (rtw_v g).tz _ (by show hZ g < hZ g + 1; omega), z_hT_nO, if_pos rfl]
theorem rk_init {g gr X : PH} {i j : Nat} (ep : sR (rt2 g 5) 768 (hZ g) (some 5) = gr) (hx : fX6_init_83 FU gr (hZ g) 0 = some (X, i, j)) : fX6_init (nO g 7) (hZ g) (some 5) = some (X, 7 + i, 47 + j) := by
  have h5 : hT (nA (rtw g 0) 101 (Int32.toNatClampNeg 8)) (hZ g) = 7 := by
    rw [z_hT_nA, if_neg (by show ¬ hZ g = hZ g + 1; omega)]
    show hT (nO g 7) (hZ g) = 7
    rw [z_hT_nO, if_pos rfl]
  have x : ∀ k, hT (sL (nO (rt2 g k) 4) 385 (hZ (rt2 g k)) 1) (hZ g) = 7 := fun k => by
    rw [z_hT_sL, z_hT_nO, if_neg (by rw [rt2_Z]; omega)]; exact rt2_7 g k
  have e0 : nO g 7 = rtw g 0 := rfl
  rw [e0, fX6_init, fX6_init_0, oL_v, oC_d h5, oL_v, rtw_0, oL_v, oL_v, rtw_1, oL_v, init3, oB_v, oC_d (x 0), oL_v, rt2_0, oL_v, init3, oB_v, oC_d (x 1), oL_v, rt2_1, oL_v, init3, oB_v, oC_d (x 2), oL_v, rt2_2, oL_v, init3, oB_v, oC_d (x 3), oL_v, rt2_3, oL_v, init3, oB_v, oC_d (x 4), oL_v, rt2_4, oL_v, ep, hx]
  have c8 : Int32.toNatClampNeg 8 = 8 := rfl
  have c24 : Int32.toNatClampNeg 24 = 24 := rfl
  simp only [oK3_v, c8, c24]
  rw [show 1 + (1 + (1 + (1 + (1 + (1 + (1 + i)))))) = 7 + i by omega, show 8 + (24 + (3 + (3 + (3 + (3 + (3 + j)))))) = 47 + j by omega]
