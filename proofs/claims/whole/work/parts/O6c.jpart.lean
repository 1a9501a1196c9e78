def jF (k : Nat) : Nat := [645, 646, 647, 648, 649, 650, 652, 653, 654, 656, 657, 658].getD k 0
def jT (k : Nat) : Nat := [101, 100, 101, 101, 101, 101, 101, 101, 100, 101, 101, 102].getD k 0
def jL (k : Nat) : Nat := [600, 600, 600, 600, 600, 30, 32, 32, 32, 4, 20, 40].getD k 0
theorem jF_i : ∀ i, i < 12 → ∀ j, j < 12 → jF i = jF j → i = j := by decide
def jt (h : PH) (k : Nat) : PH := tA (nO h 6) (hZ h) jF jT jL k
theorem jt_0 (h : PH) : sR (nA (jt h 0) 101 (Int32.toNatClampNeg 600)) 645 (hZ h) (some (hZ (jt h 0))) = jt h 1 := rfl
theorem jt_1 (h : PH) : sR (nA (jt h 1) 100 (Int32.toNatClampNeg 600)) 646 (hZ h) (some (hZ (jt h 1))) = jt h 2 := rfl
theorem jt_2 (h : PH) : sR (nA (jt h 2) 101 (Int32.toNatClampNeg 600)) 647 (hZ h) (some (hZ (jt h 2))) = jt h 3 := rfl
theorem jt_3 (h : PH) : sR (nA (jt h 3) 101 (Int32.toNatClampNeg 600)) 648 (hZ h) (some (hZ (jt h 3))) = jt h 4 := rfl
theorem jt_4 (h : PH) : sR (nA (jt h 4) 101 (Int32.toNatClampNeg 600)) 649 (hZ h) (some (hZ (jt h 4))) = jt h 5 := rfl
theorem jt_5 (h : PH) : sR (nA (jt h 5) 101 (Int32.toNatClampNeg 30)) 650 (hZ h) (some (hZ (jt h 5))) = jt h 6 := rfl
theorem jt_6 (h : PH) : sR (nA (jt h 6) 101 (Int32.toNatClampNeg 32)) 652 (hZ h) (some (hZ (jt h 6))) = jt h 7 := rfl
theorem jt_7 (h : PH) : sR (nA (jt h 7) 101 (Int32.toNatClampNeg 32)) 653 (hZ h) (some (hZ (jt h 7))) = jt h 8 := rfl
theorem jt_8 (h : PH) : sR (nA (jt h 8) 100 (Int32.toNatClampNeg 32)) 654 (hZ h) (some (hZ (jt h 8))) = jt h 9 := rfl
theorem jt_9 (h : PH) : sR (nA (jt h 9) 101 (Int32.toNatClampNeg 4)) 656 (hZ h) (some (hZ (jt h 9))) = jt h 10 := rfl
theorem jt_10 (h : PH) : sR (nA (jt h 10) 101 (Int32.toNatClampNeg 20)) 657 (hZ h) (some (hZ (jt h 10))) = jt h 11 := rfl
theorem jt_11 (h : PH) : sR (nA (jt h 11) 102 (Int32.toNatClampNeg 40)) 658 (hZ h) (some (hZ (jt h 11))) = jt h 12 := rfl
theorem cst12 (i : Nat) : 1 + (1 + (1 + (1 + (1 + (1 + (1 + (1 + (1 + (1 + (1 + (1 + (1 + (i + 0))))))))))))) = 13 + i := by omega
theorem slt12 (j : Nat) : 600 + (600 + (600 + (600 + (600 + (30 + (32 + (32 + (32 + (4 + (20 + (40 + (10 + (j + 0))))))))))))) = 3200 + j := by omega
theorem jn_init {h gp X : PH} {i j : Nat} (ep : sR (jt h 12) 640 (hZ h) (some 5) = gp) (hx : fX6_init (nO gp 7) (hZ gp) (some 5) = some (X, i, j)) (tx : hT X (hZ h) = 6) : fX5_init (nO h 6) (hZ h) (some 5) = some (sR X 641 (hZ h) (some (hZ gp)), 13 + i, 3200 + j) := by
  have h5 : hT (nA (jt h 0) 101 (Int32.toNatClampNeg 600)) (hZ h) = 6 := by
    rw [z_hT_nA, if_neg (by show ¬ hZ h = hZ h + 1; omega)]
    show hT (nO h 6) (hZ h) = 6
    rw [z_hT_nO, if_pos rfl]
  have e0 : nO h 6 = jt h 0 := rfl
  rw [e0, fX5_init, fX5_init_0, oL_v, oC_d h5, oL_v, jt_0 h, oL_v, oL_v, jt_1 h, oL_v, oL_v, jt_2 h, oL_v, oL_v, jt_3 h, oL_v, oL_v, jt_4 h, oL_v, oL_v, jt_5 h, oL_v, oL_v, jt_6 h, oL_v, oL_v, jt_7 h, oL_v, oL_v, jt_8 h, oL_v, oL_v, jt_9 h, oL_v, oL_v, jt_10 h, oL_v, oL_v, jt_11 h, oL_v, ep, oL_v, hx, oB3_v, oC_d tx, oL_v]
  have c600 : Int32.toNatClampNeg 600 = 600 := rfl
  have c30 : Int32.toNatClampNeg 30 = 30 := rfl
  have c32 : Int32.toNatClampNeg 32 = 32 := rfl
  have c4 : Int32.toNatClampNeg 4 = 4 := rfl
  have c20 : Int32.toNatClampNeg 20 = 20 := rfl
  have c40 : Int32.toNatClampNeg 40 = 40 := rfl
  simp only [oK3_v, c600, c30, c32, c4, c20, c40]
  rw [cst12, slt12]
