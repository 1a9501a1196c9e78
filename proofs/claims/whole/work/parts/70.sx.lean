/-! the class's heap: its structure -/
structure Gh where
  tk : Nat
  wk : Nat
  kd : Nat
  st : Nat
  vl : Nat
  pg : Nat
  rl : Nat → Nat
  ca : Nat → Nat
  hd : Nat → Nat
  cd : Nat → Nat → Nat
  nr : Nat
  nc : Nat → Nat
  te : Nat → Nat
  nt : Nat
  jj : Bool
  jd : Nat → Nat
  ow : Nat → Nat
structure SX' (R C : Nat → Nat → Option Nat) (T N : Nat → Nat) (Z : Nat) (G : Gh) : Prop where
  fr : ∀ i, Z ≤ i → T i = 0
  zz : 110 ≤ Z
  t0 : T 0 = 12
  t1 : T 1 = 1
  t3 : T 3 = 1
  t5 : T 5 = 2
  t6 : T 6 = 8
  t8 : T 8 = 8
  t10 : T 10 = 8
  t12 : T 12 = 8
  t14 : T 14 = 8
  t23 : T 23 = 5
  t24 : T 24 = 11
  t7 : T 7 = 102
  t9 : T 9 = 102
  t11 : T 11 = 102
  t13 : T 13 = 102
  t15 : T 15 = 102
  t16 : T 16 = 101
  t17 : T 17 = 101
  t18 : T 18 = 101
  t19 : T 19 = 104
  t20 : T 20 = 101
  t21 : T 21 = 101
  t25 : T 25 = 102
  t29 : T 29 = 101
  t30 : T 30 = 101
  t31 : T 31 = 106
  n7 : N 7 = 5
  n9 : N 9 = 12
  n11 : N 11 = 4
  n13 : N 13 = 10
  n15 : N 15 = 30
  n16 : N 16 = 12
  n17 : N 17 = 20
  n18 : N 18 = 50
  n19 : N 19 = 30
  n20 : N 20 = 20
  n21 : N 21 = 20
  n25 : N 25 = 18
  n29 : N 29 = 3
  n30 : N 30 = 20
  n31 : N 31 = 100
  r1408_0 : R 1408 0 = some 1
  r1409_0 : R 1409 0 = some 3
  r1410_0 : R 1410 0 = some 5
  r1411_0 : R 1411 0 = some 23
  r1412_0 : R 1412 0 = some 31
  r128_5 : R 128 5 = some 6
  r129_5 : R 129 5 = some 8
  r130_5 : R 130 5 = some 10
  r131_5 : R 131 5 = some 12
  r132_5 : R 132 5 = some 14
  r133_5 : R 133 5 = some 16
  r134_5 : R 134 5 = some 17
  r135_5 : R 135 5 = some 18
  r136_5 : R 136 5 = some 19
  r137_5 : R 137 5 = some 20
  r138_5 : R 138 5 = some 21
  r512_23 : R 512 23 = some 5
  r513_23 : R 513 23 = some 24
  r514_23 : R 514 23 = some 29
  r515_23 : R 515 23 = some 30
  r896_6 : R 896 6 = some 7
  r896_8 : R 896 8 = some 9
  r896_10 : R 896 10 = some 11
  r896_12 : R 896 12 = some 13
  r896_14 : R 896 14 = some 15
  r1280_24 : R 1280 24 = some 25
  r0_1 : R 0 1 = some G.tk
  ttk : T G.tk = 100
  otk : G.ow G.tk = 100002
  r0_3 : R 0 3 = some G.wk
  twk : T G.wk = 100
  owk : G.ow G.wk = 200002
  r141_5 : R 141 5 = some G.pg
  tpg : T G.pg = 101
  opg : G.ow G.pg = 300104
  r1281_24 : R 1281 24 = some G.kd
  tkd : T G.kd = 101
  okd : G.ow G.kd = 700101
  r1282_24 : R 1282 24 = some G.st
  tst : T G.st = 101
  ost : G.ow G.st = 700102
  r1283_24 : R 1283 24 = some G.vl
  tvl : T G.vl = 102
  ovl : G.ow G.vl = 700103
  o0 : G.ow 0 = 0
  o1 : G.ow 1 = 100001
  o3 : G.ow 3 = 200001
  o31 : G.ow 31 = 400000
  o5 : G.ow 5 = 800005
  o6 : G.ow 6 = 800006
  o7 : G.ow 7 = 300007
  o8 : G.ow 8 = 800008
  o9 : G.ow 9 = 300009
  o10 : G.ow 10 = 800010
  o11 : G.ow 11 = 300011
  o12 : G.ow 12 = 800012
  o13 : G.ow 13 = 300013
  o14 : G.ow 14 = 800014
  o15 : G.ow 15 = 300015
  o16 : G.ow 16 = 300016
  o17 : G.ow 17 = 600017
  o18 : G.ow 18 = 300018
  o19 : G.ow 19 = 300019
  o20 : G.ow 20 = 300020
  o21 : G.ow 21 = 300021
  o23 : G.ow 23 = 700023
  o24 : G.ow 24 = 700024
  o25 : G.ow 25 = 900025
  o29 : G.ow 29 = 700029
  o30 : G.ow 30 = 700030
  nr30 : G.nr ≤ 30
  rlC : ∀ r, r < G.nr → C 19 r = some (G.rl r)
  rlN : ∀ r, G.nr ≤ r → C 19 r = none
  rlT : ∀ r, r < G.nr → T (G.rl r) = 9
  rlo : ∀ r, r < G.nr → G.ow (G.rl r) = 310000 + r
  caR : ∀ r, r < G.nr → R 1028 (G.rl r) = some (G.ca r)
  caT : ∀ r, r < G.nr → T (G.ca r) = 105
  caN : ∀ r, r < G.nr → N (G.ca r) = 6
  cao : ∀ r, r < G.nr → G.ow (G.ca r) = 320000 + r
  hdR : ∀ r, r < G.nr → R 1029 (G.rl r) = some (G.hd r)
  hdT : ∀ r, r < G.nr → T (G.hd r) = 3
  hdo : ∀ r, r < G.nr → G.ow (G.hd r) = 330000 + r
  nc6 : ∀ r, r < G.nr → G.nc r ≤ 6
  cdC : ∀ r, r < G.nr → ∀ k, k < G.nc r → C (G.ca r) k = some (G.cd r k)
  cdN : ∀ r, r < G.nr → ∀ k, G.nc r ≤ k → C (G.ca r) k = none
  cdT : ∀ r, r < G.nr → ∀ k, k < G.nc r → T (G.cd r k) = 3
  cdo : ∀ r, r < G.nr → ∀ k, k < G.nc r → G.ow (G.cd r k) = 340000 + 10 * r + k
  nt100 : G.nt ≤ 100
  teC : ∀ r, r < G.nt → C 31 r = some (G.te r)
  teT : ∀ r, r < G.nt → T (G.te r) = 10
  teo : ∀ r, r < G.nt → G.ow (G.te r) = 400001 + r
  jN : G.jj = false → R 1416 0 = none
  jY : G.jj = true → R 1416 0 = some (G.jd 0)
  jt0 : G.jj = true → T (G.jd 0) = 6
  jt1 : G.jj = true → T (G.jd 1) = 7
  jt2 : G.jj = true → T (G.jd 2) = 101
  jt3 : G.jj = true → T (G.jd 3) = 107
  jt4 : G.jj = true → T (G.jd 4) = 4
  jt5 : G.jj = true → T (G.jd 5) = 4
  jt6 : G.jj = true → T (G.jd 6) = 4
  jt7 : G.jj = true → T (G.jd 7) = 4
  jt8 : G.jj = true → T (G.jd 8) = 4
  jt9 : G.jj = true → T (G.jd 9) = 101
  jt10 : G.jj = true → T (G.jd 10) = 100
  jt11 : G.jj = true → T (G.jd 11) = 101
  jt12 : G.jj = true → T (G.jd 12) = 101
  jt13 : G.jj = true → T (G.jd 13) = 101
  jt14 : G.jj = true → T (G.jd 14) = 101
  jt15 : G.jj = true → T (G.jd 15) = 101
  jt16 : G.jj = true → T (G.jd 16) = 101
  jt17 : G.jj = true → T (G.jd 17) = 100
  jt18 : G.jj = true → T (G.jd 18) = 101
  jt19 : G.jj = true → T (G.jd 19) = 101
  jt20 : G.jj = true → T (G.jd 20) = 102
  jn2 : G.jj = true → N (G.jd 2) = 8
  jn3 : G.jj = true → N (G.jd 3) = 24
  jn9 : G.jj = true → N (G.jd 9) = 600
  jn10 : G.jj = true → N (G.jd 10) = 600
  jn11 : G.jj = true → N (G.jd 11) = 600
  jn12 : G.jj = true → N (G.jd 12) = 600
  jn13 : G.jj = true → N (G.jd 13) = 600
  jn14 : G.jj = true → N (G.jd 14) = 30
  jn18 : G.jj = true → N (G.jd 18) = 4
  jn19 : G.jj = true → N (G.jd 19) = 20
  jn20 : G.jj = true → N (G.jd 20) = 40
  jr640 : G.jj = true → R 640 (G.jd 0) = some 5
  jr641 : G.jj = true → R 641 (G.jd 0) = some (G.jd 1)
  jr768 : G.jj = true → R 768 (G.jd 1) = some 5
  jr769 : G.jj = true → R 769 (G.jd 1) = some (G.jd 2)
  jr770 : G.jj = true → R 770 (G.jd 1) = some (G.jd 3)
  jr771 : G.jj = true → R 771 (G.jd 1) = some (G.jd 4)
  jr772 : G.jj = true → R 772 (G.jd 1) = some (G.jd 5)
  jr773 : G.jj = true → R 773 (G.jd 1) = some (G.jd 6)
  jr774 : G.jj = true → R 774 (G.jd 1) = some (G.jd 7)
  jr775 : G.jj = true → R 775 (G.jd 1) = some (G.jd 8)
  jr645 : G.jj = true → R 645 (G.jd 0) = some (G.jd 9)
  jr646 : G.jj = true → R 646 (G.jd 0) = some (G.jd 10)
  jr647 : G.jj = true → R 647 (G.jd 0) = some (G.jd 11)
  jr648 : G.jj = true → R 648 (G.jd 0) = some (G.jd 12)
  jr649 : G.jj = true → R 649 (G.jd 0) = some (G.jd 13)
  jr650 : G.jj = true → R 650 (G.jd 0) = some (G.jd 14)
  jr652 : G.jj = true → R 652 (G.jd 0) = some (G.jd 15)
  jr653 : G.jj = true → R 653 (G.jd 0) = some (G.jd 16)
  jr654 : G.jj = true → R 654 (G.jd 0) = some (G.jd 17)
  jr656 : G.jj = true → R 656 (G.jd 0) = some (G.jd 18)
  jr657 : G.jj = true → R 657 (G.jd 0) = some (G.jd 19)
  jr658 : G.jj = true → R 658 (G.jd 0) = some (G.jd 20)
  jo : G.jj = true → ∀ i, i < 21 ∨ (100 ≤ i ∧ i < 124) → G.ow (G.jd i) = 500000 + i
  jsC : G.jj = true → ∀ i, i < 24 → C (G.jd 3) i = some (G.jd (100 + i))
  jsT : G.jj = true → ∀ i, i < 24 → T (G.jd (100 + i)) = 4
def SX (h : PH) (G : Gh) : Prop := SX' (hR h) (hC h) (hT h) (hN h) (hZ h) G
theorem SX.fr {h : PH} {G : Gh} (S : SX h G) : ∀ i, hZ h ≤ i → hT h i = 0 := SX'.fr S
theorem SX.zz {h : PH} {G : Gh} (S : SX h G) : 110 ≤ hZ h := SX'.zz S
theorem SX.t0 {h : PH} {G : Gh} (S : SX h G) : hT h 0 = 12 := SX'.t0 S
theorem SX.t1 {h : PH} {G : Gh} (S : SX h G) : hT h 1 = 1 := SX'.t1 S
theorem SX.t3 {h : PH} {G : Gh} (S : SX h G) : hT h 3 = 1 := SX'.t3 S
theorem SX.t5 {h : PH} {G : Gh} (S : SX h G) : hT h 5 = 2 := SX'.t5 S
theorem SX.t6 {h : PH} {G : Gh} (S : SX h G) : hT h 6 = 8 := SX'.t6 S
theorem SX.t8 {h : PH} {G : Gh} (S : SX h G) : hT h 8 = 8 := SX'.t8 S
theorem SX.t10 {h : PH} {G : Gh} (S : SX h G) : hT h 10 = 8 := SX'.t10 S
theorem SX.t12 {h : PH} {G : Gh} (S : SX h G) : hT h 12 = 8 := SX'.t12 S
theorem SX.t14 {h : PH} {G : Gh} (S : SX h G) : hT h 14 = 8 := SX'.t14 S
theorem SX.t23 {h : PH} {G : Gh} (S : SX h G) : hT h 23 = 5 := SX'.t23 S
theorem SX.t24 {h : PH} {G : Gh} (S : SX h G) : hT h 24 = 11 := SX'.t24 S
theorem SX.t7 {h : PH} {G : Gh} (S : SX h G) : hT h 7 = 102 := SX'.t7 S
theorem SX.t9 {h : PH} {G : Gh} (S : SX h G) : hT h 9 = 102 := SX'.t9 S
theorem SX.t11 {h : PH} {G : Gh} (S : SX h G) : hT h 11 = 102 := SX'.t11 S
theorem SX.t13 {h : PH} {G : Gh} (S : SX h G) : hT h 13 = 102 := SX'.t13 S
theorem SX.t15 {h : PH} {G : Gh} (S : SX h G) : hT h 15 = 102 := SX'.t15 S
theorem SX.t16 {h : PH} {G : Gh} (S : SX h G) : hT h 16 = 101 := SX'.t16 S
theorem SX.t17 {h : PH} {G : Gh} (S : SX h G) : hT h 17 = 101 := SX'.t17 S
theorem SX.t18 {h : PH} {G : Gh} (S : SX h G) : hT h 18 = 101 := SX'.t18 S
theorem SX.t19 {h : PH} {G : Gh} (S : SX h G) : hT h 19 = 104 := SX'.t19 S
theorem SX.t20 {h : PH} {G : Gh} (S : SX h G) : hT h 20 = 101 := SX'.t20 S
theorem SX.t21 {h : PH} {G : Gh} (S : SX h G) : hT h 21 = 101 := SX'.t21 S
theorem SX.t25 {h : PH} {G : Gh} (S : SX h G) : hT h 25 = 102 := SX'.t25 S
theorem SX.t29 {h : PH} {G : Gh} (S : SX h G) : hT h 29 = 101 := SX'.t29 S
theorem SX.t30 {h : PH} {G : Gh} (S : SX h G) : hT h 30 = 101 := SX'.t30 S
theorem SX.t31 {h : PH} {G : Gh} (S : SX h G) : hT h 31 = 106 := SX'.t31 S
theorem SX.n7 {h : PH} {G : Gh} (S : SX h G) : hN h 7 = 5 := SX'.n7 S
theorem SX.n9 {h : PH} {G : Gh} (S : SX h G) : hN h 9 = 12 := SX'.n9 S
theorem SX.n11 {h : PH} {G : Gh} (S : SX h G) : hN h 11 = 4 := SX'.n11 S
theorem SX.n13 {h : PH} {G : Gh} (S : SX h G) : hN h 13 = 10 := SX'.n13 S
theorem SX.n15 {h : PH} {G : Gh} (S : SX h G) : hN h 15 = 30 := SX'.n15 S
theorem SX.n16 {h : PH} {G : Gh} (S : SX h G) : hN h 16 = 12 := SX'.n16 S
theorem SX.n17 {h : PH} {G : Gh} (S : SX h G) : hN h 17 = 20 := SX'.n17 S
theorem SX.n18 {h : PH} {G : Gh} (S : SX h G) : hN h 18 = 50 := SX'.n18 S
theorem SX.n19 {h : PH} {G : Gh} (S : SX h G) : hN h 19 = 30 := SX'.n19 S
theorem SX.n20 {h : PH} {G : Gh} (S : SX h G) : hN h 20 = 20 := SX'.n20 S
theorem SX.n21 {h : PH} {G : Gh} (S : SX h G) : hN h 21 = 20 := SX'.n21 S
theorem SX.n25 {h : PH} {G : Gh} (S : SX h G) : hN h 25 = 18 := SX'.n25 S
theorem SX.n29 {h : PH} {G : Gh} (S : SX h G) : hN h 29 = 3 := SX'.n29 S
theorem SX.n30 {h : PH} {G : Gh} (S : SX h G) : hN h 30 = 20 := SX'.n30 S
theorem SX.n31 {h : PH} {G : Gh} (S : SX h G) : hN h 31 = 100 := SX'.n31 S
theorem SX.r1408_0 {h : PH} {G : Gh} (S : SX h G) : hR h 1408 0 = some 1 := SX'.r1408_0 S
theorem SX.r1409_0 {h : PH} {G : Gh} (S : SX h G) : hR h 1409 0 = some 3 := SX'.r1409_0 S
theorem SX.r1410_0 {h : PH} {G : Gh} (S : SX h G) : hR h 1410 0 = some 5 := SX'.r1410_0 S
theorem SX.r1411_0 {h : PH} {G : Gh} (S : SX h G) : hR h 1411 0 = some 23 := SX'.r1411_0 S
theorem SX.r1412_0 {h : PH} {G : Gh} (S : SX h G) : hR h 1412 0 = some 31 := SX'.r1412_0 S
theorem SX.r128_5 {h : PH} {G : Gh} (S : SX h G) : hR h 128 5 = some 6 := SX'.r128_5 S
theorem SX.r129_5 {h : PH} {G : Gh} (S : SX h G) : hR h 129 5 = some 8 := SX'.r129_5 S
theorem SX.r130_5 {h : PH} {G : Gh} (S : SX h G) : hR h 130 5 = some 10 := SX'.r130_5 S
theorem SX.r131_5 {h : PH} {G : Gh} (S : SX h G) : hR h 131 5 = some 12 := SX'.r131_5 S
theorem SX.r132_5 {h : PH} {G : Gh} (S : SX h G) : hR h 132 5 = some 14 := SX'.r132_5 S
theorem SX.r133_5 {h : PH} {G : Gh} (S : SX h G) : hR h 133 5 = some 16 := SX'.r133_5 S
theorem SX.r134_5 {h : PH} {G : Gh} (S : SX h G) : hR h 134 5 = some 17 := SX'.r134_5 S
theorem SX.r135_5 {h : PH} {G : Gh} (S : SX h G) : hR h 135 5 = some 18 := SX'.r135_5 S
theorem SX.r136_5 {h : PH} {G : Gh} (S : SX h G) : hR h 136 5 = some 19 := SX'.r136_5 S
theorem SX.r137_5 {h : PH} {G : Gh} (S : SX h G) : hR h 137 5 = some 20 := SX'.r137_5 S
theorem SX.r138_5 {h : PH} {G : Gh} (S : SX h G) : hR h 138 5 = some 21 := SX'.r138_5 S
theorem SX.r512_23 {h : PH} {G : Gh} (S : SX h G) : hR h 512 23 = some 5 := SX'.r512_23 S
theorem SX.r513_23 {h : PH} {G : Gh} (S : SX h G) : hR h 513 23 = some 24 := SX'.r513_23 S
theorem SX.r514_23 {h : PH} {G : Gh} (S : SX h G) : hR h 514 23 = some 29 := SX'.r514_23 S
theorem SX.r515_23 {h : PH} {G : Gh} (S : SX h G) : hR h 515 23 = some 30 := SX'.r515_23 S
theorem SX.r896_6 {h : PH} {G : Gh} (S : SX h G) : hR h 896 6 = some 7 := SX'.r896_6 S
theorem SX.r896_8 {h : PH} {G : Gh} (S : SX h G) : hR h 896 8 = some 9 := SX'.r896_8 S
theorem SX.r896_10 {h : PH} {G : Gh} (S : SX h G) : hR h 896 10 = some 11 := SX'.r896_10 S
theorem SX.r896_12 {h : PH} {G : Gh} (S : SX h G) : hR h 896 12 = some 13 := SX'.r896_12 S
theorem SX.r896_14 {h : PH} {G : Gh} (S : SX h G) : hR h 896 14 = some 15 := SX'.r896_14 S
theorem SX.r1280_24 {h : PH} {G : Gh} (S : SX h G) : hR h 1280 24 = some 25 := SX'.r1280_24 S
theorem SX.r0_1 {h : PH} {G : Gh} (S : SX h G) : hR h 0 1 = some G.tk := SX'.r0_1 S
theorem SX.ttk {h : PH} {G : Gh} (S : SX h G) : hT h G.tk = 100 := SX'.ttk S
theorem SX.otk {h : PH} {G : Gh} (S : SX h G) : G.ow G.tk = 100002 := SX'.otk S
theorem SX.r0_3 {h : PH} {G : Gh} (S : SX h G) : hR h 0 3 = some G.wk := SX'.r0_3 S
theorem SX.twk {h : PH} {G : Gh} (S : SX h G) : hT h G.wk = 100 := SX'.twk S
theorem SX.owk {h : PH} {G : Gh} (S : SX h G) : G.ow G.wk = 200002 := SX'.owk S
theorem SX.r141_5 {h : PH} {G : Gh} (S : SX h G) : hR h 141 5 = some G.pg := SX'.r141_5 S
theorem SX.tpg {h : PH} {G : Gh} (S : SX h G) : hT h G.pg = 101 := SX'.tpg S
theorem SX.opg {h : PH} {G : Gh} (S : SX h G) : G.ow G.pg = 300104 := SX'.opg S
theorem SX.r1281_24 {h : PH} {G : Gh} (S : SX h G) : hR h 1281 24 = some G.kd := SX'.r1281_24 S
theorem SX.tkd {h : PH} {G : Gh} (S : SX h G) : hT h G.kd = 101 := SX'.tkd S
theorem SX.okd {h : PH} {G : Gh} (S : SX h G) : G.ow G.kd = 700101 := SX'.okd S
theorem SX.r1282_24 {h : PH} {G : Gh} (S : SX h G) : hR h 1282 24 = some G.st := SX'.r1282_24 S
theorem SX.tst {h : PH} {G : Gh} (S : SX h G) : hT h G.st = 101 := SX'.tst S
theorem SX.ost {h : PH} {G : Gh} (S : SX h G) : G.ow G.st = 700102 := SX'.ost S
theorem SX.r1283_24 {h : PH} {G : Gh} (S : SX h G) : hR h 1283 24 = some G.vl := SX'.r1283_24 S
theorem SX.tvl {h : PH} {G : Gh} (S : SX h G) : hT h G.vl = 102 := SX'.tvl S
theorem SX.ovl {h : PH} {G : Gh} (S : SX h G) : G.ow G.vl = 700103 := SX'.ovl S
theorem SX.o0 {h : PH} {G : Gh} (S : SX h G) : G.ow 0 = 0 := SX'.o0 S
theorem SX.o1 {h : PH} {G : Gh} (S : SX h G) : G.ow 1 = 100001 := SX'.o1 S
theorem SX.o3 {h : PH} {G : Gh} (S : SX h G) : G.ow 3 = 200001 := SX'.o3 S
theorem SX.o31 {h : PH} {G : Gh} (S : SX h G) : G.ow 31 = 400000 := SX'.o31 S
theorem SX.o5 {h : PH} {G : Gh} (S : SX h G) : G.ow 5 = 800005 := SX'.o5 S
theorem SX.o6 {h : PH} {G : Gh} (S : SX h G) : G.ow 6 = 800006 := SX'.o6 S
theorem SX.o7 {h : PH} {G : Gh} (S : SX h G) : G.ow 7 = 300007 := SX'.o7 S
theorem SX.o8 {h : PH} {G : Gh} (S : SX h G) : G.ow 8 = 800008 := SX'.o8 S
theorem SX.o9 {h : PH} {G : Gh} (S : SX h G) : G.ow 9 = 300009 := SX'.o9 S
theorem SX.o10 {h : PH} {G : Gh} (S : SX h G) : G.ow 10 = 800010 := SX'.o10 S
theorem SX.o11 {h : PH} {G : Gh} (S : SX h G) : G.ow 11 = 300011 := SX'.o11 S
theorem SX.o12 {h : PH} {G : Gh} (S : SX h G) : G.ow 12 = 800012 := SX'.o12 S
theorem SX.o13 {h : PH} {G : Gh} (S : SX h G) : G.ow 13 = 300013 := SX'.o13 S
theorem SX.o14 {h : PH} {G : Gh} (S : SX h G) : G.ow 14 = 800014 := SX'.o14 S
theorem SX.o15 {h : PH} {G : Gh} (S : SX h G) : G.ow 15 = 300015 := SX'.o15 S
theorem SX.o16 {h : PH} {G : Gh} (S : SX h G) : G.ow 16 = 300016 := SX'.o16 S
theorem SX.o17 {h : PH} {G : Gh} (S : SX h G) : G.ow 17 = 600017 := SX'.o17 S
theorem SX.o18 {h : PH} {G : Gh} (S : SX h G) : G.ow 18 = 300018 := SX'.o18 S
theorem SX.o19 {h : PH} {G : Gh} (S : SX h G) : G.ow 19 = 300019 := SX'.o19 S
theorem SX.o20 {h : PH} {G : Gh} (S : SX h G) : G.ow 20 = 300020 := SX'.o20 S
theorem SX.o21 {h : PH} {G : Gh} (S : SX h G) : G.ow 21 = 300021 := SX'.o21 S
theorem SX.o23 {h : PH} {G : Gh} (S : SX h G) : G.ow 23 = 700023 := SX'.o23 S
theorem SX.o24 {h : PH} {G : Gh} (S : SX h G) : G.ow 24 = 700024 := SX'.o24 S
theorem SX.o25 {h : PH} {G : Gh} (S : SX h G) : G.ow 25 = 900025 := SX'.o25 S
theorem SX.o29 {h : PH} {G : Gh} (S : SX h G) : G.ow 29 = 700029 := SX'.o29 S
theorem SX.o30 {h : PH} {G : Gh} (S : SX h G) : G.ow 30 = 700030 := SX'.o30 S
theorem SX.nr30 {h : PH} {G : Gh} (S : SX h G) : G.nr ≤ 30 := SX'.nr30 S
theorem SX.rlC {h : PH} {G : Gh} (S : SX h G) : ∀ r, r < G.nr → hC h 19 r = some (G.rl r) := SX'.rlC S
theorem SX.rlN {h : PH} {G : Gh} (S : SX h G) : ∀ r, G.nr ≤ r → hC h 19 r = none := SX'.rlN S
theorem SX.rlT {h : PH} {G : Gh} (S : SX h G) : ∀ r, r < G.nr → hT h (G.rl r) = 9 := SX'.rlT S
theorem SX.rlo {h : PH} {G : Gh} (S : SX h G) : ∀ r, r < G.nr → G.ow (G.rl r) = 310000 + r := SX'.rlo S
theorem SX.caR {h : PH} {G : Gh} (S : SX h G) : ∀ r, r < G.nr → hR h 1028 (G.rl r) = some (G.ca r) := SX'.caR S
theorem SX.caT {h : PH} {G : Gh} (S : SX h G) : ∀ r, r < G.nr → hT h (G.ca r) = 105 := SX'.caT S
theorem SX.caN {h : PH} {G : Gh} (S : SX h G) : ∀ r, r < G.nr → hN h (G.ca r) = 6 := SX'.caN S
theorem SX.cao {h : PH} {G : Gh} (S : SX h G) : ∀ r, r < G.nr → G.ow (G.ca r) = 320000 + r := SX'.cao S
theorem SX.hdR {h : PH} {G : Gh} (S : SX h G) : ∀ r, r < G.nr → hR h 1029 (G.rl r) = some (G.hd r) := SX'.hdR S
theorem SX.hdT {h : PH} {G : Gh} (S : SX h G) : ∀ r, r < G.nr → hT h (G.hd r) = 3 := SX'.hdT S
theorem SX.hdo {h : PH} {G : Gh} (S : SX h G) : ∀ r, r < G.nr → G.ow (G.hd r) = 330000 + r := SX'.hdo S
theorem SX.nc6 {h : PH} {G : Gh} (S : SX h G) : ∀ r, r < G.nr → G.nc r ≤ 6 := SX'.nc6 S
theorem SX.cdC {h : PH} {G : Gh} (S : SX h G) : ∀ r, r < G.nr → ∀ k, k < G.nc r → hC h (G.ca r) k = some (G.cd r k) := SX'.cdC S
theorem SX.cdN {h : PH} {G : Gh} (S : SX h G) : ∀ r, r < G.nr → ∀ k, G.nc r ≤ k → hC h (G.ca r) k = none := SX'.cdN S
theorem SX.cdT {h : PH} {G : Gh} (S : SX h G) : ∀ r, r < G.nr → ∀ k, k < G.nc r → hT h (G.cd r k) = 3 := SX'.cdT S
theorem SX.cdo {h : PH} {G : Gh} (S : SX h G) : ∀ r, r < G.nr → ∀ k, k < G.nc r → G.ow (G.cd r k) = 340000 + 10 * r + k := SX'.cdo S
theorem SX.nt100 {h : PH} {G : Gh} (S : SX h G) : G.nt ≤ 100 := SX'.nt100 S
theorem SX.teC {h : PH} {G : Gh} (S : SX h G) : ∀ r, r < G.nt → hC h 31 r = some (G.te r) := SX'.teC S
theorem SX.teT {h : PH} {G : Gh} (S : SX h G) : ∀ r, r < G.nt → hT h (G.te r) = 10 := SX'.teT S
theorem SX.teo {h : PH} {G : Gh} (S : SX h G) : ∀ r, r < G.nt → G.ow (G.te r) = 400001 + r := SX'.teo S
theorem SX.jN {h : PH} {G : Gh} (S : SX h G) : G.jj = false → hR h 1416 0 = none := SX'.jN S
theorem SX.jY {h : PH} {G : Gh} (S : SX h G) : G.jj = true → hR h 1416 0 = some (G.jd 0) := SX'.jY S
theorem SX.jt0 {h : PH} {G : Gh} (S : SX h G) : G.jj = true → hT h (G.jd 0) = 6 := SX'.jt0 S
theorem SX.jt1 {h : PH} {G : Gh} (S : SX h G) : G.jj = true → hT h (G.jd 1) = 7 := SX'.jt1 S
theorem SX.jt2 {h : PH} {G : Gh} (S : SX h G) : G.jj = true → hT h (G.jd 2) = 101 := SX'.jt2 S
theorem SX.jt3 {h : PH} {G : Gh} (S : SX h G) : G.jj = true → hT h (G.jd 3) = 107 := SX'.jt3 S
theorem SX.jt4 {h : PH} {G : Gh} (S : SX h G) : G.jj = true → hT h (G.jd 4) = 4 := SX'.jt4 S
theorem SX.jt5 {h : PH} {G : Gh} (S : SX h G) : G.jj = true → hT h (G.jd 5) = 4 := SX'.jt5 S
theorem SX.jt6 {h : PH} {G : Gh} (S : SX h G) : G.jj = true → hT h (G.jd 6) = 4 := SX'.jt6 S
theorem SX.jt7 {h : PH} {G : Gh} (S : SX h G) : G.jj = true → hT h (G.jd 7) = 4 := SX'.jt7 S
theorem SX.jt8 {h : PH} {G : Gh} (S : SX h G) : G.jj = true → hT h (G.jd 8) = 4 := SX'.jt8 S
theorem SX.jt9 {h : PH} {G : Gh} (S : SX h G) : G.jj = true → hT h (G.jd 9) = 101 := SX'.jt9 S
theorem SX.jt10 {h : PH} {G : Gh} (S : SX h G) : G.jj = true → hT h (G.jd 10) = 100 := SX'.jt10 S
theorem SX.jt11 {h : PH} {G : Gh} (S : SX h G) : G.jj = true → hT h (G.jd 11) = 101 := SX'.jt11 S
theorem SX.jt12 {h : PH} {G : Gh} (S : SX h G) : G.jj = true → hT h (G.jd 12) = 101 := SX'.jt12 S
theorem SX.jt13 {h : PH} {G : Gh} (S : SX h G) : G.jj = true → hT h (G.jd 13) = 101 := SX'.jt13 S
theorem SX.jt14 {h : PH} {G : Gh} (S : SX h G) : G.jj = true → hT h (G.jd 14) = 101 := SX'.jt14 S
theorem SX.jt15 {h : PH} {G : Gh} (S : SX h G) : G.jj = true → hT h (G.jd 15) = 101 := SX'.jt15 S
theorem SX.jt16 {h : PH} {G : Gh} (S : SX h G) : G.jj = true → hT h (G.jd 16) = 101 := SX'.jt16 S
theorem SX.jt17 {h : PH} {G : Gh} (S : SX h G) : G.jj = true → hT h (G.jd 17) = 100 := SX'.jt17 S
theorem SX.jt18 {h : PH} {G : Gh} (S : SX h G) : G.jj = true → hT h (G.jd 18) = 101 := SX'.jt18 S
theorem SX.jt19 {h : PH} {G : Gh} (S : SX h G) : G.jj = true → hT h (G.jd 19) = 101 := SX'.jt19 S
theorem SX.jt20 {h : PH} {G : Gh} (S : SX h G) : G.jj = true → hT h (G.jd 20) = 102 := SX'.jt20 S
theorem SX.jn2 {h : PH} {G : Gh} (S : SX h G) : G.jj = true → hN h (G.jd 2) = 8 := SX'.jn2 S
theorem SX.jn3 {h : PH} {G : Gh} (S : SX h G) : G.jj = true → hN h (G.jd 3) = 24 := SX'.jn3 S
theorem SX.jn9 {h : PH} {G : Gh} (S : SX h G) : G.jj = true → hN h (G.jd 9) = 600 := SX'.jn9 S
theorem SX.jn10 {h : PH} {G : Gh} (S : SX h G) : G.jj = true → hN h (G.jd 10) = 600 := SX'.jn10 S
theorem SX.jn11 {h : PH} {G : Gh} (S : SX h G) : G.jj = true → hN h (G.jd 11) = 600 := SX'.jn11 S
theorem SX.jn12 {h : PH} {G : Gh} (S : SX h G) : G.jj = true → hN h (G.jd 12) = 600 := SX'.jn12 S
theorem SX.jn13 {h : PH} {G : Gh} (S : SX h G) : G.jj = true → hN h (G.jd 13) = 600 := SX'.jn13 S
theorem SX.jn14 {h : PH} {G : Gh} (S : SX h G) : G.jj = true → hN h (G.jd 14) = 30 := SX'.jn14 S
theorem SX.jn18 {h : PH} {G : Gh} (S : SX h G) : G.jj = true → hN h (G.jd 18) = 4 := SX'.jn18 S
theorem SX.jn19 {h : PH} {G : Gh} (S : SX h G) : G.jj = true → hN h (G.jd 19) = 20 := SX'.jn19 S
theorem SX.jn20 {h : PH} {G : Gh} (S : SX h G) : G.jj = true → hN h (G.jd 20) = 40 := SX'.jn20 S
theorem SX.jr640 {h : PH} {G : Gh} (S : SX h G) : G.jj = true → hR h 640 (G.jd 0) = some 5 := SX'.jr640 S
theorem SX.jr641 {h : PH} {G : Gh} (S : SX h G) : G.jj = true → hR h 641 (G.jd 0) = some (G.jd 1) := SX'.jr641 S
theorem SX.jr768 {h : PH} {G : Gh} (S : SX h G) : G.jj = true → hR h 768 (G.jd 1) = some 5 := SX'.jr768 S
theorem SX.jr769 {h : PH} {G : Gh} (S : SX h G) : G.jj = true → hR h 769 (G.jd 1) = some (G.jd 2) := SX'.jr769 S
theorem SX.jr770 {h : PH} {G : Gh} (S : SX h G) : G.jj = true → hR h 770 (G.jd 1) = some (G.jd 3) := SX'.jr770 S
theorem SX.jr771 {h : PH} {G : Gh} (S : SX h G) : G.jj = true → hR h 771 (G.jd 1) = some (G.jd 4) := SX'.jr771 S
theorem SX.jr772 {h : PH} {G : Gh} (S : SX h G) : G.jj = true → hR h 772 (G.jd 1) = some (G.jd 5) := SX'.jr772 S
theorem SX.jr773 {h : PH} {G : Gh} (S : SX h G) : G.jj = true → hR h 773 (G.jd 1) = some (G.jd 6) := SX'.jr773 S
theorem SX.jr774 {h : PH} {G : Gh} (S : SX h G) : G.jj = true → hR h 774 (G.jd 1) = some (G.jd 7) := SX'.jr774 S
theorem SX.jr775 {h : PH} {G : Gh} (S : SX h G) : G.jj = true → hR h 775 (G.jd 1) = some (G.jd 8) := SX'.jr775 S
theorem SX.jr645 {h : PH} {G : Gh} (S : SX h G) : G.jj = true → hR h 645 (G.jd 0) = some (G.jd 9) := SX'.jr645 S
theorem SX.jr646 {h : PH} {G : Gh} (S : SX h G) : G.jj = true → hR h 646 (G.jd 0) = some (G.jd 10) := SX'.jr646 S
theorem SX.jr647 {h : PH} {G : Gh} (S : SX h G) : G.jj = true → hR h 647 (G.jd 0) = some (G.jd 11) := SX'.jr647 S
theorem SX.jr648 {h : PH} {G : Gh} (S : SX h G) : G.jj = true → hR h 648 (G.jd 0) = some (G.jd 12) := SX'.jr648 S
theorem SX.jr649 {h : PH} {G : Gh} (S : SX h G) : G.jj = true → hR h 649 (G.jd 0) = some (G.jd 13) := SX'.jr649 S
theorem SX.jr650 {h : PH} {G : Gh} (S : SX h G) : G.jj = true → hR h 650 (G.jd 0) = some (G.jd 14) := SX'.jr650 S
theorem SX.jr652 {h : PH} {G : Gh} (S : SX h G) : G.jj = true → hR h 652 (G.jd 0) = some (G.jd 15) := SX'.jr652 S
theorem SX.jr653 {h : PH} {G : Gh} (S : SX h G) : G.jj = true → hR h 653 (G.jd 0) = some (G.jd 16) := SX'.jr653 S
theorem SX.jr654 {h : PH} {G : Gh} (S : SX h G) : G.jj = true → hR h 654 (G.jd 0) = some (G.jd 17) := SX'.jr654 S
theorem SX.jr656 {h : PH} {G : Gh} (S : SX h G) : G.jj = true → hR h 656 (G.jd 0) = some (G.jd 18) := SX'.jr656 S
theorem SX.jr657 {h : PH} {G : Gh} (S : SX h G) : G.jj = true → hR h 657 (G.jd 0) = some (G.jd 19) := SX'.jr657 S
theorem SX.jr658 {h : PH} {G : Gh} (S : SX h G) : G.jj = true → hR h 658 (G.jd 0) = some (G.jd 20) := SX'.jr658 S
theorem SX.jo {h : PH} {G : Gh} (S : SX h G) : G.jj = true → ∀ i, i < 21 ∨ (100 ≤ i ∧ i < 124) → G.ow (G.jd i) = 500000 + i := SX'.jo S
theorem SX.jsC {h : PH} {G : Gh} (S : SX h G) : G.jj = true → ∀ i, i < 24 → hC h (G.jd 3) i = some (G.jd (100 + i)) := SX'.jsC S
theorem SX.jsT {h : PH} {G : Gh} (S : SX h G) : G.jj = true → ∀ i, i < 24 → hT h (G.jd (100 + i)) = 4 := SX'.jsT S
theorem ne_ow {G : Gh} {a b x y : Nat} (ha : G.ow a = x) (hb : G.ow b = y) (h : x ≠ y) : a ≠ b := fun q => h (by rw [← ha, ← hb, q])
