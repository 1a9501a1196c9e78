/-! the class's heap: its structure -/
def Gh : Type := (Nat) × (Nat) × (Nat) × (Nat) × (Nat) × (Nat) × (Nat → Nat) × (Nat → Nat) × (Nat → Nat) × (Nat → Nat → Nat) × (Nat) × (Nat → Nat) × (Nat → Nat) × (Nat) × (Bool) × (Nat → Nat) × (Nat → Nat)
def Gh.tk (X_ : Gh) : Nat := X_.1
def Gh.wk (X_ : Gh) : Nat := X_.2.1
def Gh.kd (X_ : Gh) : Nat := X_.2.2.1
def Gh.st (X_ : Gh) : Nat := X_.2.2.2.1
def Gh.vl (X_ : Gh) : Nat := X_.2.2.2.2.1
def Gh.pg (X_ : Gh) : Nat := X_.2.2.2.2.2.1
def Gh.rl (X_ : Gh) : Nat → Nat := X_.2.2.2.2.2.2.1
def Gh.ca (X_ : Gh) : Nat → Nat := X_.2.2.2.2.2.2.2.1
def Gh.hd (X_ : Gh) : Nat → Nat := X_.2.2.2.2.2.2.2.2.1
def Gh.cd (X_ : Gh) : Nat → Nat → Nat := X_.2.2.2.2.2.2.2.2.2.1
def Gh.nr (X_ : Gh) : Nat := X_.2.2.2.2.2.2.2.2.2.2.1
def Gh.nc (X_ : Gh) : Nat → Nat := X_.2.2.2.2.2.2.2.2.2.2.2.1
def Gh.te (X_ : Gh) : Nat → Nat := X_.2.2.2.2.2.2.2.2.2.2.2.2.1
def Gh.nt (X_ : Gh) : Nat := X_.2.2.2.2.2.2.2.2.2.2.2.2.2.1
def Gh.jj (X_ : Gh) : Bool := X_.2.2.2.2.2.2.2.2.2.2.2.2.2.2.1
def Gh.jd (X_ : Gh) : Nat → Nat := X_.2.2.2.2.2.2.2.2.2.2.2.2.2.2.2.1
def Gh.ow (X_ : Gh) : Nat → Nat := X_.2.2.2.2.2.2.2.2.2.2.2.2.2.2.2.2
def Gh.mk (tk_ : Nat) (wk_ : Nat) (kd_ : Nat) (st_ : Nat) (vl_ : Nat) (pg_ : Nat) (rl_ : Nat → Nat) (ca_ : Nat → Nat) (hd_ : Nat → Nat) (cd_ : Nat → Nat → Nat) (nr_ : Nat) (nc_ : Nat → Nat) (te_ : Nat → Nat) (nt_ : Nat) (jj_ : Bool) (jd_ : Nat → Nat) (ow_ : Nat → Nat) : Gh := (tk_, wk_, kd_, st_, vl_, pg_, rl_, ca_, hd_, cd_, nr_, nc_, te_, nt_, jj_, jd_, ow_)
def Gh.wT (G : Gh) (te : Nat → Nat) (nt : Nat) (ow : Nat → Nat) : Gh := Gh.mk G.tk G.wk G.kd G.st G.vl G.pg G.rl G.ca G.hd G.cd G.nr G.nc te nt G.jj G.jd ow
def Gh.wK (G : Gh) (tk wk : Nat) (ow : Nat → Nat) : Gh := Gh.mk tk wk G.kd G.st G.vl G.pg G.rl G.ca G.hd G.cd G.nr G.nc G.te G.nt G.jj G.jd ow
def SS' (R : Nat → Nat → Option Nat) (C : Nat → Nat → Option Nat) (T : Nat → Nat) (N : Nat → Nat) (Z : Nat) (ow : Nat → Nat) : Prop := (∀ i, Z ≤ i → T i = 0) ∧ (110 ≤ Z) ∧ (T 0 = 12) ∧ (T 1 = 1) ∧ (T 3 = 1) ∧ (T 5 = 2) ∧ (T 6 = 8) ∧ (T 8 = 8) ∧ (T 10 = 8) ∧ (T 12 = 8) ∧ (T 14 = 8) ∧ (T 23 = 5) ∧ (T 24 = 11) ∧ (T 7 = 102) ∧ (T 9 = 102) ∧ (T 11 = 102) ∧ (T 13 = 102) ∧ (T 15 = 102) ∧ (T 16 = 101) ∧ (T 17 = 101) ∧ (T 18 = 101) ∧ (T 19 = 104) ∧ (T 20 = 101) ∧ (T 21 = 101) ∧ (T 25 = 102) ∧ (T 29 = 101) ∧ (T 30 = 101) ∧ (T 31 = 106) ∧ (N 7 = 5) ∧ (N 9 = 12) ∧ (N 11 = 4) ∧ (N 13 = 10) ∧ (N 15 = 30) ∧ (N 16 = 12) ∧ (N 17 = 20) ∧ (N 18 = 50) ∧ (N 19 = 30) ∧ (N 20 = 20) ∧ (N 21 = 20) ∧ (N 25 = 18) ∧ (N 29 = 3) ∧ (N 30 = 20) ∧ (N 31 = 100) ∧ (R 1408 0 = some 1) ∧ (R 1409 0 = some 3) ∧ (R 1410 0 = some 5) ∧ (R 1411 0 = some 23) ∧ (R 1412 0 = some 31) ∧ (R 128 5 = some 6) ∧ (R 129 5 = some 8) ∧ (R 130 5 = some 10) ∧ (R 131 5 = some 12) ∧ (R 132 5 = some 14) ∧ (R 133 5 = some 16) ∧ (R 134 5 = some 17) ∧ (R 135 5 = some 18) ∧ (R 136 5 = some 19) ∧ (R 137 5 = some 20) ∧ (R 138 5 = some 21) ∧ (R 512 23 = some 5) ∧ (R 513 23 = some 24) ∧ (R 514 23 = some 29) ∧ (R 515 23 = some 30) ∧ (R 896 6 = some 7) ∧ (R 896 8 = some 9) ∧ (R 896 10 = some 11) ∧ (R 896 12 = some 13) ∧ (R 896 14 = some 15) ∧ (R 1280 24 = some 25) ∧ (ow 0 = 0) ∧ (ow 1 = 100001) ∧ (ow 3 = 200001) ∧ (ow 31 = 400000) ∧ (ow 5 = 800005) ∧ (ow 6 = 800006) ∧ (ow 7 = 300007) ∧ (ow 8 = 800008) ∧ (ow 9 = 300009) ∧ (ow 10 = 800010) ∧ (ow 11 = 300011) ∧ (ow 12 = 800012) ∧ (ow 13 = 300013) ∧ (ow 14 = 800014) ∧ (ow 15 = 300015) ∧ (ow 16 = 300016) ∧ (ow 17 = 600017) ∧ (ow 18 = 300018) ∧ (ow 19 = 300019) ∧ (ow 20 = 300020) ∧ (ow 21 = 300021) ∧ (ow 23 = 700023) ∧ (ow 24 = 700024) ∧ (ow 25 = 900025) ∧ (ow 29 = 700029) ∧ (ow 30 = 700030)
theorem SS'.fr {R : Nat → Nat → Option Nat} {C : Nat → Nat → Option Nat} {T : Nat → Nat} {N : Nat → Nat} {Z : Nat} {ow : Nat → Nat} (X_ : SS' R C T N Z ow) : ∀ i, Z ≤ i → T i = 0 := X_.1
theorem SS'.zz {R : Nat → Nat → Option Nat} {C : Nat → Nat → Option Nat} {T : Nat → Nat} {N : Nat → Nat} {Z : Nat} {ow : Nat → Nat} (X_ : SS' R C T N Z ow) : 110 ≤ Z := X_.2.1
theorem SS'.t0 {R : Nat → Nat → Option Nat} {C : Nat → Nat → Option Nat} {T : Nat → Nat} {N : Nat → Nat} {Z : Nat} {ow : Nat → Nat} (X_ : SS' R C T N Z ow) : T 0 = 12 := X_.2.2.1
theorem SS'.t1 {R : Nat → Nat → Option Nat} {C : Nat → Nat → Option Nat} {T : Nat → Nat} {N : Nat → Nat} {Z : Nat} {ow : Nat → Nat} (X_ : SS' R C T N Z ow) : T 1 = 1 := X_.2.2.2.1
theorem SS'.t3 {R : Nat → Nat → Option Nat} {C : Nat → Nat → Option Nat} {T : Nat → Nat} {N : Nat → Nat} {Z : Nat} {ow : Nat → Nat} (X_ : SS' R C T N Z ow) : T 3 = 1 := X_.2.2.2.2.1
theorem SS'.t5 {R : Nat → Nat → Option Nat} {C : Nat → Nat → Option Nat} {T : Nat → Nat} {N : Nat → Nat} {Z : Nat} {ow : Nat → Nat} (X_ : SS' R C T N Z ow) : T 5 = 2 := X_.2.2.2.2.2.1
theorem SS'.t6 {R : Nat → Nat → Option Nat} {C : Nat → Nat → Option Nat} {T : Nat → Nat} {N : Nat → Nat} {Z : Nat} {ow : Nat → Nat} (X_ : SS' R C T N Z ow) : T 6 = 8 := X_.2.2.2.2.2.2.1
theorem SS'.t8 {R : Nat → Nat → Option Nat} {C : Nat → Nat → Option Nat} {T : Nat → Nat} {N : Nat → Nat} {Z : Nat} {ow : Nat → Nat} (X_ : SS' R C T N Z ow) : T 8 = 8 := X_.2.2.2.2.2.2.2.1
theorem SS'.t10 {R : Nat → Nat → Option Nat} {C : Nat → Nat → Option Nat} {T : Nat → Nat} {N : Nat → Nat} {Z : Nat} {ow : Nat → Nat} (X_ : SS' R C T N Z ow) : T 10 = 8 := X_.2.2.2.2.2.2.2.2.1
theorem SS'.t12 {R : Nat → Nat → Option Nat} {C : Nat → Nat → Option Nat} {T : Nat → Nat} {N : Nat → Nat} {Z : Nat} {ow : Nat → Nat} (X_ : SS' R C T N Z ow) : T 12 = 8 := X_.2.2.2.2.2.2.2.2.2.1
theorem SS'.t14 {R : Nat → Nat → Option Nat} {C : Nat → Nat → Option Nat} {T : Nat → Nat} {N : Nat → Nat} {Z : Nat} {ow : Nat → Nat} (X_ : SS' R C T N Z ow) : T 14 = 8 := X_.2.2.2.2.2.2.2.2.2.2.1
theorem SS'.t23 {R : Nat → Nat → Option Nat} {C : Nat → Nat → Option Nat} {T : Nat → Nat} {N : Nat → Nat} {Z : Nat} {ow : Nat → Nat} (X_ : SS' R C T N Z ow) : T 23 = 5 := X_.2.2.2.2.2.2.2.2.2.2.2.1
theorem SS'.t24 {R : Nat → Nat → Option Nat} {C : Nat → Nat → Option Nat} {T : Nat → Nat} {N : Nat → Nat} {Z : Nat} {ow : Nat → Nat} (X_ : SS' R C T N Z ow) : T 24 = 11 := X_.2.2.2.2.2.2.2.2.2.2.2.2.1
theorem SS'.t7 {R : Nat → Nat → Option Nat} {C : Nat → Nat → Option Nat} {T : Nat → Nat} {N : Nat → Nat} {Z : Nat} {ow : Nat → Nat} (X_ : SS' R C T N Z ow) : T 7 = 102 := X_.2.2.2.2.2.2.2.2.2.2.2.2.2.1
theorem SS'.t9 {R : Nat → Nat → Option Nat} {C : Nat → Nat → Option Nat} {T : Nat → Nat} {N : Nat → Nat} {Z : Nat} {ow : Nat → Nat} (X_ : SS' R C T N Z ow) : T 9 = 102 := X_.2.2.2.2.2.2.2.2.2.2.2.2.2.2.1
theorem SS'.t11 {R : Nat → Nat → Option Nat} {C : Nat → Nat → Option Nat} {T : Nat → Nat} {N : Nat → Nat} {Z : Nat} {ow : Nat → Nat} (X_ : SS' R C T N Z ow) : T 11 = 102 := X_.2.2.2.2.2.2.2.2.2.2.2.2.2.2.2.1
theorem SS'.t13 {R : Nat → Nat → Option Nat} {C : Nat → Nat → Option Nat} {T : Nat → Nat} {N : Nat → Nat} {Z : Nat} {ow : Nat → Nat} (X_ : SS' R C T N Z ow) : T 13 = 102 := X_.2.2.2.2.2.2.2.2.2.2.2.2.2.2.2.2.1
theorem SS'.t15 {R : Nat → Nat → Option Nat} {C : Nat → Nat → Option Nat} {T : Nat → Nat} {N : Nat → Nat} {Z : Nat} {ow : Nat → Nat} (X_ : SS' R C T N Z ow) : T 15 = 102 := X_.2.2.2.2.2.2.2.2.2.2.2.2.2.2.2.2.2.1
theorem SS'.t16 {R : Nat → Nat → Option Nat} {C : Nat → Nat → Option Nat} {T : Nat → Nat} {N : Nat → Nat} {Z : Nat} {ow : Nat → Nat} (X_ : SS' R C T N Z ow) : T 16 = 101 := X_.2.2.2.2.2.2.2.2.2.2.2.2.2.2.2.2.2.2.1
theorem SS'.t17 {R : Nat → Nat → Option Nat} {C : Nat → Nat → Option Nat} {T : Nat → Nat} {N : Nat → Nat} {Z : Nat} {ow : Nat → Nat} (X_ : SS' R C T N Z ow) : T 17 = 101 := X_.2.2.2.2.2.2.2.2.2.2.2.2.2.2.2.2.2.2.2.1
theorem SS'.t18 {R : Nat → Nat → Option Nat} {C : Nat → Nat → Option Nat} {T : Nat → Nat} {N : Nat → Nat} {Z : Nat} {ow : Nat → Nat} (X_ : SS' R C T N Z ow) : T 18 = 101 := X_.2.2.2.2.2.2.2.2.2.2.2.2.2.2.2.2.2.2.2.2.1
theorem SS'.t19 {R : Nat → Nat → Option Nat} {C : Nat → Nat → Option Nat} {T : Nat → Nat} {N : Nat → Nat} {Z : Nat} {ow : Nat → Nat} (X_ : SS' R C T N Z ow) : T 19 = 104 := X_.2.2.2.2.2.2.2.2.2.2.2.2.2.2.2.2.2.2.2.2.2.1
theorem SS'.t20 {R : Nat → Nat → Option Nat} {C : Nat → Nat → Option Nat} {T : Nat → Nat} {N : Nat → Nat} {Z : Nat} {ow : Nat → Nat} (X_ : SS' R C T N Z ow) : T 20 = 101 := X_.2.2.2.2.2.2.2.2.2.2.2.2.2.2.2.2.2.2.2.2.2.2.1
theorem SS'.t21 {R : Nat → Nat → Option Nat} {C : Nat → Nat → Option Nat} {T : Nat → Nat} {N : Nat → Nat} {Z : Nat} {ow : Nat → Nat} (X_ : SS' R C T N Z ow) : T 21 = 101 := X_.2.2.2.2.2.2.2.2.2.2.2.2.2.2.2.2.2.2.2.2.2.2.2.1
theorem SS'.t25 {R : Nat → Nat → Option Nat} {C : Nat → Nat → Option Nat} {T : Nat → Nat} {N : Nat → Nat} {Z : Nat} {ow : Nat → Nat} (X_ : SS' R C T N Z ow) : T 25 = 102 := X_.2.2.2.2.2.2.2.2.2.2.2.2.2.2.2.2.2.2.2.2.2.2.2.2.1
theorem SS'.t29 {R : Nat → Nat → Option Nat} {C : Nat → Nat → Option Nat} {T : Nat → Nat} {N : Nat → Nat} {Z : Nat} {ow : Nat → Nat} (X_ : SS' R C T N Z ow) : T 29 = 101 := X_.2.2.2.2.2.2.2.2.2.2.2.2.2.2.2.2.2.2.2.2.2.2.2.2.2.1
theorem SS'.t30 {R : Nat → Nat → Option Nat} {C : Nat → Nat → Option Nat} {T : Nat → Nat} {N : Nat → Nat} {Z : Nat} {ow : Nat → Nat} (X_ : SS' R C T N Z ow) : T 30 = 101 := X_.2.2.2.2.2.2.2.2.2.2.2.2.2.2.2.2.2.2.2.2.2.2.2.2.2.2.1
theorem SS'.t31 {R : Nat → Nat → Option Nat} {C : Nat → Nat → Option Nat} {T : Nat → Nat} {N : Nat → Nat} {Z : Nat} {ow : Nat → Nat} (X_ : SS' R C T N Z ow) : T 31 = 106 := X_.2.2.2.2.2.2.2.2.2.2.2.2.2.2.2.2.2.2.2.2.2.2.2.2.2.2.2.1
theorem SS'.n7 {R : Nat → Nat → Option Nat} {C : Nat → Nat → Option Nat} {T : Nat → Nat} {N : Nat → Nat} {Z : Nat} {ow : Nat → Nat} (X_ : SS' R C T N Z ow) : N 7 = 5 := X_.2.2.2.2.2.2.2.2.2.2.2.2.2.2.2.2.2.2.2.2.2.2.2.2.2.2.2.2.1
theorem SS'.n9 {R : Nat → Nat → Option Nat} {C : Nat → Nat → Option Nat} {T : Nat → Nat} {N : Nat → Nat} {Z : Nat} {ow : Nat → Nat} (X_ : SS' R C T N Z ow) : N 9 = 12 := X_.2.2.2.2.2.2.2.2.2.2.2.2.2.2.2.2.2.2.2.2.2.2.2.2.2.2.2.2.2.1
theorem SS'.n11 {R : Nat → Nat → Option Nat} {C : Nat → Nat → Option Nat} {T : Nat → Nat} {N : Nat → Nat} {Z : Nat} {ow : Nat → Nat} (X_ : SS' R C T N Z ow) : N 11 = 4 := X_.2.2.2.2.2.2.2.2.2.2.2.2.2.2.2.2.2.2.2.2.2.2.2.2.2.2.2.2.2.2.1
theorem SS'.n13 {R : Nat → Nat → Option Nat} {C : Nat → Nat → Option Nat} {T : Nat → Nat} {N : Nat → Nat} {Z : Nat} {ow : Nat → Nat} (X_ : SS' R C T N Z ow) : N 13 = 10 := X_.2.2.2.2.2.2.2.2.2.2.2.2.2.2.2.2.2.2.2.2.2.2.2.2.2.2.2.2.2.2.2.1
theorem SS'.n15 {R : Nat → Nat → Option Nat} {C : Nat → Nat → Option Nat} {T : Nat → Nat} {N : Nat → Nat} {Z : Nat} {ow : Nat → Nat} (X_ : SS' R C T N Z ow) : N 15 = 30 := X_.2.2.2.2.2.2.2.2.2.2.2.2.2.2.2.2.2.2.2.2.2.2.2.2.2.2.2.2.2.2.2.2.1
theorem SS'.n16 {R : Nat → Nat → Option Nat} {C : Nat → Nat → Option Nat} {T : Nat → Nat} {N : Nat → Nat} {Z : Nat} {ow : Nat → Nat} (X_ : SS' R C T N Z ow) : N 16 = 12 := X_.2.2.2.2.2.2.2.2.2.2.2.2.2.2.2.2.2.2.2.2.2.2.2.2.2.2.2.2.2.2.2.2.2.1
theorem SS'.n17 {R : Nat → Nat → Option Nat} {C : Nat → Nat → Option Nat} {T : Nat → Nat} {N : Nat → Nat} {Z : Nat} {ow : Nat → Nat} (X_ : SS' R C T N Z ow) : N 17 = 20 := X_.2.2.2.2.2.2.2.2.2.2.2.2.2.2.2.2.2.2.2.2.2.2.2.2.2.2.2.2.2.2.2.2.2.2.1
theorem SS'.n18 {R : Nat → Nat → Option Nat} {C : Nat → Nat → Option Nat} {T : Nat → Nat} {N : Nat → Nat} {Z : Nat} {ow : Nat → Nat} (X_ : SS' R C T N Z ow) : N 18 = 50 := X_.2.2.2.2.2.2.2.2.2.2.2.2.2.2.2.2.2.2.2.2.2.2.2.2.2.2.2.2.2.2.2.2.2.2.2.1
theorem SS'.n19 {R : Nat → Nat → Option Nat} {C : Nat → Nat → Option Nat} {T : Nat → Nat} {N : Nat → Nat} {Z : Nat} {ow : Nat → Nat} (X_ : SS' R C T N Z ow) : N 19 = 30 := X_.2.2.2.2.2.2.2.2.2.2.2.2.2.2.2.2.2.2.2.2.2.2.2.2.2.2.2.2.2.2.2.2.2.2.2.2.1
theorem SS'.n20 {R : Nat → Nat → Option Nat} {C : Nat → Nat → Option Nat} {T : Nat → Nat} {N : Nat → Nat} {Z : Nat} {ow : Nat → Nat} (X_ : SS' R C T N Z ow) : N 20 = 20 := X_.2.2.2.2.2.2.2.2.2.2.2.2.2.2.2.2.2.2.2.2.2.2.2.2.2.2.2.2.2.2.2.2.2.2.2.2.2.1
theorem SS'.n21 {R : Nat → Nat → Option Nat} {C : Nat → Nat → Option Nat} {T : Nat → Nat} {N : Nat → Nat} {Z : Nat} {ow : Nat → Nat} (X_ : SS' R C T N Z ow) : N 21 = 20 := X_.2.2.2.2.2.2.2.2.2.2.2.2.2.2.2.2.2.2.2.2.2.2.2.2.2.2.2.2.2.2.2.2.2.2.2.2.2.2.1
theorem SS'.n25 {R : Nat → Nat → Option Nat} {C : Nat → Nat → Option Nat} {T : Nat → Nat} {N : Nat → Nat} {Z : Nat} {ow : Nat → Nat} (X_ : SS' R C T N Z ow) : N 25 = 18 := X_.2.2.2.2.2.2.2.2.2.2.2.2.2.2.2.2.2.2.2.2.2.2.2.2.2.2.2.2.2.2.2.2.2.2.2.2.2.2.2.1
theorem SS'.n29 {R : Nat → Nat → Option Nat} {C : Nat → Nat → Option Nat} {T : Nat → Nat} {N : Nat → Nat} {Z : Nat} {ow : Nat → Nat} (X_ : SS' R C T N Z ow) : N 29 = 3 := X_.2.2.2.2.2.2.2.2.2.2.2.2.2.2.2.2.2.2.2.2.2.2.2.2.2.2.2.2.2.2.2.2.2.2.2.2.2.2.2.2.1
theorem SS'.n30 {R : Nat → Nat → Option Nat} {C : Nat → Nat → Option Nat} {T : Nat → Nat} {N : Nat → Nat} {Z : Nat} {ow : Nat → Nat} (X_ : SS' R C T N Z ow) : N 30 = 20 := X_.2.2.2.2.2.2.2.2.2.2.2.2.2.2.2.2.2.2.2.2.2.2.2.2.2.2.2.2.2.2.2.2.2.2.2.2.2.2.2.2.2.1
theorem SS'.n31 {R : Nat → Nat → Option Nat} {C : Nat → Nat → Option Nat} {T : Nat → Nat} {N : Nat → Nat} {Z : Nat} {ow : Nat → Nat} (X_ : SS' R C T N Z ow) : N 31 = 100 := X_.2.2.2.2.2.2.2.2.2.2.2.2.2.2.2.2.2.2.2.2.2.2.2.2.2.2.2.2.2.2.2.2.2.2.2.2.2.2.2.2.2.2.1
theorem SS'.r1408_0 {R : Nat → Nat → Option Nat} {C : Nat → Nat → Option Nat} {T : Nat → Nat} {N : Nat → Nat} {Z : Nat} {ow : Nat → Nat} (X_ : SS' R C T N Z ow) : R 1408 0 = some 1 := X_.2.2.2.2.2.2.2.2.2.2.2.2.2.2.2.2.2.2.2.2.2.2.2.2.2.2.2.2.2.2.2.2.2.2.2.2.2.2.2.2.2.2.2.1
theorem SS'.r1409_0 {R : Nat → Nat → Option Nat} {C : Nat → Nat → Option Nat} {T : Nat → Nat} {N : Nat → Nat} {Z : Nat} {ow : Nat → Nat} (X_ : SS' R C T N Z ow) : R 1409 0 = some 3 := X_.2.2.2.2.2.2.2.2.2.2.2.2.2.2.2.2.2.2.2.2.2.2.2.2.2.2.2.2.2.2.2.2.2.2.2.2.2.2.2.2.2.2.2.2.1
theorem SS'.r1410_0 {R : Nat → Nat → Option Nat} {C : Nat → Nat → Option Nat} {T : Nat → Nat} {N : Nat → Nat} {Z : Nat} {ow : Nat → Nat} (X_ : SS' R C T N Z ow) : R 1410 0 = some 5 := X_.2.2.2.2.2.2.2.2.2.2.2.2.2.2.2.2.2.2.2.2.2.2.2.2.2.2.2.2.2.2.2.2.2.2.2.2.2.2.2.2.2.2.2.2.2.1
theorem SS'.r1411_0 {R : Nat → Nat → Option Nat} {C : Nat → Nat → Option Nat} {T : Nat → Nat} {N : Nat → Nat} {Z : Nat} {ow : Nat → Nat} (X_ : SS' R C T N Z ow) : R 1411 0 = some 23 := X_.2.2.2.2.2.2.2.2.2.2.2.2.2.2.2.2.2.2.2.2.2.2.2.2.2.2.2.2.2.2.2.2.2.2.2.2.2.2.2.2.2.2.2.2.2.2.1
theorem SS'.r1412_0 {R : Nat → Nat → Option Nat} {C : Nat → Nat → Option Nat} {T : Nat → Nat} {N : Nat → Nat} {Z : Nat} {ow : Nat → Nat} (X_ : SS' R C T N Z ow) : R 1412 0 = some 31 := X_.2.2.2.2.2.2.2.2.2.2.2.2.2.2.2.2.2.2.2.2.2.2.2.2.2.2.2.2.2.2.2.2.2.2.2.2.2.2.2.2.2.2.2.2.2.2.2.1
theorem SS'.r128_5 {R : Nat → Nat → Option Nat} {C : Nat → Nat → Option Nat} {T : Nat → Nat} {N : Nat → Nat} {Z : Nat} {ow : Nat → Nat} (X_ : SS' R C T N Z ow) : R 128 5 = some 6 := X_.2.2.2.2.2.2.2.2.2.2.2.2.2.2.2.2.2.2.2.2.2.2.2.2.2.2.2.2.2.2.2.2.2.2.2.2.2.2.2.2.2.2.2.2.2.2.2.2.1
theorem SS'.r129_5 {R : Nat → Nat → Option Nat} {C : Nat → Nat → Option Nat} {T : Nat → Nat} {N : Nat → Nat} {Z : Nat} {ow : Nat → Nat} (X_ : SS' R C T N Z ow) : R 129 5 = some 8 := X_.2.2.2.2.2.2.2.2.2.2.2.2.2.2.2.2.2.2.2.2.2.2.2.2.2.2.2.2.2.2.2.2.2.2.2.2.2.2.2.2.2.2.2.2.2.2.2.2.2.1
theorem SS'.r130_5 {R : Nat → Nat → Option Nat} {C : Nat → Nat → Option Nat} {T : Nat → Nat} {N : Nat → Nat} {Z : Nat} {ow : Nat → Nat} (X_ : SS' R C T N Z ow) : R 130 5 = some 10 := X_.2.2.2.2.2.2.2.2.2.2.2.2.2.2.2.2.2.2.2.2.2.2.2.2.2.2.2.2.2.2.2.2.2.2.2.2.2.2.2.2.2.2.2.2.2.2.2.2.2.2.1
theorem SS'.r131_5 {R : Nat → Nat → Option Nat} {C : Nat → Nat → Option Nat} {T : Nat → Nat} {N : Nat → Nat} {Z : Nat} {ow : Nat → Nat} (X_ : SS' R C T N Z ow) : R 131 5 = some 12 := X_.2.2.2.2.2.2.2.2.2.2.2.2.2.2.2.2.2.2.2.2.2.2.2.2.2.2.2.2.2.2.2.2.2.2.2.2.2.2.2.2.2.2.2.2.2.2.2.2.2.2.2.1
theorem SS'.r132_5 {R : Nat → Nat → Option Nat} {C : Nat → Nat → Option Nat} {T : Nat → Nat} {N : Nat → Nat} {Z : Nat} {ow : Nat → Nat} (X_ : SS' R C T N Z ow) : R 132 5 = some 14 := X_.2.2.2.2.2.2.2.2.2.2.2.2.2.2.2.2.2.2.2.2.2.2.2.2.2.2.2.2.2.2.2.2.2.2.2.2.2.2.2.2.2.2.2.2.2.2.2.2.2.2.2.2.1
theorem SS'.r133_5 {R : Nat → Nat → Option Nat} {C : Nat → Nat → Option Nat} {T : Nat → Nat} {N : Nat → Nat} {Z : Nat} {ow : Nat → Nat} (X_ : SS' R C T N Z ow) : R 133 5 = some 16 := X_.2.2.2.2.2.2.2.2.2.2.2.2.2.2.2.2.2.2.2.2.2.2.2.2.2.2.2.2.2.2.2.2.2.2.2.2.2.2.2.2.2.2.2.2.2.2.2.2.2.2.2.2.2.1
theorem SS'.r134_5 {R : Nat → Nat → Option Nat} {C : Nat → Nat → Option Nat} {T : Nat → Nat} {N : Nat → Nat} {Z : Nat} {ow : Nat → Nat} (X_ : SS' R C T N Z ow) : R 134 5 = some 17 := X_.2.2.2.2.2.2.2.2.2.2.2.2.2.2.2.2.2.2.2.2.2.2.2.2.2.2.2.2.2.2.2.2.2.2.2.2.2.2.2.2.2.2.2.2.2.2.2.2.2.2.2.2.2.2.1
theorem SS'.r135_5 {R : Nat → Nat → Option Nat} {C : Nat → Nat → Option Nat} {T : Nat → Nat} {N : Nat → Nat} {Z : Nat} {ow : Nat → Nat} (X_ : SS' R C T N Z ow) : R 135 5 = some 18 := X_.2.2.2.2.2.2.2.2.2.2.2.2.2.2.2.2.2.2.2.2.2.2.2.2.2.2.2.2.2.2.2.2.2.2.2.2.2.2.2.2.2.2.2.2.2.2.2.2.2.2.2.2.2.2.2.1
theorem SS'.r136_5 {R : Nat → Nat → Option Nat} {C : Nat → Nat → Option Nat} {T : Nat → Nat} {N : Nat → Nat} {Z : Nat} {ow : Nat → Nat} (X_ : SS' R C T N Z ow) : R 136 5 = some 19 := X_.2.2.2.2.2.2.2.2.2.2.2.2.2.2.2.2.2.2.2.2.2.2.2.2.2.2.2.2.2.2.2.2.2.2.2.2.2.2.2.2.2.2.2.2.2.2.2.2.2.2.2.2.2.2.2.2.1
theorem SS'.r137_5 {R : Nat → Nat → Option Nat} {C : Nat → Nat → Option Nat} {T : Nat → Nat} {N : Nat → Nat} {Z : Nat} {ow : Nat → Nat} (X_ : SS' R C T N Z ow) : R 137 5 = some 20 := X_.2.2.2.2.2.2.2.2.2.2.2.2.2.2.2.2.2.2.2.2.2.2.2.2.2.2.2.2.2.2.2.2.2.2.2.2.2.2.2.2.2.2.2.2.2.2.2.2.2.2.2.2.2.2.2.2.2.1
theorem SS'.r138_5 {R : Nat → Nat → Option Nat} {C : Nat → Nat → Option Nat} {T : Nat → Nat} {N : Nat → Nat} {Z : Nat} {ow : Nat → Nat} (X_ : SS' R C T N Z ow) : R 138 5 = some 21 := X_.2.2.2.2.2.2.2.2.2.2.2.2.2.2.2.2.2.2.2.2.2.2.2.2.2.2.2.2.2.2.2.2.2.2.2.2.2.2.2.2.2.2.2.2.2.2.2.2.2.2.2.2.2.2.2.2.2.2.1
theorem SS'.r512_23 {R : Nat → Nat → Option Nat} {C : Nat → Nat → Option Nat} {T : Nat → Nat} {N : Nat → Nat} {Z : Nat} {ow : Nat → Nat} (X_ : SS' R C T N Z ow) : R 512 23 = some 5 := X_.2.2.2.2.2.2.2.2.2.2.2.2.2.2.2.2.2.2.2.2.2.2.2.2.2.2.2.2.2.2.2.2.2.2.2.2.2.2.2.2.2.2.2.2.2.2.2.2.2.2.2.2.2.2.2.2.2.2.2.1
theorem SS'.r513_23 {R : Nat → Nat → Option Nat} {C : Nat → Nat → Option Nat} {T : Nat → Nat} {N : Nat → Nat} {Z : Nat} {ow : Nat → Nat} (X_ : SS' R C T N Z ow) : R 513 23 = some 24 := X_.2.2.2.2.2.2.2.2.2.2.2.2.2.2.2.2.2.2.2.2.2.2.2.2.2.2.2.2.2.2.2.2.2.2.2.2.2.2.2.2.2.2.2.2.2.2.2.2.2.2.2.2.2.2.2.2.2.2.2.2.1
theorem SS'.r514_23 {R : Nat → Nat → Option Nat} {C : Nat → Nat → Option Nat} {T : Nat → Nat} {N : Nat → Nat} {Z : Nat} {ow : Nat → Nat} (X_ : SS' R C T N Z ow) : R 514 23 = some 29 := X_.2.2.2.2.2.2.2.2.2.2.2.2.2.2.2.2.2.2.2.2.2.2.2.2.2.2.2.2.2.2.2.2.2.2.2.2.2.2.2.2.2.2.2.2.2.2.2.2.2.2.2.2.2.2.2.2.2.2.2.2.2.1
theorem SS'.r515_23 {R : Nat → Nat → Option Nat} {C : Nat → Nat → Option Nat} {T : Nat → Nat} {N : Nat → Nat} {Z : Nat} {ow : Nat → Nat} (X_ : SS' R C T N Z ow) : R 515 23 = some 30 := X_.2.2.2.2.2.2.2.2.2.2.2.2.2.2.2.2.2.2.2.2.2.2.2.2.2.2.2.2.2.2.2.2.2.2.2.2.2.2.2.2.2.2.2.2.2.2.2.2.2.2.2.2.2.2.2.2.2.2.2.2.2.2.1
theorem SS'.r896_6 {R : Nat → Nat → Option Nat} {C : Nat → Nat → Option Nat} {T : Nat → Nat} {N : Nat → Nat} {Z : Nat} {ow : Nat → Nat} (X_ : SS' R C T N Z ow) : R 896 6 = some 7 := X_.2.2.2.2.2.2.2.2.2.2.2.2.2.2.2.2.2.2.2.2.2.2.2.2.2.2.2.2.2.2.2.2.2.2.2.2.2.2.2.2.2.2.2.2.2.2.2.2.2.2.2.2.2.2.2.2.2.2.2.2.2.2.2.1
theorem SS'.r896_8 {R : Nat → Nat → Option Nat} {C : Nat → Nat → Option Nat} {T : Nat → Nat} {N : Nat → Nat} {Z : Nat} {ow : Nat → Nat} (X_ : SS' R C T N Z ow) : R 896 8 = some 9 := X_.2.2.2.2.2.2.2.2.2.2.2.2.2.2.2.2.2.2.2.2.2.2.2.2.2.2.2.2.2.2.2.2.2.2.2.2.2.2.2.2.2.2.2.2.2.2.2.2.2.2.2.2.2.2.2.2.2.2.2.2.2.2.2.2.1
theorem SS'.r896_10 {R : Nat → Nat → Option Nat} {C : Nat → Nat → Option Nat} {T : Nat → Nat} {N : Nat → Nat} {Z : Nat} {ow : Nat → Nat} (X_ : SS' R C T N Z ow) : R 896 10 = some 11 := X_.2.2.2.2.2.2.2.2.2.2.2.2.2.2.2.2.2.2.2.2.2.2.2.2.2.2.2.2.2.2.2.2.2.2.2.2.2.2.2.2.2.2.2.2.2.2.2.2.2.2.2.2.2.2.2.2.2.2.2.2.2.2.2.2.2.1
theorem SS'.r896_12 {R : Nat → Nat → Option Nat} {C : Nat → Nat → Option Nat} {T : Nat → Nat} {N : Nat → Nat} {Z : Nat} {ow : Nat → Nat} (X_ : SS' R C T N Z ow) : R 896 12 = some 13 := X_.2.2.2.2.2.2.2.2.2.2.2.2.2.2.2.2.2.2.2.2.2.2.2.2.2.2.2.2.2.2.2.2.2.2.2.2.2.2.2.2.2.2.2.2.2.2.2.2.2.2.2.2.2.2.2.2.2.2.2.2.2.2.2.2.2.2.1
theorem SS'.r896_14 {R : Nat → Nat → Option Nat} {C : Nat → Nat → Option Nat} {T : Nat → Nat} {N : Nat → Nat} {Z : Nat} {ow : Nat → Nat} (X_ : SS' R C T N Z ow) : R 896 14 = some 15 := X_.2.2.2.2.2.2.2.2.2.2.2.2.2.2.2.2.2.2.2.2.2.2.2.2.2.2.2.2.2.2.2.2.2.2.2.2.2.2.2.2.2.2.2.2.2.2.2.2.2.2.2.2.2.2.2.2.2.2.2.2.2.2.2.2.2.2.2.1
theorem SS'.r1280_24 {R : Nat → Nat → Option Nat} {C : Nat → Nat → Option Nat} {T : Nat → Nat} {N : Nat → Nat} {Z : Nat} {ow : Nat → Nat} (X_ : SS' R C T N Z ow) : R 1280 24 = some 25 := X_.2.2.2.2.2.2.2.2.2.2.2.2.2.2.2.2.2.2.2.2.2.2.2.2.2.2.2.2.2.2.2.2.2.2.2.2.2.2.2.2.2.2.2.2.2.2.2.2.2.2.2.2.2.2.2.2.2.2.2.2.2.2.2.2.2.2.2.2.1
theorem SS'.o0 {R : Nat → Nat → Option Nat} {C : Nat → Nat → Option Nat} {T : Nat → Nat} {N : Nat → Nat} {Z : Nat} {ow : Nat → Nat} (X_ : SS' R C T N Z ow) : ow 0 = 0 := X_.2.2.2.2.2.2.2.2.2.2.2.2.2.2.2.2.2.2.2.2.2.2.2.2.2.2.2.2.2.2.2.2.2.2.2.2.2.2.2.2.2.2.2.2.2.2.2.2.2.2.2.2.2.2.2.2.2.2.2.2.2.2.2.2.2.2.2.2.2.1
theorem SS'.o1 {R : Nat → Nat → Option Nat} {C : Nat → Nat → Option Nat} {T : Nat → Nat} {N : Nat → Nat} {Z : Nat} {ow : Nat → Nat} (X_ : SS' R C T N Z ow) : ow 1 = 100001 := X_.2.2.2.2.2.2.2.2.2.2.2.2.2.2.2.2.2.2.2.2.2.2.2.2.2.2.2.2.2.2.2.2.2.2.2.2.2.2.2.2.2.2.2.2.2.2.2.2.2.2.2.2.2.2.2.2.2.2.2.2.2.2.2.2.2.2.2.2.2.2.1
theorem SS'.o3 {R : Nat → Nat → Option Nat} {C : Nat → Nat → Option Nat} {T : Nat → Nat} {N : Nat → Nat} {Z : Nat} {ow : Nat → Nat} (X_ : SS' R C T N Z ow) : ow 3 = 200001 := X_.2.2.2.2.2.2.2.2.2.2.2.2.2.2.2.2.2.2.2.2.2.2.2.2.2.2.2.2.2.2.2.2.2.2.2.2.2.2.2.2.2.2.2.2.2.2.2.2.2.2.2.2.2.2.2.2.2.2.2.2.2.2.2.2.2.2.2.2.2.2.2.1
theorem SS'.o31 {R : Nat → Nat → Option Nat} {C : Nat → Nat → Option Nat} {T : Nat → Nat} {N : Nat → Nat} {Z : Nat} {ow : Nat → Nat} (X_ : SS' R C T N Z ow) : ow 31 = 400000 := X_.2.2.2.2.2.2.2.2.2.2.2.2.2.2.2.2.2.2.2.2.2.2.2.2.2.2.2.2.2.2.2.2.2.2.2.2.2.2.2.2.2.2.2.2.2.2.2.2.2.2.2.2.2.2.2.2.2.2.2.2.2.2.2.2.2.2.2.2.2.2.2.2.1
theorem SS'.o5 {R : Nat → Nat → Option Nat} {C : Nat → Nat → Option Nat} {T : Nat → Nat} {N : Nat → Nat} {Z : Nat} {ow : Nat → Nat} (X_ : SS' R C T N Z ow) : ow 5 = 800005 := X_.2.2.2.2.2.2.2.2.2.2.2.2.2.2.2.2.2.2.2.2.2.2.2.2.2.2.2.2.2.2.2.2.2.2.2.2.2.2.2.2.2.2.2.2.2.2.2.2.2.2.2.2.2.2.2.2.2.2.2.2.2.2.2.2.2.2.2.2.2.2.2.2.2.1
theorem SS'.o6 {R : Nat → Nat → Option Nat} {C : Nat → Nat → Option Nat} {T : Nat → Nat} {N : Nat → Nat} {Z : Nat} {ow : Nat → Nat} (X_ : SS' R C T N Z ow) : ow 6 = 800006 := X_.2.2.2.2.2.2.2.2.2.2.2.2.2.2.2.2.2.2.2.2.2.2.2.2.2.2.2.2.2.2.2.2.2.2.2.2.2.2.2.2.2.2.2.2.2.2.2.2.2.2.2.2.2.2.2.2.2.2.2.2.2.2.2.2.2.2.2.2.2.2.2.2.2.2.1
theorem SS'.o7 {R : Nat → Nat → Option Nat} {C : Nat → Nat → Option Nat} {T : Nat → Nat} {N : Nat → Nat} {Z : Nat} {ow : Nat → Nat} (X_ : SS' R C T N Z ow) : ow 7 = 300007 := X_.2.2.2.2.2.2.2.2.2.2.2.2.2.2.2.2.2.2.2.2.2.2.2.2.2.2.2.2.2.2.2.2.2.2.2.2.2.2.2.2.2.2.2.2.2.2.2.2.2.2.2.2.2.2.2.2.2.2.2.2.2.2.2.2.2.2.2.2.2.2.2.2.2.2.2.1
theorem SS'.o8 {R : Nat → Nat → Option Nat} {C : Nat → Nat → Option Nat} {T : Nat → Nat} {N : Nat → Nat} {Z : Nat} {ow : Nat → Nat} (X_ : SS' R C T N Z ow) : ow 8 = 800008 := X_.2.2.2.2.2.2.2.2.2.2.2.2.2.2.2.2.2.2.2.2.2.2.2.2.2.2.2.2.2.2.2.2.2.2.2.2.2.2.2.2.2.2.2.2.2.2.2.2.2.2.2.2.2.2.2.2.2.2.2.2.2.2.2.2.2.2.2.2.2.2.2.2.2.2.2.2.1
theorem SS'.o9 {R : Nat → Nat → Option Nat} {C : Nat → Nat → Option Nat} {T : Nat → Nat} {N : Nat → Nat} {Z : Nat} {ow : Nat → Nat} (X_ : SS' R C T N Z ow) : ow 9 = 300009 := X_.2.2.2.2.2.2.2.2.2.2.2.2.2.2.2.2.2.2.2.2.2.2.2.2.2.2.2.2.2.2.2.2.2.2.2.2.2.2.2.2.2.2.2.2.2.2.2.2.2.2.2.2.2.2.2.2.2.2.2.2.2.2.2.2.2.2.2.2.2.2.2.2.2.2.2.2.2.1
theorem SS'.o10 {R : Nat → Nat → Option Nat} {C : Nat → Nat → Option Nat} {T : Nat → Nat} {N : Nat → Nat} {Z : Nat} {ow : Nat → Nat} (X_ : SS' R C T N Z ow) : ow 10 = 800010 := X_.2.2.2.2.2.2.2.2.2.2.2.2.2.2.2.2.2.2.2.2.2.2.2.2.2.2.2.2.2.2.2.2.2.2.2.2.2.2.2.2.2.2.2.2.2.2.2.2.2.2.2.2.2.2.2.2.2.2.2.2.2.2.2.2.2.2.2.2.2.2.2.2.2.2.2.2.2.2.1
theorem SS'.o11 {R : Nat → Nat → Option Nat} {C : Nat → Nat → Option Nat} {T : Nat → Nat} {N : Nat → Nat} {Z : Nat} {ow : Nat → Nat} (X_ : SS' R C T N Z ow) : ow 11 = 300011 := X_.2.2.2.2.2.2.2.2.2.2.2.2.2.2.2.2.2.2.2.2.2.2.2.2.2.2.2.2.2.2.2.2.2.2.2.2.2.2.2.2.2.2.2.2.2.2.2.2.2.2.2.2.2.2.2.2.2.2.2.2.2.2.2.2.2.2.2.2.2.2.2.2.2.2.2.2.2.2.2.1
theorem SS'.o12 {R : Nat → Nat → Option Nat} {C : Nat → Nat → Option Nat} {T : Nat → Nat} {N : Nat → Nat} {Z : Nat} {ow : Nat → Nat} (X_ : SS' R C T N Z ow) : ow 12 = 800012 := X_.2.2.2.2.2.2.2.2.2.2.2.2.2.2.2.2.2.2.2.2.2.2.2.2.2.2.2.2.2.2.2.2.2.2.2.2.2.2.2.2.2.2.2.2.2.2.2.2.2.2.2.2.2.2.2.2.2.2.2.2.2.2.2.2.2.2.2.2.2.2.2.2.2.2.2.2.2.2.2.2.1
theorem SS'.o13 {R : Nat → Nat → Option Nat} {C : Nat → Nat → Option Nat} {T : Nat → Nat} {N : Nat → Nat} {Z : Nat} {ow : Nat → Nat} (X_ : SS' R C T N Z ow) : ow 13 = 300013 := X_.2.2.2.2.2.2.2.2.2.2.2.2.2.2.2.2.2.2.2.2.2.2.2.2.2.2.2.2.2.2.2.2.2.2.2.2.2.2.2.2.2.2.2.2.2.2.2.2.2.2.2.2.2.2.2.2.2.2.2.2.2.2.2.2.2.2.2.2.2.2.2.2.2.2.2.2.2.2.2.2.2.1
theorem SS'.o14 {R : Nat → Nat → Option Nat} {C : Nat → Nat → Option Nat} {T : Nat → Nat} {N : Nat → Nat} {Z : Nat} {ow : Nat → Nat} (X_ : SS' R C T N Z ow) : ow 14 = 800014 := X_.2.2.2.2.2.2.2.2.2.2.2.2.2.2.2.2.2.2.2.2.2.2.2.2.2.2.2.2.2.2.2.2.2.2.2.2.2.2.2.2.2.2.2.2.2.2.2.2.2.2.2.2.2.2.2.2.2.2.2.2.2.2.2.2.2.2.2.2.2.2.2.2.2.2.2.2.2.2.2.2.2.2.1
theorem SS'.o15 {R : Nat → Nat → Option Nat} {C : Nat → Nat → Option Nat} {T : Nat → Nat} {N : Nat → Nat} {Z : Nat} {ow : Nat → Nat} (X_ : SS' R C T N Z ow) : ow 15 = 300015 := X_.2.2.2.2.2.2.2.2.2.2.2.2.2.2.2.2.2.2.2.2.2.2.2.2.2.2.2.2.2.2.2.2.2.2.2.2.2.2.2.2.2.2.2.2.2.2.2.2.2.2.2.2.2.2.2.2.2.2.2.2.2.2.2.2.2.2.2.2.2.2.2.2.2.2.2.2.2.2.2.2.2.2.2.1
theorem SS'.o16 {R : Nat → Nat → Option Nat} {C : Nat → Nat → Option Nat} {T : Nat → Nat} {N : Nat → Nat} {Z : Nat} {ow : Nat → Nat} (X_ : SS' R C T N Z ow) : ow 16 = 300016 := X_.2.2.2.2.2.2.2.2.2.2.2.2.2.2.2.2.2.2.2.2.2.2.2.2.2.2.2.2.2.2.2.2.2.2.2.2.2.2.2.2.2.2.2.2.2.2.2.2.2.2.2.2.2.2.2.2.2.2.2.2.2.2.2.2.2.2.2.2.2.2.2.2.2.2.2.2.2.2.2.2.2.2.2.2.1
theorem SS'.o17 {R : Nat → Nat → Option Nat} {C : Nat → Nat → Option Nat} {T : Nat → Nat} {N : Nat → Nat} {Z : Nat} {ow : Nat → Nat} (X_ : SS' R C T N Z ow) : ow 17 = 600017 := X_.2.2.2.2.2.2.2.2.2.2.2.2.2.2.2.2.2.2.2.2.2.2.2.2.2.2.2.2.2.2.2.2.2.2.2.2.2.2.2.2.2.2.2.2.2.2.2.2.2.2.2.2.2.2.2.2.2.2.2.2.2.2.2.2.2.2.2.2.2.2.2.2.2.2.2.2.2.2.2.2.2.2.2.2.2.1
theorem SS'.o18 {R : Nat → Nat → Option Nat} {C : Nat → Nat → Option Nat} {T : Nat → Nat} {N : Nat → Nat} {Z : Nat} {ow : Nat → Nat} (X_ : SS' R C T N Z ow) : ow 18 = 300018 := X_.2.2.2.2.2.2.2.2.2.2.2.2.2.2.2.2.2.2.2.2.2.2.2.2.2.2.2.2.2.2.2.2.2.2.2.2.2.2.2.2.2.2.2.2.2.2.2.2.2.2.2.2.2.2.2.2.2.2.2.2.2.2.2.2.2.2.2.2.2.2.2.2.2.2.2.2.2.2.2.2.2.2.2.2.2.2.1
theorem SS'.o19 {R : Nat → Nat → Option Nat} {C : Nat → Nat → Option Nat} {T : Nat → Nat} {N : Nat → Nat} {Z : Nat} {ow : Nat → Nat} (X_ : SS' R C T N Z ow) : ow 19 = 300019 := X_.2.2.2.2.2.2.2.2.2.2.2.2.2.2.2.2.2.2.2.2.2.2.2.2.2.2.2.2.2.2.2.2.2.2.2.2.2.2.2.2.2.2.2.2.2.2.2.2.2.2.2.2.2.2.2.2.2.2.2.2.2.2.2.2.2.2.2.2.2.2.2.2.2.2.2.2.2.2.2.2.2.2.2.2.2.2.2.1
theorem SS'.o20 {R : Nat → Nat → Option Nat} {C : Nat → Nat → Option Nat} {T : Nat → Nat} {N : Nat → Nat} {Z : Nat} {ow : Nat → Nat} (X_ : SS' R C T N Z ow) : ow 20 = 300020 := X_.2.2.2.2.2.2.2.2.2.2.2.2.2.2.2.2.2.2.2.2.2.2.2.2.2.2.2.2.2.2.2.2.2.2.2.2.2.2.2.2.2.2.2.2.2.2.2.2.2.2.2.2.2.2.2.2.2.2.2.2.2.2.2.2.2.2.2.2.2.2.2.2.2.2.2.2.2.2.2.2.2.2.2.2.2.2.2.2.1
theorem SS'.o21 {R : Nat → Nat → Option Nat} {C : Nat → Nat → Option Nat} {T : Nat → Nat} {N : Nat → Nat} {Z : Nat} {ow : Nat → Nat} (X_ : SS' R C T N Z ow) : ow 21 = 300021 := X_.2.2.2.2.2.2.2.2.2.2.2.2.2.2.2.2.2.2.2.2.2.2.2.2.2.2.2.2.2.2.2.2.2.2.2.2.2.2.2.2.2.2.2.2.2.2.2.2.2.2.2.2.2.2.2.2.2.2.2.2.2.2.2.2.2.2.2.2.2.2.2.2.2.2.2.2.2.2.2.2.2.2.2.2.2.2.2.2.2.1
theorem SS'.o23 {R : Nat → Nat → Option Nat} {C : Nat → Nat → Option Nat} {T : Nat → Nat} {N : Nat → Nat} {Z : Nat} {ow : Nat → Nat} (X_ : SS' R C T N Z ow) : ow 23 = 700023 := X_.2.2.2.2.2.2.2.2.2.2.2.2.2.2.2.2.2.2.2.2.2.2.2.2.2.2.2.2.2.2.2.2.2.2.2.2.2.2.2.2.2.2.2.2.2.2.2.2.2.2.2.2.2.2.2.2.2.2.2.2.2.2.2.2.2.2.2.2.2.2.2.2.2.2.2.2.2.2.2.2.2.2.2.2.2.2.2.2.2.2.1
theorem SS'.o24 {R : Nat → Nat → Option Nat} {C : Nat → Nat → Option Nat} {T : Nat → Nat} {N : Nat → Nat} {Z : Nat} {ow : Nat → Nat} (X_ : SS' R C T N Z ow) : ow 24 = 700024 := X_.2.2.2.2.2.2.2.2.2.2.2.2.2.2.2.2.2.2.2.2.2.2.2.2.2.2.2.2.2.2.2.2.2.2.2.2.2.2.2.2.2.2.2.2.2.2.2.2.2.2.2.2.2.2.2.2.2.2.2.2.2.2.2.2.2.2.2.2.2.2.2.2.2.2.2.2.2.2.2.2.2.2.2.2.2.2.2.2.2.2.2.1
theorem SS'.o25 {R : Nat → Nat → Option Nat} {C : Nat → Nat → Option Nat} {T : Nat → Nat} {N : Nat → Nat} {Z : Nat} {ow : Nat → Nat} (X_ : SS' R C T N Z ow) : ow 25 = 900025 := X_.2.2.2.2.2.2.2.2.2.2.2.2.2.2.2.2.2.2.2.2.2.2.2.2.2.2.2.2.2.2.2.2.2.2.2.2.2.2.2.2.2.2.2.2.2.2.2.2.2.2.2.2.2.2.2.2.2.2.2.2.2.2.2.2.2.2.2.2.2.2.2.2.2.2.2.2.2.2.2.2.2.2.2.2.2.2.2.2.2.2.2.2.1
theorem SS'.o29 {R : Nat → Nat → Option Nat} {C : Nat → Nat → Option Nat} {T : Nat → Nat} {N : Nat → Nat} {Z : Nat} {ow : Nat → Nat} (X_ : SS' R C T N Z ow) : ow 29 = 700029 := X_.2.2.2.2.2.2.2.2.2.2.2.2.2.2.2.2.2.2.2.2.2.2.2.2.2.2.2.2.2.2.2.2.2.2.2.2.2.2.2.2.2.2.2.2.2.2.2.2.2.2.2.2.2.2.2.2.2.2.2.2.2.2.2.2.2.2.2.2.2.2.2.2.2.2.2.2.2.2.2.2.2.2.2.2.2.2.2.2.2.2.2.2.2.1
theorem SS'.o30 {R : Nat → Nat → Option Nat} {C : Nat → Nat → Option Nat} {T : Nat → Nat} {N : Nat → Nat} {Z : Nat} {ow : Nat → Nat} (X_ : SS' R C T N Z ow) : ow 30 = 700030 := X_.2.2.2.2.2.2.2.2.2.2.2.2.2.2.2.2.2.2.2.2.2.2.2.2.2.2.2.2.2.2.2.2.2.2.2.2.2.2.2.2.2.2.2.2.2.2.2.2.2.2.2.2.2.2.2.2.2.2.2.2.2.2.2.2.2.2.2.2.2.2.2.2.2.2.2.2.2.2.2.2.2.2.2.2.2.2.2.2.2.2.2.2.2.2
theorem SS'.mk {R : Nat → Nat → Option Nat} {C : Nat → Nat → Option Nat} {T : Nat → Nat} {N : Nat → Nat} {Z : Nat} {ow : Nat → Nat} (fr_ : ∀ i, Z ≤ i → T i = 0) (zz_ : 110 ≤ Z) (t0_ : T 0 = 12) (t1_ : T 1 = 1) (t3_ : T 3 = 1) (t5_ : T 5 = 2) (t6_ : T 6 = 8) (t8_ : T 8 = 8) (t10_ : T 10 = 8) (t12_ : T 12 = 8) (t14_ : T 14 = 8) (t23_ : T 23 = 5) (t24_ : T 24 = 11) (t7_ : T 7 = 102) (t9_ : T 9 = 102) (t11_ : T 11 = 102) (t13_ : T 13 = 102) (t15_ : T 15 = 102) (t16_ : T 16 = 101) (t17_ : T 17 = 101) (t18_ : T 18 = 101) (t19_ : T 19 = 104) (t20_ : T 20 = 101) (t21_ : T 21 = 101) (t25_ : T 25 = 102) (t29_ : T 29 = 101) (t30_ : T 30 = 101) (t31_ : T 31 = 106) (n7_ : N 7 = 5) (n9_ : N 9 = 12) (n11_ : N 11 = 4) (n13_ : N 13 = 10) (n15_ : N 15 = 30) (n16_ : N 16 = 12) (n17_ : N 17 = 20) (n18_ : N 18 = 50) (n19_ : N 19 = 30) (n20_ : N 20 = 20) (n21_ : N 21 = 20) (n25_ : N 25 = 18) (n29_ : N 29 = 3) (n30_ : N 30 = 20) (n31_ : N 31 = 100) (r1408_0_ : R 1408 0 = some 1) (r1409_0_ : R 1409 0 = some 3) (r1410_0_ : R 1410 0 = some 5) (r1411_0_ : R 1411 0 = some 23) (r1412_0_ : R 1412 0 = some 31) (r128_5_ : R 128 5 = some 6) (r129_5_ : R 129 5 = some 8) (r130_5_ : R 130 5 = some 10) (r131_5_ : R 131 5 = some 12) (r132_5_ : R 132 5 = some 14) (r133_5_ : R 133 5 = some 16) (r134_5_ : R 134 5 = some 17) (r135_5_ : R 135 5 = some 18) (r136_5_ : R 136 5 = some 19) (r137_5_ : R 137 5 = some 20) (r138_5_ : R 138 5 = some 21) (r512_23_ : R 512 23 = some 5) (r513_23_ : R 513 23 = some 24) (r514_23_ : R 514 23 = some 29) (r515_23_ : R 515 23 = some 30) (r896_6_ : R 896 6 = some 7) (r896_8_ : R 896 8 = some 9) (r896_10_ : R 896 10 = some 11) (r896_12_ : R 896 12 = some 13) (r896_14_ : R 896 14 = some 15) (r1280_24_ : R 1280 24 = some 25) (o0_ : ow 0 = 0) (o1_ : ow 1 = 100001) (o3_ : ow 3 = 200001) (o31_ : ow 31 = 400000) (o5_ : ow 5 = 800005) (o6_ : ow 6 = 800006) (o7_ : ow 7 = 300007) (o8_ : ow 8 = 800008) (o9_ : ow 9 = 300009) (o10_ : ow 10 = 800010) (o11_ : ow 11 = 300011) (o12_ : ow 12 = 800012) (o13_ : ow 13 = 300013) (o14_ : ow 14 = 800014) (o15_ : ow 15 = 300015) (o16_ : ow 16 = 300016) (o17_ : ow 17 = 600017) (o18_ : ow 18 = 300018) (o19_ : ow 19 = 300019) (o20_ : ow 20 = 300020) (o21_ : ow 21 = 300021) (o23_ : ow 23 = 700023) (o24_ : ow 24 = 700024) (o25_ : ow 25 = 900025) (o29_ : ow 29 = 700029) (o30_ : ow 30 = 700030) : SS' R C T N Z ow := ⟨fr_, zz_, t0_, t1_, t3_, t5_, t6_, t8_, t10_, t12_, t14_, t23_, t24_, t7_, t9_, t11_, t13_, t15_, t16_, t17_, t18_, t19_, t20_, t21_, t25_, t29_, t30_, t31_, n7_, n9_, n11_, n13_, n15_, n16_, n17_, n18_, n19_, n20_, n21_, n25_, n29_, n30_, n31_, r1408_0_, r1409_0_, r1410_0_, r1411_0_, r1412_0_, r128_5_, r129_5_, r130_5_, r131_5_, r132_5_, r133_5_, r134_5_, r135_5_, r136_5_, r137_5_, r138_5_, r512_23_, r513_23_, r514_23_, r515_23_, r896_6_, r896_8_, r896_10_, r896_12_, r896_14_, r1280_24_, o0_, o1_, o3_, o31_, o5_, o6_, o7_, o8_, o9_, o10_, o11_, o12_, o13_, o14_, o15_, o16_, o17_, o18_, o19_, o20_, o21_, o23_, o24_, o25_, o29_, o30_⟩
def RU' (R : Nat → Nat → Option Nat) (C : Nat → Nat → Option Nat) (T : Nat → Nat) (N : Nat → Nat) (Z : Nat) (ow : Nat → Nat) (rl : Nat → Nat) (ca : Nat → Nat) (hd : Nat → Nat) (cd : Nat → Nat → Nat) (nr : Nat) (nc : Nat → Nat) : Prop := (nr ≤ 30) ∧ (∀ r, r < nr → C 19 r = some (rl r)) ∧ (∀ r, nr ≤ r → C 19 r = none) ∧ (∀ r, r < nr → T (rl r) = 9) ∧ (∀ r, r < nr → ow (rl r) = 310000 + r) ∧ (∀ r, r < nr → R 1028 (rl r) = some (ca r)) ∧ (∀ r, r < nr → T (ca r) = 105) ∧ (∀ r, r < nr → N (ca r) = 6) ∧ (∀ r, r < nr → ow (ca r) = 320000 + r) ∧ (∀ r, r < nr → R 1029 (rl r) = some (hd r)) ∧ (∀ r, r < nr → T (hd r) = 3) ∧ (∀ r, r < nr → ow (hd r) = 330000 + r) ∧ (∀ r, r < nr → nc r ≤ 6) ∧ (∀ r, r < nr → ∀ k, k < nc r → C (ca r) k = some (cd r k)) ∧ (∀ r, r < nr → ∀ k, nc r ≤ k → C (ca r) k = none) ∧ (∀ r, r < nr → ∀ k, k < nc r → T (cd r k) = 3) ∧ (∀ r, r < nr → ∀ k, k < nc r → ow (cd r k) = 340000 + 10 * r + k)
theorem RU'.nr30 {R : Nat → Nat → Option Nat} {C : Nat → Nat → Option Nat} {T : Nat → Nat} {N : Nat → Nat} {Z : Nat} {ow : Nat → Nat} {rl : Nat → Nat} {ca : Nat → Nat} {hd : Nat → Nat} {cd : Nat → Nat → Nat} {nr : Nat} {nc : Nat → Nat} (X_ : RU' R C T N Z ow rl ca hd cd nr nc) : nr ≤ 30 := X_.1
theorem RU'.rlC {R : Nat → Nat → Option Nat} {C : Nat → Nat → Option Nat} {T : Nat → Nat} {N : Nat → Nat} {Z : Nat} {ow : Nat → Nat} {rl : Nat → Nat} {ca : Nat → Nat} {hd : Nat → Nat} {cd : Nat → Nat → Nat} {nr : Nat} {nc : Nat → Nat} (X_ : RU' R C T N Z ow rl ca hd cd nr nc) : ∀ r, r < nr → C 19 r = some (rl r) := X_.2.1
theorem RU'.rlN {R : Nat → Nat → Option Nat} {C : Nat → Nat → Option Nat} {T : Nat → Nat} {N : Nat → Nat} {Z : Nat} {ow : Nat → Nat} {rl : Nat → Nat} {ca : Nat → Nat} {hd : Nat → Nat} {cd : Nat → Nat → Nat} {nr : Nat} {nc : Nat → Nat} (X_ : RU' R C T N Z ow rl ca hd cd nr nc) : ∀ r, nr ≤ r → C 19 r = none := X_.2.2.1
theorem RU'.rlT {R : Nat → Nat → Option Nat} {C : Nat → Nat → Option Nat} {T : Nat → Nat} {N : Nat → Nat} {Z : Nat} {ow : Nat → Nat} {rl : Nat → Nat} {ca : Nat → Nat} {hd : Nat → Nat} {cd : Nat → Nat → Nat} {nr : Nat} {nc : Nat → Nat} (X_ : RU' R C T N Z ow rl ca hd cd nr nc) : ∀ r, r < nr → T (rl r) = 9 := X_.2.2.2.1
theorem RU'.rlo {R : Nat → Nat → Option Nat} {C : Nat → Nat → Option Nat} {T : Nat → Nat} {N : Nat → Nat} {Z : Nat} {ow : Nat → Nat} {rl : Nat → Nat} {ca : Nat → Nat} {hd : Nat → Nat} {cd : Nat → Nat → Nat} {nr : Nat} {nc : Nat → Nat} (X_ : RU' R C T N Z ow rl ca hd cd nr nc) : ∀ r, r < nr → ow (rl r) = 310000 + r := X_.2.2.2.2.1
theorem RU'.caR {R : Nat → Nat → Option Nat} {C : Nat → Nat → Option Nat} {T : Nat → Nat} {N : Nat → Nat} {Z : Nat} {ow : Nat → Nat} {rl : Nat → Nat} {ca : Nat → Nat} {hd : Nat → Nat} {cd : Nat → Nat → Nat} {nr : Nat} {nc : Nat → Nat} (X_ : RU' R C T N Z ow rl ca hd cd nr nc) : ∀ r, r < nr → R 1028 (rl r) = some (ca r) := X_.2.2.2.2.2.1
theorem RU'.caT {R : Nat → Nat → Option Nat} {C : Nat → Nat → Option Nat} {T : Nat → Nat} {N : Nat → Nat} {Z : Nat} {ow : Nat → Nat} {rl : Nat → Nat} {ca : Nat → Nat} {hd : Nat → Nat} {cd : Nat → Nat → Nat} {nr : Nat} {nc : Nat → Nat} (X_ : RU' R C T N Z ow rl ca hd cd nr nc) : ∀ r, r < nr → T (ca r) = 105 := X_.2.2.2.2.2.2.1
theorem RU'.caN {R : Nat → Nat → Option Nat} {C : Nat → Nat → Option Nat} {T : Nat → Nat} {N : Nat → Nat} {Z : Nat} {ow : Nat → Nat} {rl : Nat → Nat} {ca : Nat → Nat} {hd : Nat → Nat} {cd : Nat → Nat → Nat} {nr : Nat} {nc : Nat → Nat} (X_ : RU' R C T N Z ow rl ca hd cd nr nc) : ∀ r, r < nr → N (ca r) = 6 := X_.2.2.2.2.2.2.2.1
theorem RU'.cao {R : Nat → Nat → Option Nat} {C : Nat → Nat → Option Nat} {T : Nat → Nat} {N : Nat → Nat} {Z : Nat} {ow : Nat → Nat} {rl : Nat → Nat} {ca : Nat → Nat} {hd : Nat → Nat} {cd : Nat → Nat → Nat} {nr : Nat} {nc : Nat → Nat} (X_ : RU' R C T N Z ow rl ca hd cd nr nc) : ∀ r, r < nr → ow (ca r) = 320000 + r := X_.2.2.2.2.2.2.2.2.1
theorem RU'.hdR {R : Nat → Nat → Option Nat} {C : Nat → Nat → Option Nat} {T : Nat → Nat} {N : Nat → Nat} {Z : Nat} {ow : Nat → Nat} {rl : Nat → Nat} {ca : Nat → Nat} {hd : Nat → Nat} {cd : Nat → Nat → Nat} {nr : Nat} {nc : Nat → Nat} (X_ : RU' R C T N Z ow rl ca hd cd nr nc) : ∀ r, r < nr → R 1029 (rl r) = some (hd r) := X_.2.2.2.2.2.2.2.2.2.1
theorem RU'.hdT {R : Nat → Nat → Option Nat} {C : Nat → Nat → Option Nat} {T : Nat → Nat} {N : Nat → Nat} {Z : Nat} {ow : Nat → Nat} {rl : Nat → Nat} {ca : Nat → Nat} {hd : Nat → Nat} {cd : Nat → Nat → Nat} {nr : Nat} {nc : Nat → Nat} (X_ : RU' R C T N Z ow rl ca hd cd nr nc) : ∀ r, r < nr → T (hd r) = 3 := X_.2.2.2.2.2.2.2.2.2.2.1
theorem RU'.hdo {R : Nat → Nat → Option Nat} {C : Nat → Nat → Option Nat} {T : Nat → Nat} {N : Nat → Nat} {Z : Nat} {ow : Nat → Nat} {rl : Nat → Nat} {ca : Nat → Nat} {hd : Nat → Nat} {cd : Nat → Nat → Nat} {nr : Nat} {nc : Nat → Nat} (X_ : RU' R C T N Z ow rl ca hd cd nr nc) : ∀ r, r < nr → ow (hd r) = 330000 + r := X_.2.2.2.2.2.2.2.2.2.2.2.1
theorem RU'.nc6 {R : Nat → Nat → Option Nat} {C : Nat → Nat → Option Nat} {T : Nat → Nat} {N : Nat → Nat} {Z : Nat} {ow : Nat → Nat} {rl : Nat → Nat} {ca : Nat → Nat} {hd : Nat → Nat} {cd : Nat → Nat → Nat} {nr : Nat} {nc : Nat → Nat} (X_ : RU' R C T N Z ow rl ca hd cd nr nc) : ∀ r, r < nr → nc r ≤ 6 := X_.2.2.2.2.2.2.2.2.2.2.2.2.1
theorem RU'.cdC {R : Nat → Nat → Option Nat} {C : Nat → Nat → Option Nat} {T : Nat → Nat} {N : Nat → Nat} {Z : Nat} {ow : Nat → Nat} {rl : Nat → Nat} {ca : Nat → Nat} {hd : Nat → Nat} {cd : Nat → Nat → Nat} {nr : Nat} {nc : Nat → Nat} (X_ : RU' R C T N Z ow rl ca hd cd nr nc) : ∀ r, r < nr → ∀ k, k < nc r → C (ca r) k = some (cd r k) := X_.2.2.2.2.2.2.2.2.2.2.2.2.2.1
theorem RU'.cdN {R : Nat → Nat → Option Nat} {C : Nat → Nat → Option Nat} {T : Nat → Nat} {N : Nat → Nat} {Z : Nat} {ow : Nat → Nat} {rl : Nat → Nat} {ca : Nat → Nat} {hd : Nat → Nat} {cd : Nat → Nat → Nat} {nr : Nat} {nc : Nat → Nat} (X_ : RU' R C T N Z ow rl ca hd cd nr nc) : ∀ r, r < nr → ∀ k, nc r ≤ k → C (ca r) k = none := X_.2.2.2.2.2.2.2.2.2.2.2.2.2.2.1
theorem RU'.cdT {R : Nat → Nat → Option Nat} {C : Nat → Nat → Option Nat} {T : Nat → Nat} {N : Nat → Nat} {Z : Nat} {ow : Nat → Nat} {rl : Nat → Nat} {ca : Nat → Nat} {hd : Nat → Nat} {cd : Nat → Nat → Nat} {nr : Nat} {nc : Nat → Nat} (X_ : RU' R C T N Z ow rl ca hd cd nr nc) : ∀ r, r < nr → ∀ k, k < nc r → T (cd r k) = 3 := X_.2.2.2.2.2.2.2.2.2.2.2.2.2.2.2.1
theorem RU'.cdo {R : Nat → Nat → Option Nat} {C : Nat → Nat → Option Nat} {T : Nat → Nat} {N : Nat → Nat} {Z : Nat} {ow : Nat → Nat} {rl : Nat → Nat} {ca : Nat → Nat} {hd : Nat → Nat} {cd : Nat → Nat → Nat} {nr : Nat} {nc : Nat → Nat} (X_ : RU' R C T N Z ow rl ca hd cd nr nc) : ∀ r, r < nr → ∀ k, k < nc r → ow (cd r k) = 340000 + 10 * r + k := X_.2.2.2.2.2.2.2.2.2.2.2.2.2.2.2.2
theorem RU'.mk {R : Nat → Nat → Option Nat} {C : Nat → Nat → Option Nat} {T : Nat → Nat} {N : Nat → Nat} {Z : Nat} {ow : Nat → Nat} {rl : Nat → Nat} {ca : Nat → Nat} {hd : Nat → Nat} {cd : Nat → Nat → Nat} {nr : Nat} {nc : Nat → Nat} (nr30_ : nr ≤ 30) (rlC_ : ∀ r, r < nr → C 19 r = some (rl r)) (rlN_ : ∀ r, nr ≤ r → C 19 r = none) (rlT_ : ∀ r, r < nr → T (rl r) = 9) (rlo_ : ∀ r, r < nr → ow (rl r) = 310000 + r) (caR_ : ∀ r, r < nr → R 1028 (rl r) = some (ca r)) (caT_ : ∀ r, r < nr → T (ca r) = 105) (caN_ : ∀ r, r < nr → N (ca r) = 6) (cao_ : ∀ r, r < nr → ow (ca r) = 320000 + r) (hdR_ : ∀ r, r < nr → R 1029 (rl r) = some (hd r)) (hdT_ : ∀ r, r < nr → T (hd r) = 3) (hdo_ : ∀ r, r < nr → ow (hd r) = 330000 + r) (nc6_ : ∀ r, r < nr → nc r ≤ 6) (cdC_ : ∀ r, r < nr → ∀ k, k < nc r → C (ca r) k = some (cd r k)) (cdN_ : ∀ r, r < nr → ∀ k, nc r ≤ k → C (ca r) k = none) (cdT_ : ∀ r, r < nr → ∀ k, k < nc r → T (cd r k) = 3) (cdo_ : ∀ r, r < nr → ∀ k, k < nc r → ow (cd r k) = 340000 + 10 * r + k) : RU' R C T N Z ow rl ca hd cd nr nc := ⟨nr30_, rlC_, rlN_, rlT_, rlo_, caR_, caT_, caN_, cao_, hdR_, hdT_, hdo_, nc6_, cdC_, cdN_, cdT_, cdo_⟩
def TE' (R : Nat → Nat → Option Nat) (C : Nat → Nat → Option Nat) (T : Nat → Nat) (N : Nat → Nat) (Z : Nat) (ow : Nat → Nat) (te : Nat → Nat) (nt : Nat) : Prop := (nt ≤ 100) ∧ (∀ r, r < nt → C 31 r = some (te r)) ∧ (∀ r, r < nt → T (te r) = 10) ∧ (∀ r, r < nt → ow (te r) = 400001 + r)
theorem TE'.nt100 {R : Nat → Nat → Option Nat} {C : Nat → Nat → Option Nat} {T : Nat → Nat} {N : Nat → Nat} {Z : Nat} {ow : Nat → Nat} {te : Nat → Nat} {nt : Nat} (X_ : TE' R C T N Z ow te nt) : nt ≤ 100 := X_.1
theorem TE'.teC {R : Nat → Nat → Option Nat} {C : Nat → Nat → Option Nat} {T : Nat → Nat} {N : Nat → Nat} {Z : Nat} {ow : Nat → Nat} {te : Nat → Nat} {nt : Nat} (X_ : TE' R C T N Z ow te nt) : ∀ r, r < nt → C 31 r = some (te r) := X_.2.1
theorem TE'.teT {R : Nat → Nat → Option Nat} {C : Nat → Nat → Option Nat} {T : Nat → Nat} {N : Nat → Nat} {Z : Nat} {ow : Nat → Nat} {te : Nat → Nat} {nt : Nat} (X_ : TE' R C T N Z ow te nt) : ∀ r, r < nt → T (te r) = 10 := X_.2.2.1
theorem TE'.teo {R : Nat → Nat → Option Nat} {C : Nat → Nat → Option Nat} {T : Nat → Nat} {N : Nat → Nat} {Z : Nat} {ow : Nat → Nat} {te : Nat → Nat} {nt : Nat} (X_ : TE' R C T N Z ow te nt) : ∀ r, r < nt → ow (te r) = 400001 + r := X_.2.2.2
theorem TE'.mk {R : Nat → Nat → Option Nat} {C : Nat → Nat → Option Nat} {T : Nat → Nat} {N : Nat → Nat} {Z : Nat} {ow : Nat → Nat} {te : Nat → Nat} {nt : Nat} (nt100_ : nt ≤ 100) (teC_ : ∀ r, r < nt → C 31 r = some (te r)) (teT_ : ∀ r, r < nt → T (te r) = 10) (teo_ : ∀ r, r < nt → ow (te r) = 400001 + r) : TE' R C T N Z ow te nt := ⟨nt100_, teC_, teT_, teo_⟩
def JU' (R : Nat → Nat → Option Nat) (C : Nat → Nat → Option Nat) (T : Nat → Nat) (N : Nat → Nat) (Z : Nat) (ow : Nat → Nat) (jj : Bool) (jd : Nat → Nat) : Prop := (jj = false → R 1416 0 = none) ∧ (jj = true → R 1416 0 = some (jd 0)) ∧ (jj = true → T (jd 0) = 6) ∧ (jj = true → T (jd 1) = 7) ∧ (jj = true → T (jd 2) = 101) ∧ (jj = true → T (jd 3) = 107) ∧ (jj = true → T (jd 4) = 4) ∧ (jj = true → T (jd 5) = 4) ∧ (jj = true → T (jd 6) = 4) ∧ (jj = true → T (jd 7) = 4) ∧ (jj = true → T (jd 8) = 4) ∧ (jj = true → T (jd 9) = 101) ∧ (jj = true → T (jd 10) = 100) ∧ (jj = true → T (jd 11) = 101) ∧ (jj = true → T (jd 12) = 101) ∧ (jj = true → T (jd 13) = 101) ∧ (jj = true → T (jd 14) = 101) ∧ (jj = true → T (jd 15) = 101) ∧ (jj = true → T (jd 16) = 101) ∧ (jj = true → T (jd 17) = 100) ∧ (jj = true → T (jd 18) = 101) ∧ (jj = true → T (jd 19) = 101) ∧ (jj = true → T (jd 20) = 102) ∧ (jj = true → N (jd 2) = 8) ∧ (jj = true → N (jd 3) = 24) ∧ (jj = true → N (jd 9) = 600) ∧ (jj = true → N (jd 10) = 600) ∧ (jj = true → N (jd 11) = 600) ∧ (jj = true → N (jd 12) = 600) ∧ (jj = true → N (jd 13) = 600) ∧ (jj = true → N (jd 14) = 30) ∧ (jj = true → N (jd 18) = 4) ∧ (jj = true → N (jd 19) = 20) ∧ (jj = true → N (jd 20) = 40) ∧ (jj = true → R 640 (jd 0) = some 5) ∧ (jj = true → R 641 (jd 0) = some (jd 1)) ∧ (jj = true → R 768 (jd 1) = some 5) ∧ (jj = true → R 769 (jd 1) = some (jd 2)) ∧ (jj = true → R 770 (jd 1) = some (jd 3)) ∧ (jj = true → R 771 (jd 1) = some (jd 4)) ∧ (jj = true → R 772 (jd 1) = some (jd 5)) ∧ (jj = true → R 773 (jd 1) = some (jd 6)) ∧ (jj = true → R 774 (jd 1) = some (jd 7)) ∧ (jj = true → R 775 (jd 1) = some (jd 8)) ∧ (jj = true → R 645 (jd 0) = some (jd 9)) ∧ (jj = true → R 646 (jd 0) = some (jd 10)) ∧ (jj = true → R 647 (jd 0) = some (jd 11)) ∧ (jj = true → R 648 (jd 0) = some (jd 12)) ∧ (jj = true → R 649 (jd 0) = some (jd 13)) ∧ (jj = true → R 650 (jd 0) = some (jd 14)) ∧ (jj = true → R 652 (jd 0) = some (jd 15)) ∧ (jj = true → R 653 (jd 0) = some (jd 16)) ∧ (jj = true → R 654 (jd 0) = some (jd 17)) ∧ (jj = true → R 656 (jd 0) = some (jd 18)) ∧ (jj = true → R 657 (jd 0) = some (jd 19)) ∧ (jj = true → R 658 (jd 0) = some (jd 20)) ∧ (jj = true → ∀ i, i < 21 ∨ (100 ≤ i ∧ i < 124) → ow (jd i) = 500000 + i) ∧ (jj = true → ∀ i, i < 24 → C (jd 3) i = some (jd (100 + i))) ∧ (jj = true → ∀ i, i < 24 → T (jd (100 + i)) = 4)
theorem JU'.jN {R : Nat → Nat → Option Nat} {C : Nat → Nat → Option Nat} {T : Nat → Nat} {N : Nat → Nat} {Z : Nat} {ow : Nat → Nat} {jj : Bool} {jd : Nat → Nat} (X_ : JU' R C T N Z ow jj jd) : jj = false → R 1416 0 = none := X_.1
theorem JU'.jY {R : Nat → Nat → Option Nat} {C : Nat → Nat → Option Nat} {T : Nat → Nat} {N : Nat → Nat} {Z : Nat} {ow : Nat → Nat} {jj : Bool} {jd : Nat → Nat} (X_ : JU' R C T N Z ow jj jd) : jj = true → R 1416 0 = some (jd 0) := X_.2.1
theorem JU'.jt0 {R : Nat → Nat → Option Nat} {C : Nat → Nat → Option Nat} {T : Nat → Nat} {N : Nat → Nat} {Z : Nat} {ow : Nat → Nat} {jj : Bool} {jd : Nat → Nat} (X_ : JU' R C T N Z ow jj jd) : jj = true → T (jd 0) = 6 := X_.2.2.1
theorem JU'.jt1 {R : Nat → Nat → Option Nat} {C : Nat → Nat → Option Nat} {T : Nat → Nat} {N : Nat → Nat} {Z : Nat} {ow : Nat → Nat} {jj : Bool} {jd : Nat → Nat} (X_ : JU' R C T N Z ow jj jd) : jj = true → T (jd 1) = 7 := X_.2.2.2.1
theorem JU'.jt2 {R : Nat → Nat → Option Nat} {C : Nat → Nat → Option Nat} {T : Nat → Nat} {N : Nat → Nat} {Z : Nat} {ow : Nat → Nat} {jj : Bool} {jd : Nat → Nat} (X_ : JU' R C T N Z ow jj jd) : jj = true → T (jd 2) = 101 := X_.2.2.2.2.1
theorem JU'.jt3 {R : Nat → Nat → Option Nat} {C : Nat → Nat → Option Nat} {T : Nat → Nat} {N : Nat → Nat} {Z : Nat} {ow : Nat → Nat} {jj : Bool} {jd : Nat → Nat} (X_ : JU' R C T N Z ow jj jd) : jj = true → T (jd 3) = 107 := X_.2.2.2.2.2.1
theorem JU'.jt4 {R : Nat → Nat → Option Nat} {C : Nat → Nat → Option Nat} {T : Nat → Nat} {N : Nat → Nat} {Z : Nat} {ow : Nat → Nat} {jj : Bool} {jd : Nat → Nat} (X_ : JU' R C T N Z ow jj jd) : jj = true → T (jd 4) = 4 := X_.2.2.2.2.2.2.1
theorem JU'.jt5 {R : Nat → Nat → Option Nat} {C : Nat → Nat → Option Nat} {T : Nat → Nat} {N : Nat → Nat} {Z : Nat} {ow : Nat → Nat} {jj : Bool} {jd : Nat → Nat} (X_ : JU' R C T N Z ow jj jd) : jj = true → T (jd 5) = 4 := X_.2.2.2.2.2.2.2.1
theorem JU'.jt6 {R : Nat → Nat → Option Nat} {C : Nat → Nat → Option Nat} {T : Nat → Nat} {N : Nat → Nat} {Z : Nat} {ow : Nat → Nat} {jj : Bool} {jd : Nat → Nat} (X_ : JU' R C T N Z ow jj jd) : jj = true → T (jd 6) = 4 := X_.2.2.2.2.2.2.2.2.1
theorem JU'.jt7 {R : Nat → Nat → Option Nat} {C : Nat → Nat → Option Nat} {T : Nat → Nat} {N : Nat → Nat} {Z : Nat} {ow : Nat → Nat} {jj : Bool} {jd : Nat → Nat} (X_ : JU' R C T N Z ow jj jd) : jj = true → T (jd 7) = 4 := X_.2.2.2.2.2.2.2.2.2.1
theorem JU'.jt8 {R : Nat → Nat → Option Nat} {C : Nat → Nat → Option Nat} {T : Nat → Nat} {N : Nat → Nat} {Z : Nat} {ow : Nat → Nat} {jj : Bool} {jd : Nat → Nat} (X_ : JU' R C T N Z ow jj jd) : jj = true → T (jd 8) = 4 := X_.2.2.2.2.2.2.2.2.2.2.1
theorem JU'.jt9 {R : Nat → Nat → Option Nat} {C : Nat → Nat → Option Nat} {T : Nat → Nat} {N : Nat → Nat} {Z : Nat} {ow : Nat → Nat} {jj : Bool} {jd : Nat → Nat} (X_ : JU' R C T N Z ow jj jd) : jj = true → T (jd 9) = 101 := X_.2.2.2.2.2.2.2.2.2.2.2.1
theorem JU'.jt10 {R : Nat → Nat → Option Nat} {C : Nat → Nat → Option Nat} {T : Nat → Nat} {N : Nat → Nat} {Z : Nat} {ow : Nat → Nat} {jj : Bool} {jd : Nat → Nat} (X_ : JU' R C T N Z ow jj jd) : jj = true → T (jd 10) = 100 := X_.2.2.2.2.2.2.2.2.2.2.2.2.1
theorem JU'.jt11 {R : Nat → Nat → Option Nat} {C : Nat → Nat → Option Nat} {T : Nat → Nat} {N : Nat → Nat} {Z : Nat} {ow : Nat → Nat} {jj : Bool} {jd : Nat → Nat} (X_ : JU' R C T N Z ow jj jd) : jj = true → T (jd 11) = 101 := X_.2.2.2.2.2.2.2.2.2.2.2.2.2.1
theorem JU'.jt12 {R : Nat → Nat → Option Nat} {C : Nat → Nat → Option Nat} {T : Nat → Nat} {N : Nat → Nat} {Z : Nat} {ow : Nat → Nat} {jj : Bool} {jd : Nat → Nat} (X_ : JU' R C T N Z ow jj jd) : jj = true → T (jd 12) = 101 := X_.2.2.2.2.2.2.2.2.2.2.2.2.2.2.1
theorem JU'.jt13 {R : Nat → Nat → Option Nat} {C : Nat → Nat → Option Nat} {T : Nat → Nat} {N : Nat → Nat} {Z : Nat} {ow : Nat → Nat} {jj : Bool} {jd : Nat → Nat} (X_ : JU' R C T N Z ow jj jd) : jj = true → T (jd 13) = 101 := X_.2.2.2.2.2.2.2.2.2.2.2.2.2.2.2.1
theorem JU'.jt14 {R : Nat → Nat → Option Nat} {C : Nat → Nat → Option Nat} {T : Nat → Nat} {N : Nat → Nat} {Z : Nat} {ow : Nat → Nat} {jj : Bool} {jd : Nat → Nat} (X_ : JU' R C T N Z ow jj jd) : jj = true → T (jd 14) = 101 := X_.2.2.2.2.2.2.2.2.2.2.2.2.2.2.2.2.1
theorem JU'.jt15 {R : Nat → Nat → Option Nat} {C : Nat → Nat → Option Nat} {T : Nat → Nat} {N : Nat → Nat} {Z : Nat} {ow : Nat → Nat} {jj : Bool} {jd : Nat → Nat} (X_ : JU' R C T N Z ow jj jd) : jj = true → T (jd 15) = 101 := X_.2.2.2.2.2.2.2.2.2.2.2.2.2.2.2.2.2.1
theorem JU'.jt16 {R : Nat → Nat → Option Nat} {C : Nat → Nat → Option Nat} {T : Nat → Nat} {N : Nat → Nat} {Z : Nat} {ow : Nat → Nat} {jj : Bool} {jd : Nat → Nat} (X_ : JU' R C T N Z ow jj jd) : jj = true → T (jd 16) = 101 := X_.2.2.2.2.2.2.2.2.2.2.2.2.2.2.2.2.2.2.1
theorem JU'.jt17 {R : Nat → Nat → Option Nat} {C : Nat → Nat → Option Nat} {T : Nat → Nat} {N : Nat → Nat} {Z : Nat} {ow : Nat → Nat} {jj : Bool} {jd : Nat → Nat} (X_ : JU' R C T N Z ow jj jd) : jj = true → T (jd 17) = 100 := X_.2.2.2.2.2.2.2.2.2.2.2.2.2.2.2.2.2.2.2.1
theorem JU'.jt18 {R : Nat → Nat → Option Nat} {C : Nat → Nat → Option Nat} {T : Nat → Nat} {N : Nat → Nat} {Z : Nat} {ow : Nat → Nat} {jj : Bool} {jd : Nat → Nat} (X_ : JU' R C T N Z ow jj jd) : jj = true → T (jd 18) = 101 := X_.2.2.2.2.2.2.2.2.2.2.2.2.2.2.2.2.2.2.2.2.1
theorem JU'.jt19 {R : Nat → Nat → Option Nat} {C : Nat → Nat → Option Nat} {T : Nat → Nat} {N : Nat → Nat} {Z : Nat} {ow : Nat → Nat} {jj : Bool} {jd : Nat → Nat} (X_ : JU' R C T N Z ow jj jd) : jj = true → T (jd 19) = 101 := X_.2.2.2.2.2.2.2.2.2.2.2.2.2.2.2.2.2.2.2.2.2.1
theorem JU'.jt20 {R : Nat → Nat → Option Nat} {C : Nat → Nat → Option Nat} {T : Nat → Nat} {N : Nat → Nat} {Z : Nat} {ow : Nat → Nat} {jj : Bool} {jd : Nat → Nat} (X_ : JU' R C T N Z ow jj jd) : jj = true → T (jd 20) = 102 := X_.2.2.2.2.2.2.2.2.2.2.2.2.2.2.2.2.2.2.2.2.2.2.1
theorem JU'.jn2 {R : Nat → Nat → Option Nat} {C : Nat → Nat → Option Nat} {T : Nat → Nat} {N : Nat → Nat} {Z : Nat} {ow : Nat → Nat} {jj : Bool} {jd : Nat → Nat} (X_ : JU' R C T N Z ow jj jd) : jj = true → N (jd 2) = 8 := X_.2.2.2.2.2.2.2.2.2.2.2.2.2.2.2.2.2.2.2.2.2.2.2.1
theorem JU'.jn3 {R : Nat → Nat → Option Nat} {C : Nat → Nat → Option Nat} {T : Nat → Nat} {N : Nat → Nat} {Z : Nat} {ow : Nat → Nat} {jj : Bool} {jd : Nat → Nat} (X_ : JU' R C T N Z ow jj jd) : jj = true → N (jd 3) = 24 := X_.2.2.2.2.2.2.2.2.2.2.2.2.2.2.2.2.2.2.2.2.2.2.2.2.1
theorem JU'.jn9 {R : Nat → Nat → Option Nat} {C : Nat → Nat → Option Nat} {T : Nat → Nat} {N : Nat → Nat} {Z : Nat} {ow : Nat → Nat} {jj : Bool} {jd : Nat → Nat} (X_ : JU' R C T N Z ow jj jd) : jj = true → N (jd 9) = 600 := X_.2.2.2.2.2.2.2.2.2.2.2.2.2.2.2.2.2.2.2.2.2.2.2.2.2.1
theorem JU'.jn10 {R : Nat → Nat → Option Nat} {C : Nat → Nat → Option Nat} {T : Nat → Nat} {N : Nat → Nat} {Z : Nat} {ow : Nat → Nat} {jj : Bool} {jd : Nat → Nat} (X_ : JU' R C T N Z ow jj jd) : jj = true → N (jd 10) = 600 := X_.2.2.2.2.2.2.2.2.2.2.2.2.2.2.2.2.2.2.2.2.2.2.2.2.2.2.1
theorem JU'.jn11 {R : Nat → Nat → Option Nat} {C : Nat → Nat → Option Nat} {T : Nat → Nat} {N : Nat → Nat} {Z : Nat} {ow : Nat → Nat} {jj : Bool} {jd : Nat → Nat} (X_ : JU' R C T N Z ow jj jd) : jj = true → N (jd 11) = 600 := X_.2.2.2.2.2.2.2.2.2.2.2.2.2.2.2.2.2.2.2.2.2.2.2.2.2.2.2.1
theorem JU'.jn12 {R : Nat → Nat → Option Nat} {C : Nat → Nat → Option Nat} {T : Nat → Nat} {N : Nat → Nat} {Z : Nat} {ow : Nat → Nat} {jj : Bool} {jd : Nat → Nat} (X_ : JU' R C T N Z ow jj jd) : jj = true → N (jd 12) = 600 := X_.2.2.2.2.2.2.2.2.2.2.2.2.2.2.2.2.2.2.2.2.2.2.2.2.2.2.2.2.1
theorem JU'.jn13 {R : Nat → Nat → Option Nat} {C : Nat → Nat → Option Nat} {T : Nat → Nat} {N : Nat → Nat} {Z : Nat} {ow : Nat → Nat} {jj : Bool} {jd : Nat → Nat} (X_ : JU' R C T N Z ow jj jd) : jj = true → N (jd 13) = 600 := X_.2.2.2.2.2.2.2.2.2.2.2.2.2.2.2.2.2.2.2.2.2.2.2.2.2.2.2.2.2.1
theorem JU'.jn14 {R : Nat → Nat → Option Nat} {C : Nat → Nat → Option Nat} {T : Nat → Nat} {N : Nat → Nat} {Z : Nat} {ow : Nat → Nat} {jj : Bool} {jd : Nat → Nat} (X_ : JU' R C T N Z ow jj jd) : jj = true → N (jd 14) = 30 := X_.2.2.2.2.2.2.2.2.2.2.2.2.2.2.2.2.2.2.2.2.2.2.2.2.2.2.2.2.2.2.1
theorem JU'.jn18 {R : Nat → Nat → Option Nat} {C : Nat → Nat → Option Nat} {T : Nat → Nat} {N : Nat → Nat} {Z : Nat} {ow : Nat → Nat} {jj : Bool} {jd : Nat → Nat} (X_ : JU' R C T N Z ow jj jd) : jj = true → N (jd 18) = 4 := X_.2.2.2.2.2.2.2.2.2.2.2.2.2.2.2.2.2.2.2.2.2.2.2.2.2.2.2.2.2.2.2.1
theorem JU'.jn19 {R : Nat → Nat → Option Nat} {C : Nat → Nat → Option Nat} {T : Nat → Nat} {N : Nat → Nat} {Z : Nat} {ow : Nat → Nat} {jj : Bool} {jd : Nat → Nat} (X_ : JU' R C T N Z ow jj jd) : jj = true → N (jd 19) = 20 := X_.2.2.2.2.2.2.2.2.2.2.2.2.2.2.2.2.2.2.2.2.2.2.2.2.2.2.2.2.2.2.2.2.1
theorem JU'.jn20 {R : Nat → Nat → Option Nat} {C : Nat → Nat → Option Nat} {T : Nat → Nat} {N : Nat → Nat} {Z : Nat} {ow : Nat → Nat} {jj : Bool} {jd : Nat → Nat} (X_ : JU' R C T N Z ow jj jd) : jj = true → N (jd 20) = 40 := X_.2.2.2.2.2.2.2.2.2.2.2.2.2.2.2.2.2.2.2.2.2.2.2.2.2.2.2.2.2.2.2.2.2.1
theorem JU'.jr640 {R : Nat → Nat → Option Nat} {C : Nat → Nat → Option Nat} {T : Nat → Nat} {N : Nat → Nat} {Z : Nat} {ow : Nat → Nat} {jj : Bool} {jd : Nat → Nat} (X_ : JU' R C T N Z ow jj jd) : jj = true → R 640 (jd 0) = some 5 := X_.2.2.2.2.2.2.2.2.2.2.2.2.2.2.2.2.2.2.2.2.2.2.2.2.2.2.2.2.2.2.2.2.2.2.1
theorem JU'.jr641 {R : Nat → Nat → Option Nat} {C : Nat → Nat → Option Nat} {T : Nat → Nat} {N : Nat → Nat} {Z : Nat} {ow : Nat → Nat} {jj : Bool} {jd : Nat → Nat} (X_ : JU' R C T N Z ow jj jd) : jj = true → R 641 (jd 0) = some (jd 1) := X_.2.2.2.2.2.2.2.2.2.2.2.2.2.2.2.2.2.2.2.2.2.2.2.2.2.2.2.2.2.2.2.2.2.2.2.1
theorem JU'.jr768 {R : Nat → Nat → Option Nat} {C : Nat → Nat → Option Nat} {T : Nat → Nat} {N : Nat → Nat} {Z : Nat} {ow : Nat → Nat} {jj : Bool} {jd : Nat → Nat} (X_ : JU' R C T N Z ow jj jd) : jj = true → R 768 (jd 1) = some 5 := X_.2.2.2.2.2.2.2.2.2.2.2.2.2.2.2.2.2.2.2.2.2.2.2.2.2.2.2.2.2.2.2.2.2.2.2.2.1
theorem JU'.jr769 {R : Nat → Nat → Option Nat} {C : Nat → Nat → Option Nat} {T : Nat → Nat} {N : Nat → Nat} {Z : Nat} {ow : Nat → Nat} {jj : Bool} {jd : Nat → Nat} (X_ : JU' R C T N Z ow jj jd) : jj = true → R 769 (jd 1) = some (jd 2) := X_.2.2.2.2.2.2.2.2.2.2.2.2.2.2.2.2.2.2.2.2.2.2.2.2.2.2.2.2.2.2.2.2.2.2.2.2.2.1
theorem JU'.jr770 {R : Nat → Nat → Option Nat} {C : Nat → Nat → Option Nat} {T : Nat → Nat} {N : Nat → Nat} {Z : Nat} {ow : Nat → Nat} {jj : Bool} {jd : Nat → Nat} (X_ : JU' R C T N Z ow jj jd) : jj = true → R 770 (jd 1) = some (jd 3) := X_.2.2.2.2.2.2.2.2.2.2.2.2.2.2.2.2.2.2.2.2.2.2.2.2.2.2.2.2.2.2.2.2.2.2.2.2.2.2.1
theorem JU'.jr771 {R : Nat → Nat → Option Nat} {C : Nat → Nat → Option Nat} {T : Nat → Nat} {N : Nat → Nat} {Z : Nat} {ow : Nat → Nat} {jj : Bool} {jd : Nat → Nat} (X_ : JU' R C T N Z ow jj jd) : jj = true → R 771 (jd 1) = some (jd 4) := X_.2.2.2.2.2.2.2.2.2.2.2.2.2.2.2.2.2.2.2.2.2.2.2.2.2.2.2.2.2.2.2.2.2.2.2.2.2.2.2.1
theorem JU'.jr772 {R : Nat → Nat → Option Nat} {C : Nat → Nat → Option Nat} {T : Nat → Nat} {N : Nat → Nat} {Z : Nat} {ow : Nat → Nat} {jj : Bool} {jd : Nat → Nat} (X_ : JU' R C T N Z ow jj jd) : jj = true → R 772 (jd 1) = some (jd 5) := X_.2.2.2.2.2.2.2.2.2.2.2.2.2.2.2.2.2.2.2.2.2.2.2.2.2.2.2.2.2.2.2.2.2.2.2.2.2.2.2.2.1
theorem JU'.jr773 {R : Nat → Nat → Option Nat} {C : Nat → Nat → Option Nat} {T : Nat → Nat} {N : Nat → Nat} {Z : Nat} {ow : Nat → Nat} {jj : Bool} {jd : Nat → Nat} (X_ : JU' R C T N Z ow jj jd) : jj = true → R 773 (jd 1) = some (jd 6) := X_.2.2.2.2.2.2.2.2.2.2.2.2.2.2.2.2.2.2.2.2.2.2.2.2.2.2.2.2.2.2.2.2.2.2.2.2.2.2.2.2.2.1
theorem JU'.jr774 {R : Nat → Nat → Option Nat} {C : Nat → Nat → Option Nat} {T : Nat → Nat} {N : Nat → Nat} {Z : Nat} {ow : Nat → Nat} {jj : Bool} {jd : Nat → Nat} (X_ : JU' R C T N Z ow jj jd) : jj = true → R 774 (jd 1) = some (jd 7) := X_.2.2.2.2.2.2.2.2.2.2.2.2.2.2.2.2.2.2.2.2.2.2.2.2.2.2.2.2.2.2.2.2.2.2.2.2.2.2.2.2.2.2.1
theorem JU'.jr775 {R : Nat → Nat → Option Nat} {C : Nat → Nat → Option Nat} {T : Nat → Nat} {N : Nat → Nat} {Z : Nat} {ow : Nat → Nat} {jj : Bool} {jd : Nat → Nat} (X_ : JU' R C T N Z ow jj jd) : jj = true → R 775 (jd 1) = some (jd 8) := X_.2.2.2.2.2.2.2.2.2.2.2.2.2.2.2.2.2.2.2.2.2.2.2.2.2.2.2.2.2.2.2.2.2.2.2.2.2.2.2.2.2.2.2.1
theorem JU'.jr645 {R : Nat → Nat → Option Nat} {C : Nat → Nat → Option Nat} {T : Nat → Nat} {N : Nat → Nat} {Z : Nat} {ow : Nat → Nat} {jj : Bool} {jd : Nat → Nat} (X_ : JU' R C T N Z ow jj jd) : jj = true → R 645 (jd 0) = some (jd 9) := X_.2.2.2.2.2.2.2.2.2.2.2.2.2.2.2.2.2.2.2.2.2.2.2.2.2.2.2.2.2.2.2.2.2.2.2.2.2.2.2.2.2.2.2.2.1
theorem JU'.jr646 {R : Nat → Nat → Option Nat} {C : Nat → Nat → Option Nat} {T : Nat → Nat} {N : Nat → Nat} {Z : Nat} {ow : Nat → Nat} {jj : Bool} {jd : Nat → Nat} (X_ : JU' R C T N Z ow jj jd) : jj = true → R 646 (jd 0) = some (jd 10) := X_.2.2.2.2.2.2.2.2.2.2.2.2.2.2.2.2.2.2.2.2.2.2.2.2.2.2.2.2.2.2.2.2.2.2.2.2.2.2.2.2.2.2.2.2.2.1
theorem JU'.jr647 {R : Nat → Nat → Option Nat} {C : Nat → Nat → Option Nat} {T : Nat → Nat} {N : Nat → Nat} {Z : Nat} {ow : Nat → Nat} {jj : Bool} {jd : Nat → Nat} (X_ : JU' R C T N Z ow jj jd) : jj = true → R 647 (jd 0) = some (jd 11) := X_.2.2.2.2.2.2.2.2.2.2.2.2.2.2.2.2.2.2.2.2.2.2.2.2.2.2.2.2.2.2.2.2.2.2.2.2.2.2.2.2.2.2.2.2.2.2.1
theorem JU'.jr648 {R : Nat → Nat → Option Nat} {C : Nat → Nat → Option Nat} {T : Nat → Nat} {N : Nat → Nat} {Z : Nat} {ow : Nat → Nat} {jj : Bool} {jd : Nat → Nat} (X_ : JU' R C T N Z ow jj jd) : jj = true → R 648 (jd 0) = some (jd 12) := X_.2.2.2.2.2.2.2.2.2.2.2.2.2.2.2.2.2.2.2.2.2.2.2.2.2.2.2.2.2.2.2.2.2.2.2.2.2.2.2.2.2.2.2.2.2.2.2.1
theorem JU'.jr649 {R : Nat → Nat → Option Nat} {C : Nat → Nat → Option Nat} {T : Nat → Nat} {N : Nat → Nat} {Z : Nat} {ow : Nat → Nat} {jj : Bool} {jd : Nat → Nat} (X_ : JU' R C T N Z ow jj jd) : jj = true → R 649 (jd 0) = some (jd 13) := X_.2.2.2.2.2.2.2.2.2.2.2.2.2.2.2.2.2.2.2.2.2.2.2.2.2.2.2.2.2.2.2.2.2.2.2.2.2.2.2.2.2.2.2.2.2.2.2.2.1
theorem JU'.jr650 {R : Nat → Nat → Option Nat} {C : Nat → Nat → Option Nat} {T : Nat → Nat} {N : Nat → Nat} {Z : Nat} {ow : Nat → Nat} {jj : Bool} {jd : Nat → Nat} (X_ : JU' R C T N Z ow jj jd) : jj = true → R 650 (jd 0) = some (jd 14) := X_.2.2.2.2.2.2.2.2.2.2.2.2.2.2.2.2.2.2.2.2.2.2.2.2.2.2.2.2.2.2.2.2.2.2.2.2.2.2.2.2.2.2.2.2.2.2.2.2.2.1
theorem JU'.jr652 {R : Nat → Nat → Option Nat} {C : Nat → Nat → Option Nat} {T : Nat → Nat} {N : Nat → Nat} {Z : Nat} {ow : Nat → Nat} {jj : Bool} {jd : Nat → Nat} (X_ : JU' R C T N Z ow jj jd) : jj = true → R 652 (jd 0) = some (jd 15) := X_.2.2.2.2.2.2.2.2.2.2.2.2.2.2.2.2.2.2.2.2.2.2.2.2.2.2.2.2.2.2.2.2.2.2.2.2.2.2.2.2.2.2.2.2.2.2.2.2.2.2.1
theorem JU'.jr653 {R : Nat → Nat → Option Nat} {C : Nat → Nat → Option Nat} {T : Nat → Nat} {N : Nat → Nat} {Z : Nat} {ow : Nat → Nat} {jj : Bool} {jd : Nat → Nat} (X_ : JU' R C T N Z ow jj jd) : jj = true → R 653 (jd 0) = some (jd 16) := X_.2.2.2.2.2.2.2.2.2.2.2.2.2.2.2.2.2.2.2.2.2.2.2.2.2.2.2.2.2.2.2.2.2.2.2.2.2.2.2.2.2.2.2.2.2.2.2.2.2.2.2.1
theorem JU'.jr654 {R : Nat → Nat → Option Nat} {C : Nat → Nat → Option Nat} {T : Nat → Nat} {N : Nat → Nat} {Z : Nat} {ow : Nat → Nat} {jj : Bool} {jd : Nat → Nat} (X_ : JU' R C T N Z ow jj jd) : jj = true → R 654 (jd 0) = some (jd 17) := X_.2.2.2.2.2.2.2.2.2.2.2.2.2.2.2.2.2.2.2.2.2.2.2.2.2.2.2.2.2.2.2.2.2.2.2.2.2.2.2.2.2.2.2.2.2.2.2.2.2.2.2.2.1
theorem JU'.jr656 {R : Nat → Nat → Option Nat} {C : Nat → Nat → Option Nat} {T : Nat → Nat} {N : Nat → Nat} {Z : Nat} {ow : Nat → Nat} {jj : Bool} {jd : Nat → Nat} (X_ : JU' R C T N Z ow jj jd) : jj = true → R 656 (jd 0) = some (jd 18) := X_.2.2.2.2.2.2.2.2.2.2.2.2.2.2.2.2.2.2.2.2.2.2.2.2.2.2.2.2.2.2.2.2.2.2.2.2.2.2.2.2.2.2.2.2.2.2.2.2.2.2.2.2.2.1
theorem JU'.jr657 {R : Nat → Nat → Option Nat} {C : Nat → Nat → Option Nat} {T : Nat → Nat} {N : Nat → Nat} {Z : Nat} {ow : Nat → Nat} {jj : Bool} {jd : Nat → Nat} (X_ : JU' R C T N Z ow jj jd) : jj = true → R 657 (jd 0) = some (jd 19) := X_.2.2.2.2.2.2.2.2.2.2.2.2.2.2.2.2.2.2.2.2.2.2.2.2.2.2.2.2.2.2.2.2.2.2.2.2.2.2.2.2.2.2.2.2.2.2.2.2.2.2.2.2.2.2.1
theorem JU'.jr658 {R : Nat → Nat → Option Nat} {C : Nat → Nat → Option Nat} {T : Nat → Nat} {N : Nat → Nat} {Z : Nat} {ow : Nat → Nat} {jj : Bool} {jd : Nat → Nat} (X_ : JU' R C T N Z ow jj jd) : jj = true → R 658 (jd 0) = some (jd 20) := X_.2.2.2.2.2.2.2.2.2.2.2.2.2.2.2.2.2.2.2.2.2.2.2.2.2.2.2.2.2.2.2.2.2.2.2.2.2.2.2.2.2.2.2.2.2.2.2.2.2.2.2.2.2.2.2.1
theorem JU'.jo {R : Nat → Nat → Option Nat} {C : Nat → Nat → Option Nat} {T : Nat → Nat} {N : Nat → Nat} {Z : Nat} {ow : Nat → Nat} {jj : Bool} {jd : Nat → Nat} (X_ : JU' R C T N Z ow jj jd) : jj = true → ∀ i, i < 21 ∨ (100 ≤ i ∧ i < 124) → ow (jd i) = 500000 + i := X_.2.2.2.2.2.2.2.2.2.2.2.2.2.2.2.2.2.2.2.2.2.2.2.2.2.2.2.2.2.2.2.2.2.2.2.2.2.2.2.2.2.2.2.2.2.2.2.2.2.2.2.2.2.2.2.2.1
theorem JU'.jsC {R : Nat → Nat → Option Nat} {C : Nat → Nat → Option Nat} {T : Nat → Nat} {N : Nat → Nat} {Z : Nat} {ow : Nat → Nat} {jj : Bool} {jd : Nat → Nat} (X_ : JU' R C T N Z ow jj jd) : jj = true → ∀ i, i < 24 → C (jd 3) i = some (jd (100 + i)) := X_.2.2.2.2.2.2.2.2.2.2.2.2.2.2.2.2.2.2.2.2.2.2.2.2.2.2.2.2.2.2.2.2.2.2.2.2.2.2.2.2.2.2.2.2.2.2.2.2.2.2.2.2.2.2.2.2.2.1
theorem JU'.jsT {R : Nat → Nat → Option Nat} {C : Nat → Nat → Option Nat} {T : Nat → Nat} {N : Nat → Nat} {Z : Nat} {ow : Nat → Nat} {jj : Bool} {jd : Nat → Nat} (X_ : JU' R C T N Z ow jj jd) : jj = true → ∀ i, i < 24 → T (jd (100 + i)) = 4 := X_.2.2.2.2.2.2.2.2.2.2.2.2.2.2.2.2.2.2.2.2.2.2.2.2.2.2.2.2.2.2.2.2.2.2.2.2.2.2.2.2.2.2.2.2.2.2.2.2.2.2.2.2.2.2.2.2.2.2
theorem JU'.mk {R : Nat → Nat → Option Nat} {C : Nat → Nat → Option Nat} {T : Nat → Nat} {N : Nat → Nat} {Z : Nat} {ow : Nat → Nat} {jj : Bool} {jd : Nat → Nat} (jN_ : jj = false → R 1416 0 = none) (jY_ : jj = true → R 1416 0 = some (jd 0)) (jt0_ : jj = true → T (jd 0) = 6) (jt1_ : jj = true → T (jd 1) = 7) (jt2_ : jj = true → T (jd 2) = 101) (jt3_ : jj = true → T (jd 3) = 107) (jt4_ : jj = true → T (jd 4) = 4) (jt5_ : jj = true → T (jd 5) = 4) (jt6_ : jj = true → T (jd 6) = 4) (jt7_ : jj = true → T (jd 7) = 4) (jt8_ : jj = true → T (jd 8) = 4) (jt9_ : jj = true → T (jd 9) = 101) (jt10_ : jj = true → T (jd 10) = 100) (jt11_ : jj = true → T (jd 11) = 101) (jt12_ : jj = true → T (jd 12) = 101) (jt13_ : jj = true → T (jd 13) = 101) (jt14_ : jj = true → T (jd 14) = 101) (jt15_ : jj = true → T (jd 15) = 101) (jt16_ : jj = true → T (jd 16) = 101) (jt17_ : jj = true → T (jd 17) = 100) (jt18_ : jj = true → T (jd 18) = 101) (jt19_ : jj = true → T (jd 19) = 101) (jt20_ : jj = true → T (jd 20) = 102) (jn2_ : jj = true → N (jd 2) = 8) (jn3_ : jj = true → N (jd 3) = 24) (jn9_ : jj = true → N (jd 9) = 600) (jn10_ : jj = true → N (jd 10) = 600) (jn11_ : jj = true → N (jd 11) = 600) (jn12_ : jj = true → N (jd 12) = 600) (jn13_ : jj = true → N (jd 13) = 600) (jn14_ : jj = true → N (jd 14) = 30) (jn18_ : jj = true → N (jd 18) = 4) (jn19_ : jj = true → N (jd 19) = 20) (jn20_ : jj = true → N (jd 20) = 40) (jr640_ : jj = true → R 640 (jd 0) = some 5) (jr641_ : jj = true → R 641 (jd 0) = some (jd 1)) (jr768_ : jj = true → R 768 (jd 1) = some 5) (jr769_ : jj = true → R 769 (jd 1) = some (jd 2)) (jr770_ : jj = true → R 770 (jd 1) = some (jd 3)) (jr771_ : jj = true → R 771 (jd 1) = some (jd 4)) (jr772_ : jj = true → R 772 (jd 1) = some (jd 5)) (jr773_ : jj = true → R 773 (jd 1) = some (jd 6)) (jr774_ : jj = true → R 774 (jd 1) = some (jd 7)) (jr775_ : jj = true → R 775 (jd 1) = some (jd 8)) (jr645_ : jj = true → R 645 (jd 0) = some (jd 9)) (jr646_ : jj = true → R 646 (jd 0) = some (jd 10)) (jr647_ : jj = true → R 647 (jd 0) = some (jd 11)) (jr648_ : jj = true → R 648 (jd 0) = some (jd 12)) (jr649_ : jj = true → R 649 (jd 0) = some (jd 13)) (jr650_ : jj = true → R 650 (jd 0) = some (jd 14)) (jr652_ : jj = true → R 652 (jd 0) = some (jd 15)) (jr653_ : jj = true → R 653 (jd 0) = some (jd 16)) (jr654_ : jj = true → R 654 (jd 0) = some (jd 17)) (jr656_ : jj = true → R 656 (jd 0) = some (jd 18)) (jr657_ : jj = true → R 657 (jd 0) = some (jd 19)) (jr658_ : jj = true → R 658 (jd 0) = some (jd 20)) (jo_ : jj = true → ∀ i, i < 21 ∨ (100 ≤ i ∧ i < 124) → ow (jd i) = 500000 + i) (jsC_ : jj = true → ∀ i, i < 24 → C (jd 3) i = some (jd (100 + i))) (jsT_ : jj = true → ∀ i, i < 24 → T (jd (100 + i)) = 4) : JU' R C T N Z ow jj jd := ⟨jN_, jY_, jt0_, jt1_, jt2_, jt3_, jt4_, jt5_, jt6_, jt7_, jt8_, jt9_, jt10_, jt11_, jt12_, jt13_, jt14_, jt15_, jt16_, jt17_, jt18_, jt19_, jt20_, jn2_, jn3_, jn9_, jn10_, jn11_, jn12_, jn13_, jn14_, jn18_, jn19_, jn20_, jr640_, jr641_, jr768_, jr769_, jr770_, jr771_, jr772_, jr773_, jr774_, jr775_, jr645_, jr646_, jr647_, jr648_, jr649_, jr650_, jr652_, jr653_, jr654_, jr656_, jr657_, jr658_, jo_, jsC_, jsT_⟩
def P6 (R : Nat → Nat → Option Nat) (T : Nat → Nat) (ow : Nat → Nat) (f a p t o : Nat) : Prop := R f a = some p ∧ T p = t ∧ ow p = o
def SX' (R : Nat → Nat → Option Nat) (C : Nat → Nat → Option Nat) (T : Nat → Nat) (N : Nat → Nat) (Z : Nat) (G : Gh) : Prop := (SS' R C T N Z G.ow) ∧ (RU' R C T N Z G.ow G.rl G.ca G.hd G.cd G.nr G.nc) ∧ (TE' R C T N Z G.ow G.te G.nt) ∧ (JU' R C T N Z G.ow G.jj G.jd) ∧ (P6 R T G.ow 0 1 G.tk 100 100002) ∧ (P6 R T G.ow 0 3 G.wk 100 200002) ∧ (P6 R T G.ow 141 5 G.pg 101 300104) ∧ (P6 R T G.ow 1281 24 G.kd 101 700101) ∧ (P6 R T G.ow 1282 24 G.st 101 700102) ∧ (P6 R T G.ow 1283 24 G.vl 102 700103)
theorem SX'.ss {R : Nat → Nat → Option Nat} {C : Nat → Nat → Option Nat} {T : Nat → Nat} {N : Nat → Nat} {Z : Nat} {G : Gh} (X_ : SX' R C T N Z G) : SS' R C T N Z G.ow := X_.1
theorem SX'.ru {R : Nat → Nat → Option Nat} {C : Nat → Nat → Option Nat} {T : Nat → Nat} {N : Nat → Nat} {Z : Nat} {G : Gh} (X_ : SX' R C T N Z G) : RU' R C T N Z G.ow G.rl G.ca G.hd G.cd G.nr G.nc := X_.2.1
theorem SX'.te {R : Nat → Nat → Option Nat} {C : Nat → Nat → Option Nat} {T : Nat → Nat} {N : Nat → Nat} {Z : Nat} {G : Gh} (X_ : SX' R C T N Z G) : TE' R C T N Z G.ow G.te G.nt := X_.2.2.1
theorem SX'.ju {R : Nat → Nat → Option Nat} {C : Nat → Nat → Option Nat} {T : Nat → Nat} {N : Nat → Nat} {Z : Nat} {G : Gh} (X_ : SX' R C T N Z G) : JU' R C T N Z G.ow G.jj G.jd := X_.2.2.2.1
theorem SX'.tk {R : Nat → Nat → Option Nat} {C : Nat → Nat → Option Nat} {T : Nat → Nat} {N : Nat → Nat} {Z : Nat} {G : Gh} (X_ : SX' R C T N Z G) : P6 R T G.ow 0 1 G.tk 100 100002 := X_.2.2.2.2.1
theorem SX'.wk {R : Nat → Nat → Option Nat} {C : Nat → Nat → Option Nat} {T : Nat → Nat} {N : Nat → Nat} {Z : Nat} {G : Gh} (X_ : SX' R C T N Z G) : P6 R T G.ow 0 3 G.wk 100 200002 := X_.2.2.2.2.2.1
theorem SX'.pg {R : Nat → Nat → Option Nat} {C : Nat → Nat → Option Nat} {T : Nat → Nat} {N : Nat → Nat} {Z : Nat} {G : Gh} (X_ : SX' R C T N Z G) : P6 R T G.ow 141 5 G.pg 101 300104 := X_.2.2.2.2.2.2.1
theorem SX'.kd {R : Nat → Nat → Option Nat} {C : Nat → Nat → Option Nat} {T : Nat → Nat} {N : Nat → Nat} {Z : Nat} {G : Gh} (X_ : SX' R C T N Z G) : P6 R T G.ow 1281 24 G.kd 101 700101 := X_.2.2.2.2.2.2.2.1
theorem SX'.st {R : Nat → Nat → Option Nat} {C : Nat → Nat → Option Nat} {T : Nat → Nat} {N : Nat → Nat} {Z : Nat} {G : Gh} (X_ : SX' R C T N Z G) : P6 R T G.ow 1282 24 G.st 101 700102 := X_.2.2.2.2.2.2.2.2.1
theorem SX'.vl {R : Nat → Nat → Option Nat} {C : Nat → Nat → Option Nat} {T : Nat → Nat} {N : Nat → Nat} {Z : Nat} {G : Gh} (X_ : SX' R C T N Z G) : P6 R T G.ow 1283 24 G.vl 102 700103 := X_.2.2.2.2.2.2.2.2.2
theorem SX'.mk {R : Nat → Nat → Option Nat} {C : Nat → Nat → Option Nat} {T : Nat → Nat} {N : Nat → Nat} {Z : Nat} {G : Gh} (ss_ : SS' R C T N Z G.ow) (ru_ : RU' R C T N Z G.ow G.rl G.ca G.hd G.cd G.nr G.nc) (te_ : TE' R C T N Z G.ow G.te G.nt) (ju_ : JU' R C T N Z G.ow G.jj G.jd) (tk_ : P6 R T G.ow 0 1 G.tk 100 100002) (wk_ : P6 R T G.ow 0 3 G.wk 100 200002) (pg_ : P6 R T G.ow 141 5 G.pg 101 300104) (kd_ : P6 R T G.ow 1281 24 G.kd 101 700101) (st_ : P6 R T G.ow 1282 24 G.st 101 700102) (vl_ : P6 R T G.ow 1283 24 G.vl 102 700103) : SX' R C T N Z G := ⟨ss_, ru_, te_, ju_, tk_, wk_, pg_, kd_, st_, vl_⟩
def SX (h : PH) (G : Gh) : Prop := SX' (hR h) (hC h) (hT h) (hN h) (hZ h) G
theorem SX.fr {h : PH} {G : Gh} (S : SX h G) : ∀ i, hZ h ≤ i → hT h i = 0 := (SX'.ss S).fr
theorem SX.zz {h : PH} {G : Gh} (S : SX h G) : 110 ≤ hZ h := (SX'.ss S).zz
theorem SX.t0 {h : PH} {G : Gh} (S : SX h G) : hT h 0 = 12 := (SX'.ss S).t0
theorem SX.t1 {h : PH} {G : Gh} (S : SX h G) : hT h 1 = 1 := (SX'.ss S).t1
theorem SX.t3 {h : PH} {G : Gh} (S : SX h G) : hT h 3 = 1 := (SX'.ss S).t3
theorem SX.t5 {h : PH} {G : Gh} (S : SX h G) : hT h 5 = 2 := (SX'.ss S).t5
theorem SX.t6 {h : PH} {G : Gh} (S : SX h G) : hT h 6 = 8 := (SX'.ss S).t6
theorem SX.t8 {h : PH} {G : Gh} (S : SX h G) : hT h 8 = 8 := (SX'.ss S).t8
theorem SX.t10 {h : PH} {G : Gh} (S : SX h G) : hT h 10 = 8 := (SX'.ss S).t10
theorem SX.t12 {h : PH} {G : Gh} (S : SX h G) : hT h 12 = 8 := (SX'.ss S).t12
theorem SX.t14 {h : PH} {G : Gh} (S : SX h G) : hT h 14 = 8 := (SX'.ss S).t14
theorem SX.t23 {h : PH} {G : Gh} (S : SX h G) : hT h 23 = 5 := (SX'.ss S).t23
theorem SX.t24 {h : PH} {G : Gh} (S : SX h G) : hT h 24 = 11 := (SX'.ss S).t24
theorem SX.t7 {h : PH} {G : Gh} (S : SX h G) : hT h 7 = 102 := (SX'.ss S).t7
theorem SX.t9 {h : PH} {G : Gh} (S : SX h G) : hT h 9 = 102 := (SX'.ss S).t9
theorem SX.t11 {h : PH} {G : Gh} (S : SX h G) : hT h 11 = 102 := (SX'.ss S).t11
theorem SX.t13 {h : PH} {G : Gh} (S : SX h G) : hT h 13 = 102 := (SX'.ss S).t13
theorem SX.t15 {h : PH} {G : Gh} (S : SX h G) : hT h 15 = 102 := (SX'.ss S).t15
theorem SX.t16 {h : PH} {G : Gh} (S : SX h G) : hT h 16 = 101 := (SX'.ss S).t16
theorem SX.t17 {h : PH} {G : Gh} (S : SX h G) : hT h 17 = 101 := (SX'.ss S).t17
theorem SX.t18 {h : PH} {G : Gh} (S : SX h G) : hT h 18 = 101 := (SX'.ss S).t18
theorem SX.t19 {h : PH} {G : Gh} (S : SX h G) : hT h 19 = 104 := (SX'.ss S).t19
theorem SX.t20 {h : PH} {G : Gh} (S : SX h G) : hT h 20 = 101 := (SX'.ss S).t20
theorem SX.t21 {h : PH} {G : Gh} (S : SX h G) : hT h 21 = 101 := (SX'.ss S).t21
theorem SX.t25 {h : PH} {G : Gh} (S : SX h G) : hT h 25 = 102 := (SX'.ss S).t25
theorem SX.t29 {h : PH} {G : Gh} (S : SX h G) : hT h 29 = 101 := (SX'.ss S).t29
theorem SX.t30 {h : PH} {G : Gh} (S : SX h G) : hT h 30 = 101 := (SX'.ss S).t30
theorem SX.t31 {h : PH} {G : Gh} (S : SX h G) : hT h 31 = 106 := (SX'.ss S).t31
theorem SX.n7 {h : PH} {G : Gh} (S : SX h G) : hN h 7 = 5 := (SX'.ss S).n7
theorem SX.n9 {h : PH} {G : Gh} (S : SX h G) : hN h 9 = 12 := (SX'.ss S).n9
theorem SX.n11 {h : PH} {G : Gh} (S : SX h G) : hN h 11 = 4 := (SX'.ss S).n11
theorem SX.n13 {h : PH} {G : Gh} (S : SX h G) : hN h 13 = 10 := (SX'.ss S).n13
theorem SX.n15 {h : PH} {G : Gh} (S : SX h G) : hN h 15 = 30 := (SX'.ss S).n15
theorem SX.n16 {h : PH} {G : Gh} (S : SX h G) : hN h 16 = 12 := (SX'.ss S).n16
theorem SX.n17 {h : PH} {G : Gh} (S : SX h G) : hN h 17 = 20 := (SX'.ss S).n17
theorem SX.n18 {h : PH} {G : Gh} (S : SX h G) : hN h 18 = 50 := (SX'.ss S).n18
theorem SX.n19 {h : PH} {G : Gh} (S : SX h G) : hN h 19 = 30 := (SX'.ss S).n19
theorem SX.n20 {h : PH} {G : Gh} (S : SX h G) : hN h 20 = 20 := (SX'.ss S).n20
theorem SX.n21 {h : PH} {G : Gh} (S : SX h G) : hN h 21 = 20 := (SX'.ss S).n21
theorem SX.n25 {h : PH} {G : Gh} (S : SX h G) : hN h 25 = 18 := (SX'.ss S).n25
theorem SX.n29 {h : PH} {G : Gh} (S : SX h G) : hN h 29 = 3 := (SX'.ss S).n29
theorem SX.n30 {h : PH} {G : Gh} (S : SX h G) : hN h 30 = 20 := (SX'.ss S).n30
theorem SX.n31 {h : PH} {G : Gh} (S : SX h G) : hN h 31 = 100 := (SX'.ss S).n31
theorem SX.r1408_0 {h : PH} {G : Gh} (S : SX h G) : hR h 1408 0 = some 1 := (SX'.ss S).r1408_0
theorem SX.r1409_0 {h : PH} {G : Gh} (S : SX h G) : hR h 1409 0 = some 3 := (SX'.ss S).r1409_0
theorem SX.r1410_0 {h : PH} {G : Gh} (S : SX h G) : hR h 1410 0 = some 5 := (SX'.ss S).r1410_0
theorem SX.r1411_0 {h : PH} {G : Gh} (S : SX h G) : hR h 1411 0 = some 23 := (SX'.ss S).r1411_0
theorem SX.r1412_0 {h : PH} {G : Gh} (S : SX h G) : hR h 1412 0 = some 31 := (SX'.ss S).r1412_0
theorem SX.r128_5 {h : PH} {G : Gh} (S : SX h G) : hR h 128 5 = some 6 := (SX'.ss S).r128_5
theorem SX.r129_5 {h : PH} {G : Gh} (S : SX h G) : hR h 129 5 = some 8 := (SX'.ss S).r129_5
theorem SX.r130_5 {h : PH} {G : Gh} (S : SX h G) : hR h 130 5 = some 10 := (SX'.ss S).r130_5
theorem SX.r131_5 {h : PH} {G : Gh} (S : SX h G) : hR h 131 5 = some 12 := (SX'.ss S).r131_5
theorem SX.r132_5 {h : PH} {G : Gh} (S : SX h G) : hR h 132 5 = some 14 := (SX'.ss S).r132_5
theorem SX.r133_5 {h : PH} {G : Gh} (S : SX h G) : hR h 133 5 = some 16 := (SX'.ss S).r133_5
theorem SX.r134_5 {h : PH} {G : Gh} (S : SX h G) : hR h 134 5 = some 17 := (SX'.ss S).r134_5
theorem SX.r135_5 {h : PH} {G : Gh} (S : SX h G) : hR h 135 5 = some 18 := (SX'.ss S).r135_5
theorem SX.r136_5 {h : PH} {G : Gh} (S : SX h G) : hR h 136 5 = some 19 := (SX'.ss S).r136_5
theorem SX.r137_5 {h : PH} {G : Gh} (S : SX h G) : hR h 137 5 = some 20 := (SX'.ss S).r137_5
theorem SX.r138_5 {h : PH} {G : Gh} (S : SX h G) : hR h 138 5 = some 21 := (SX'.ss S).r138_5
theorem SX.r512_23 {h : PH} {G : Gh} (S : SX h G) : hR h 512 23 = some 5 := (SX'.ss S).r512_23
theorem SX.r513_23 {h : PH} {G : Gh} (S : SX h G) : hR h 513 23 = some 24 := (SX'.ss S).r513_23
theorem SX.r514_23 {h : PH} {G : Gh} (S : SX h G) : hR h 514 23 = some 29 := (SX'.ss S).r514_23
theorem SX.r515_23 {h : PH} {G : Gh} (S : SX h G) : hR h 515 23 = some 30 := (SX'.ss S).r515_23
theorem SX.r896_6 {h : PH} {G : Gh} (S : SX h G) : hR h 896 6 = some 7 := (SX'.ss S).r896_6
theorem SX.r896_8 {h : PH} {G : Gh} (S : SX h G) : hR h 896 8 = some 9 := (SX'.ss S).r896_8
theorem SX.r896_10 {h : PH} {G : Gh} (S : SX h G) : hR h 896 10 = some 11 := (SX'.ss S).r896_10
theorem SX.r896_12 {h : PH} {G : Gh} (S : SX h G) : hR h 896 12 = some 13 := (SX'.ss S).r896_12
theorem SX.r896_14 {h : PH} {G : Gh} (S : SX h G) : hR h 896 14 = some 15 := (SX'.ss S).r896_14
theorem SX.r1280_24 {h : PH} {G : Gh} (S : SX h G) : hR h 1280 24 = some 25 := (SX'.ss S).r1280_24
theorem SX.o0 {h : PH} {G : Gh} (S : SX h G) : G.ow 0 = 0 := (SX'.ss S).o0
theorem SX.o1 {h : PH} {G : Gh} (S : SX h G) : G.ow 1 = 100001 := (SX'.ss S).o1
theorem SX.o3 {h : PH} {G : Gh} (S : SX h G) : G.ow 3 = 200001 := (SX'.ss S).o3
theorem SX.o31 {h : PH} {G : Gh} (S : SX h G) : G.ow 31 = 400000 := (SX'.ss S).o31
theorem SX.o5 {h : PH} {G : Gh} (S : SX h G) : G.ow 5 = 800005 := (SX'.ss S).o5
theorem SX.o6 {h : PH} {G : Gh} (S : SX h G) : G.ow 6 = 800006 := (SX'.ss S).o6
theorem SX.o7 {h : PH} {G : Gh} (S : SX h G) : G.ow 7 = 300007 := (SX'.ss S).o7
theorem SX.o8 {h : PH} {G : Gh} (S : SX h G) : G.ow 8 = 800008 := (SX'.ss S).o8
theorem SX.o9 {h : PH} {G : Gh} (S : SX h G) : G.ow 9 = 300009 := (SX'.ss S).o9
theorem SX.o10 {h : PH} {G : Gh} (S : SX h G) : G.ow 10 = 800010 := (SX'.ss S).o10
theorem SX.o11 {h : PH} {G : Gh} (S : SX h G) : G.ow 11 = 300011 := (SX'.ss S).o11
theorem SX.o12 {h : PH} {G : Gh} (S : SX h G) : G.ow 12 = 800012 := (SX'.ss S).o12
theorem SX.o13 {h : PH} {G : Gh} (S : SX h G) : G.ow 13 = 300013 := (SX'.ss S).o13
theorem SX.o14 {h : PH} {G : Gh} (S : SX h G) : G.ow 14 = 800014 := (SX'.ss S).o14
theorem SX.o15 {h : PH} {G : Gh} (S : SX h G) : G.ow 15 = 300015 := (SX'.ss S).o15
theorem SX.o16 {h : PH} {G : Gh} (S : SX h G) : G.ow 16 = 300016 := (SX'.ss S).o16
theorem SX.o17 {h : PH} {G : Gh} (S : SX h G) : G.ow 17 = 600017 := (SX'.ss S).o17
theorem SX.o18 {h : PH} {G : Gh} (S : SX h G) : G.ow 18 = 300018 := (SX'.ss S).o18
theorem SX.o19 {h : PH} {G : Gh} (S : SX h G) : G.ow 19 = 300019 := (SX'.ss S).o19
theorem SX.o20 {h : PH} {G : Gh} (S : SX h G) : G.ow 20 = 300020 := (SX'.ss S).o20
theorem SX.o21 {h : PH} {G : Gh} (S : SX h G) : G.ow 21 = 300021 := (SX'.ss S).o21
theorem SX.o23 {h : PH} {G : Gh} (S : SX h G) : G.ow 23 = 700023 := (SX'.ss S).o23
theorem SX.o24 {h : PH} {G : Gh} (S : SX h G) : G.ow 24 = 700024 := (SX'.ss S).o24
theorem SX.o25 {h : PH} {G : Gh} (S : SX h G) : G.ow 25 = 900025 := (SX'.ss S).o25
theorem SX.o29 {h : PH} {G : Gh} (S : SX h G) : G.ow 29 = 700029 := (SX'.ss S).o29
theorem SX.o30 {h : PH} {G : Gh} (S : SX h G) : G.ow 30 = 700030 := (SX'.ss S).o30
theorem SX.nr30 {h : PH} {G : Gh} (S : SX h G) : G.nr ≤ 30 := (SX'.ru S).nr30
theorem SX.rlC {h : PH} {G : Gh} (S : SX h G) : ∀ r, r < G.nr → hC h 19 r = some (G.rl r) := (SX'.ru S).rlC
theorem SX.rlN {h : PH} {G : Gh} (S : SX h G) : ∀ r, G.nr ≤ r → hC h 19 r = none := (SX'.ru S).rlN
theorem SX.rlT {h : PH} {G : Gh} (S : SX h G) : ∀ r, r < G.nr → hT h (G.rl r) = 9 := (SX'.ru S).rlT
theorem SX.rlo {h : PH} {G : Gh} (S : SX h G) : ∀ r, r < G.nr → G.ow (G.rl r) = 310000 + r := (SX'.ru S).rlo
theorem SX.caR {h : PH} {G : Gh} (S : SX h G) : ∀ r, r < G.nr → hR h 1028 (G.rl r) = some (G.ca r) := (SX'.ru S).caR
theorem SX.caT {h : PH} {G : Gh} (S : SX h G) : ∀ r, r < G.nr → hT h (G.ca r) = 105 := (SX'.ru S).caT
theorem SX.caN {h : PH} {G : Gh} (S : SX h G) : ∀ r, r < G.nr → hN h (G.ca r) = 6 := (SX'.ru S).caN
theorem SX.cao {h : PH} {G : Gh} (S : SX h G) : ∀ r, r < G.nr → G.ow (G.ca r) = 320000 + r := (SX'.ru S).cao
theorem SX.hdR {h : PH} {G : Gh} (S : SX h G) : ∀ r, r < G.nr → hR h 1029 (G.rl r) = some (G.hd r) := (SX'.ru S).hdR
theorem SX.hdT {h : PH} {G : Gh} (S : SX h G) : ∀ r, r < G.nr → hT h (G.hd r) = 3 := (SX'.ru S).hdT
theorem SX.hdo {h : PH} {G : Gh} (S : SX h G) : ∀ r, r < G.nr → G.ow (G.hd r) = 330000 + r := (SX'.ru S).hdo
theorem SX.nc6 {h : PH} {G : Gh} (S : SX h G) : ∀ r, r < G.nr → G.nc r ≤ 6 := (SX'.ru S).nc6
theorem SX.cdC {h : PH} {G : Gh} (S : SX h G) : ∀ r, r < G.nr → ∀ k, k < G.nc r → hC h (G.ca r) k = some (G.cd r k) := (SX'.ru S).cdC
theorem SX.cdN {h : PH} {G : Gh} (S : SX h G) : ∀ r, r < G.nr → ∀ k, G.nc r ≤ k → hC h (G.ca r) k = none := (SX'.ru S).cdN
theorem SX.cdT {h : PH} {G : Gh} (S : SX h G) : ∀ r, r < G.nr → ∀ k, k < G.nc r → hT h (G.cd r k) = 3 := (SX'.ru S).cdT
theorem SX.cdo {h : PH} {G : Gh} (S : SX h G) : ∀ r, r < G.nr → ∀ k, k < G.nc r → G.ow (G.cd r k) = 340000 + 10 * r + k := (SX'.ru S).cdo
theorem SX.nt100 {h : PH} {G : Gh} (S : SX h G) : G.nt ≤ 100 := (SX'.te S).nt100
theorem SX.teC {h : PH} {G : Gh} (S : SX h G) : ∀ r, r < G.nt → hC h 31 r = some (G.te r) := (SX'.te S).teC
theorem SX.teT {h : PH} {G : Gh} (S : SX h G) : ∀ r, r < G.nt → hT h (G.te r) = 10 := (SX'.te S).teT
theorem SX.teo {h : PH} {G : Gh} (S : SX h G) : ∀ r, r < G.nt → G.ow (G.te r) = 400001 + r := (SX'.te S).teo
theorem SX.jN {h : PH} {G : Gh} (S : SX h G) : G.jj = false → hR h 1416 0 = none := (SX'.ju S).jN
theorem SX.jY {h : PH} {G : Gh} (S : SX h G) : G.jj = true → hR h 1416 0 = some (G.jd 0) := (SX'.ju S).jY
theorem SX.jt0 {h : PH} {G : Gh} (S : SX h G) : G.jj = true → hT h (G.jd 0) = 6 := (SX'.ju S).jt0
theorem SX.jt1 {h : PH} {G : Gh} (S : SX h G) : G.jj = true → hT h (G.jd 1) = 7 := (SX'.ju S).jt1
theorem SX.jt2 {h : PH} {G : Gh} (S : SX h G) : G.jj = true → hT h (G.jd 2) = 101 := (SX'.ju S).jt2
theorem SX.jt3 {h : PH} {G : Gh} (S : SX h G) : G.jj = true → hT h (G.jd 3) = 107 := (SX'.ju S).jt3
theorem SX.jt4 {h : PH} {G : Gh} (S : SX h G) : G.jj = true → hT h (G.jd 4) = 4 := (SX'.ju S).jt4
theorem SX.jt5 {h : PH} {G : Gh} (S : SX h G) : G.jj = true → hT h (G.jd 5) = 4 := (SX'.ju S).jt5
theorem SX.jt6 {h : PH} {G : Gh} (S : SX h G) : G.jj = true → hT h (G.jd 6) = 4 := (SX'.ju S).jt6
theorem SX.jt7 {h : PH} {G : Gh} (S : SX h G) : G.jj = true → hT h (G.jd 7) = 4 := (SX'.ju S).jt7
theorem SX.jt8 {h : PH} {G : Gh} (S : SX h G) : G.jj = true → hT h (G.jd 8) = 4 := (SX'.ju S).jt8
theorem SX.jt9 {h : PH} {G : Gh} (S : SX h G) : G.jj = true → hT h (G.jd 9) = 101 := (SX'.ju S).jt9
theorem SX.jt10 {h : PH} {G : Gh} (S : SX h G) : G.jj = true → hT h (G.jd 10) = 100 := (SX'.ju S).jt10
theorem SX.jt11 {h : PH} {G : Gh} (S : SX h G) : G.jj = true → hT h (G.jd 11) = 101 := (SX'.ju S).jt11
theorem SX.jt12 {h : PH} {G : Gh} (S : SX h G) : G.jj = true → hT h (G.jd 12) = 101 := (SX'.ju S).jt12
theorem SX.jt13 {h : PH} {G : Gh} (S : SX h G) : G.jj = true → hT h (G.jd 13) = 101 := (SX'.ju S).jt13
theorem SX.jt14 {h : PH} {G : Gh} (S : SX h G) : G.jj = true → hT h (G.jd 14) = 101 := (SX'.ju S).jt14
theorem SX.jt15 {h : PH} {G : Gh} (S : SX h G) : G.jj = true → hT h (G.jd 15) = 101 := (SX'.ju S).jt15
theorem SX.jt16 {h : PH} {G : Gh} (S : SX h G) : G.jj = true → hT h (G.jd 16) = 101 := (SX'.ju S).jt16
theorem SX.jt17 {h : PH} {G : Gh} (S : SX h G) : G.jj = true → hT h (G.jd 17) = 100 := (SX'.ju S).jt17
theorem SX.jt18 {h : PH} {G : Gh} (S : SX h G) : G.jj = true → hT h (G.jd 18) = 101 := (SX'.ju S).jt18
theorem SX.jt19 {h : PH} {G : Gh} (S : SX h G) : G.jj = true → hT h (G.jd 19) = 101 := (SX'.ju S).jt19
theorem SX.jt20 {h : PH} {G : Gh} (S : SX h G) : G.jj = true → hT h (G.jd 20) = 102 := (SX'.ju S).jt20
theorem SX.jn2 {h : PH} {G : Gh} (S : SX h G) : G.jj = true → hN h (G.jd 2) = 8 := (SX'.ju S).jn2
theorem SX.jn3 {h : PH} {G : Gh} (S : SX h G) : G.jj = true → hN h (G.jd 3) = 24 := (SX'.ju S).jn3
theorem SX.jn9 {h : PH} {G : Gh} (S : SX h G) : G.jj = true → hN h (G.jd 9) = 600 := (SX'.ju S).jn9
theorem SX.jn10 {h : PH} {G : Gh} (S : SX h G) : G.jj = true → hN h (G.jd 10) = 600 := (SX'.ju S).jn10
theorem SX.jn11 {h : PH} {G : Gh} (S : SX h G) : G.jj = true → hN h (G.jd 11) = 600 := (SX'.ju S).jn11
theorem SX.jn12 {h : PH} {G : Gh} (S : SX h G) : G.jj = true → hN h (G.jd 12) = 600 := (SX'.ju S).jn12
theorem SX.jn13 {h : PH} {G : Gh} (S : SX h G) : G.jj = true → hN h (G.jd 13) = 600 := (SX'.ju S).jn13
theorem SX.jn14 {h : PH} {G : Gh} (S : SX h G) : G.jj = true → hN h (G.jd 14) = 30 := (SX'.ju S).jn14
theorem SX.jn18 {h : PH} {G : Gh} (S : SX h G) : G.jj = true → hN h (G.jd 18) = 4 := (SX'.ju S).jn18
theorem SX.jn19 {h : PH} {G : Gh} (S : SX h G) : G.jj = true → hN h (G.jd 19) = 20 := (SX'.ju S).jn19
theorem SX.jn20 {h : PH} {G : Gh} (S : SX h G) : G.jj = true → hN h (G.jd 20) = 40 := (SX'.ju S).jn20
theorem SX.jr640 {h : PH} {G : Gh} (S : SX h G) : G.jj = true → hR h 640 (G.jd 0) = some 5 := (SX'.ju S).jr640
theorem SX.jr641 {h : PH} {G : Gh} (S : SX h G) : G.jj = true → hR h 641 (G.jd 0) = some (G.jd 1) := (SX'.ju S).jr641
theorem SX.jr768 {h : PH} {G : Gh} (S : SX h G) : G.jj = true → hR h 768 (G.jd 1) = some 5 := (SX'.ju S).jr768
theorem SX.jr769 {h : PH} {G : Gh} (S : SX h G) : G.jj = true → hR h 769 (G.jd 1) = some (G.jd 2) := (SX'.ju S).jr769
theorem SX.jr770 {h : PH} {G : Gh} (S : SX h G) : G.jj = true → hR h 770 (G.jd 1) = some (G.jd 3) := (SX'.ju S).jr770
theorem SX.jr771 {h : PH} {G : Gh} (S : SX h G) : G.jj = true → hR h 771 (G.jd 1) = some (G.jd 4) := (SX'.ju S).jr771
theorem SX.jr772 {h : PH} {G : Gh} (S : SX h G) : G.jj = true → hR h 772 (G.jd 1) = some (G.jd 5) := (SX'.ju S).jr772
theorem SX.jr773 {h : PH} {G : Gh} (S : SX h G) : G.jj = true → hR h 773 (G.jd 1) = some (G.jd 6) := (SX'.ju S).jr773
theorem SX.jr774 {h : PH} {G : Gh} (S : SX h G) : G.jj = true → hR h 774 (G.jd 1) = some (G.jd 7) := (SX'.ju S).jr774
theorem SX.jr775 {h : PH} {G : Gh} (S : SX h G) : G.jj = true → hR h 775 (G.jd 1) = some (G.jd 8) := (SX'.ju S).jr775
theorem SX.jr645 {h : PH} {G : Gh} (S : SX h G) : G.jj = true → hR h 645 (G.jd 0) = some (G.jd 9) := (SX'.ju S).jr645
theorem SX.jr646 {h : PH} {G : Gh} (S : SX h G) : G.jj = true → hR h 646 (G.jd 0) = some (G.jd 10) := (SX'.ju S).jr646
theorem SX.jr647 {h : PH} {G : Gh} (S : SX h G) : G.jj = true → hR h 647 (G.jd 0) = some (G.jd 11) := (SX'.ju S).jr647
theorem SX.jr648 {h : PH} {G : Gh} (S : SX h G) : G.jj = true → hR h 648 (G.jd 0) = some (G.jd 12) := (SX'.ju S).jr648
theorem SX.jr649 {h : PH} {G : Gh} (S : SX h G) : G.jj = true → hR h 649 (G.jd 0) = some (G.jd 13) := (SX'.ju S).jr649
theorem SX.jr650 {h : PH} {G : Gh} (S : SX h G) : G.jj = true → hR h 650 (G.jd 0) = some (G.jd 14) := (SX'.ju S).jr650
theorem SX.jr652 {h : PH} {G : Gh} (S : SX h G) : G.jj = true → hR h 652 (G.jd 0) = some (G.jd 15) := (SX'.ju S).jr652
theorem SX.jr653 {h : PH} {G : Gh} (S : SX h G) : G.jj = true → hR h 653 (G.jd 0) = some (G.jd 16) := (SX'.ju S).jr653
theorem SX.jr654 {h : PH} {G : Gh} (S : SX h G) : G.jj = true → hR h 654 (G.jd 0) = some (G.jd 17) := (SX'.ju S).jr654
theorem SX.jr656 {h : PH} {G : Gh} (S : SX h G) : G.jj = true → hR h 656 (G.jd 0) = some (G.jd 18) := (SX'.ju S).jr656
theorem SX.jr657 {h : PH} {G : Gh} (S : SX h G) : G.jj = true → hR h 657 (G.jd 0) = some (G.jd 19) := (SX'.ju S).jr657
theorem SX.jr658 {h : PH} {G : Gh} (S : SX h G) : G.jj = true → hR h 658 (G.jd 0) = some (G.jd 20) := (SX'.ju S).jr658
theorem SX.jo {h : PH} {G : Gh} (S : SX h G) : G.jj = true → ∀ i, i < 21 ∨ (100 ≤ i ∧ i < 124) → G.ow (G.jd i) = 500000 + i := (SX'.ju S).jo
theorem SX.jsC {h : PH} {G : Gh} (S : SX h G) : G.jj = true → ∀ i, i < 24 → hC h (G.jd 3) i = some (G.jd (100 + i)) := (SX'.ju S).jsC
theorem SX.jsT {h : PH} {G : Gh} (S : SX h G) : G.jj = true → ∀ i, i < 24 → hT h (G.jd (100 + i)) = 4 := (SX'.ju S).jsT
theorem SX.r0_1 {h : PH} {G : Gh} (S : SX h G) : hR h 0 1 = some G.tk := (SX'.tk S).1
theorem SX.ttk {h : PH} {G : Gh} (S : SX h G) : hT h G.tk = 100 := (SX'.tk S).2.1
theorem SX.otk {h : PH} {G : Gh} (S : SX h G) : G.ow G.tk = 100002 := (SX'.tk S).2.2
theorem SX.r0_3 {h : PH} {G : Gh} (S : SX h G) : hR h 0 3 = some G.wk := (SX'.wk S).1
theorem SX.twk {h : PH} {G : Gh} (S : SX h G) : hT h G.wk = 100 := (SX'.wk S).2.1
theorem SX.owk {h : PH} {G : Gh} (S : SX h G) : G.ow G.wk = 200002 := (SX'.wk S).2.2
theorem SX.r141_5 {h : PH} {G : Gh} (S : SX h G) : hR h 141 5 = some G.pg := (SX'.pg S).1
theorem SX.tpg {h : PH} {G : Gh} (S : SX h G) : hT h G.pg = 101 := (SX'.pg S).2.1
theorem SX.opg {h : PH} {G : Gh} (S : SX h G) : G.ow G.pg = 300104 := (SX'.pg S).2.2
theorem SX.r1281_24 {h : PH} {G : Gh} (S : SX h G) : hR h 1281 24 = some G.kd := (SX'.kd S).1
theorem SX.tkd {h : PH} {G : Gh} (S : SX h G) : hT h G.kd = 101 := (SX'.kd S).2.1
theorem SX.okd {h : PH} {G : Gh} (S : SX h G) : G.ow G.kd = 700101 := (SX'.kd S).2.2
theorem SX.r1282_24 {h : PH} {G : Gh} (S : SX h G) : hR h 1282 24 = some G.st := (SX'.st S).1
theorem SX.tst {h : PH} {G : Gh} (S : SX h G) : hT h G.st = 101 := (SX'.st S).2.1
theorem SX.ost {h : PH} {G : Gh} (S : SX h G) : G.ow G.st = 700102 := (SX'.st S).2.2
theorem SX.r1283_24 {h : PH} {G : Gh} (S : SX h G) : hR h 1283 24 = some G.vl := (SX'.vl S).1
theorem SX.tvl {h : PH} {G : Gh} (S : SX h G) : hT h G.vl = 102 := (SX'.vl S).2.1
theorem SX.ovl {h : PH} {G : Gh} (S : SX h G) : G.ow G.vl = 700103 := (SX'.vl S).2.2
theorem ne_ow {G : Gh} {a b x y : Nat} (ha : G.ow a = x) (hb : G.ow b = y) (h : x ≠ y) : a ≠ b := fun q => h (by rw [← ha, ← hb, q])
/-- a field whose references stay, once made -/
def fS (f : Nat) : Prop := f ≠ 0 ∧ f ≠ 141 ∧ f ≠ 1281 ∧ f ≠ 1282 ∧ f ≠ 1283 ∧ f ≠ 1285 ∧ f ≠ 1416 ∧ f ≠ 652 ∧ f ≠ 653 ∧ f ≠ 654
theorem lt_T {T : Nat → Nat} {Z a k : Nat} (fr : ∀ i, Z ≤ i → T i = 0) (h : T a = k) (hk : k ≠ 0) : a < Z := by
  rcases Nat.lt_or_ge a Z with q | q
  · exact q
  · rw [fr a q] at h; omega
theorem SS'.step {R C R' C' : Nat → Nat → Option Nat} {T N T' N' : Nat → Nat} {Z Z' : Nat} {ow ow' : Nat → Nat} (S : SS' R C T N Z ow) (hT' : ∀ a, a < Z → T' a = T a) (hN' : ∀ a, a < Z → N' a = N a) (ho : ∀ a, a < Z → ow' a = ow a) (hR' : ∀ f a, a < Z → fS f → R' f a = R f a) (hz : Z ≤ Z') (fr' : ∀ i, Z' ≤ i → T' i = 0) : SS' R' C' T' N' Z' ow' := by
  have l : ∀ k, k < 110 → k < Z := fun k hk => by have := S.zz; omega
  apply SS'.mk
  · exact fr'
  · have := S.zz; omega
  · exact (hT' _ (l _ (by omega))).trans S.t0
  · exact (hT' _ (l _ (by omega))).trans S.t1
  · exact (hT' _ (l _ (by omega))).trans S.t3
  · exact (hT' _ (l _ (by omega))).trans S.t5
  · exact (hT' _ (l _ (by omega))).trans S.t6
  · exact (hT' _ (l _ (by omega))).trans S.t8
  · exact (hT' _ (l _ (by omega))).trans S.t10
  · exact (hT' _ (l _ (by omega))).trans S.t12
  · exact (hT' _ (l _ (by omega))).trans S.t14
  · exact (hT' _ (l _ (by omega))).trans S.t23
  · exact (hT' _ (l _ (by omega))).trans S.t24
  · exact (hT' _ (l _ (by omega))).trans S.t7
  · exact (hT' _ (l _ (by omega))).trans S.t9
  · exact (hT' _ (l _ (by omega))).trans S.t11
  · exact (hT' _ (l _ (by omega))).trans S.t13
  · exact (hT' _ (l _ (by omega))).trans S.t15
  · exact (hT' _ (l _ (by omega))).trans S.t16
  · exact (hT' _ (l _ (by omega))).trans S.t17
  · exact (hT' _ (l _ (by omega))).trans S.t18
  · exact (hT' _ (l _ (by omega))).trans S.t19
  · exact (hT' _ (l _ (by omega))).trans S.t20
  · exact (hT' _ (l _ (by omega))).trans S.t21
  · exact (hT' _ (l _ (by omega))).trans S.t25
  · exact (hT' _ (l _ (by omega))).trans S.t29
  · exact (hT' _ (l _ (by omega))).trans S.t30
  · exact (hT' _ (l _ (by omega))).trans S.t31
  · exact (hN' _ (l _ (by omega))).trans S.n7
  · exact (hN' _ (l _ (by omega))).trans S.n9
  · exact (hN' _ (l _ (by omega))).trans S.n11
  · exact (hN' _ (l _ (by omega))).trans S.n13
  · exact (hN' _ (l _ (by omega))).trans S.n15
  · exact (hN' _ (l _ (by omega))).trans S.n16
  · exact (hN' _ (l _ (by omega))).trans S.n17
  · exact (hN' _ (l _ (by omega))).trans S.n18
  · exact (hN' _ (l _ (by omega))).trans S.n19
  · exact (hN' _ (l _ (by omega))).trans S.n20
  · exact (hN' _ (l _ (by omega))).trans S.n21
  · exact (hN' _ (l _ (by omega))).trans S.n25
  · exact (hN' _ (l _ (by omega))).trans S.n29
  · exact (hN' _ (l _ (by omega))).trans S.n30
  · exact (hN' _ (l _ (by omega))).trans S.n31
  · exact (hR' _ _ (l _ (by omega)) (by unfold fS; omega)).trans S.r1408_0
  · exact (hR' _ _ (l _ (by omega)) (by unfold fS; omega)).trans S.r1409_0
  · exact (hR' _ _ (l _ (by omega)) (by unfold fS; omega)).trans S.r1410_0
  · exact (hR' _ _ (l _ (by omega)) (by unfold fS; omega)).trans S.r1411_0
  · exact (hR' _ _ (l _ (by omega)) (by unfold fS; omega)).trans S.r1412_0
  · exact (hR' _ _ (l _ (by omega)) (by unfold fS; omega)).trans S.r128_5
  · exact (hR' _ _ (l _ (by omega)) (by unfold fS; omega)).trans S.r129_5
  · exact (hR' _ _ (l _ (by omega)) (by unfold fS; omega)).trans S.r130_5
  · exact (hR' _ _ (l _ (by omega)) (by unfold fS; omega)).trans S.r131_5
  · exact (hR' _ _ (l _ (by omega)) (by unfold fS; omega)).trans S.r132_5
  · exact (hR' _ _ (l _ (by omega)) (by unfold fS; omega)).trans S.r133_5
  · exact (hR' _ _ (l _ (by omega)) (by unfold fS; omega)).trans S.r134_5
  · exact (hR' _ _ (l _ (by omega)) (by unfold fS; omega)).trans S.r135_5
  · exact (hR' _ _ (l _ (by omega)) (by unfold fS; omega)).trans S.r136_5
  · exact (hR' _ _ (l _ (by omega)) (by unfold fS; omega)).trans S.r137_5
  · exact (hR' _ _ (l _ (by omega)) (by unfold fS; omega)).trans S.r138_5
  · exact (hR' _ _ (l _ (by omega)) (by unfold fS; omega)).trans S.r512_23
  · exact (hR' _ _ (l _ (by omega)) (by unfold fS; omega)).trans S.r513_23
  · exact (hR' _ _ (l _ (by omega)) (by unfold fS; omega)).trans S.r514_23
  · exact (hR' _ _ (l _ (by omega)) (by unfold fS; omega)).trans S.r515_23
  · exact (hR' _ _ (l _ (by omega)) (by unfold fS; omega)).trans S.r896_6
  · exact (hR' _ _ (l _ (by omega)) (by unfold fS; omega)).trans S.r896_8
  · exact (hR' _ _ (l _ (by omega)) (by unfold fS; omega)).trans S.r896_10
  · exact (hR' _ _ (l _ (by omega)) (by unfold fS; omega)).trans S.r896_12
  · exact (hR' _ _ (l _ (by omega)) (by unfold fS; omega)).trans S.r896_14
  · exact (hR' _ _ (l _ (by omega)) (by unfold fS; omega)).trans S.r1280_24
  · exact (ho _ (l _ (by omega))).trans S.o0
  · exact (ho _ (l _ (by omega))).trans S.o1
  · exact (ho _ (l _ (by omega))).trans S.o3
  · exact (ho _ (l _ (by omega))).trans S.o31
  · exact (ho _ (l _ (by omega))).trans S.o5
  · exact (ho _ (l _ (by omega))).trans S.o6
  · exact (ho _ (l _ (by omega))).trans S.o7
  · exact (ho _ (l _ (by omega))).trans S.o8
  · exact (ho _ (l _ (by omega))).trans S.o9
  · exact (ho _ (l _ (by omega))).trans S.o10
  · exact (ho _ (l _ (by omega))).trans S.o11
  · exact (ho _ (l _ (by omega))).trans S.o12
  · exact (ho _ (l _ (by omega))).trans S.o13
  · exact (ho _ (l _ (by omega))).trans S.o14
  · exact (ho _ (l _ (by omega))).trans S.o15
  · exact (ho _ (l _ (by omega))).trans S.o16
  · exact (ho _ (l _ (by omega))).trans S.o17
  · exact (ho _ (l _ (by omega))).trans S.o18
  · exact (ho _ (l _ (by omega))).trans S.o19
  · exact (ho _ (l _ (by omega))).trans S.o20
  · exact (ho _ (l _ (by omega))).trans S.o21
  · exact (ho _ (l _ (by omega))).trans S.o23
  · exact (ho _ (l _ (by omega))).trans S.o24
  · exact (ho _ (l _ (by omega))).trans S.o25
  · exact (ho _ (l _ (by omega))).trans S.o29
  · exact (ho _ (l _ (by omega))).trans S.o30
theorem P6.step {R R' : Nat → Nat → Option Nat} {T T' : Nat → Nat} {Z : Nat} {ow ow' : Nat → Nat} {f a p t o : Nat} (S : P6 R T ow f a p t o) (ht : t ≠ 0) (fr : ∀ i, Z ≤ i → T i = 0) (hT' : ∀ a, a < Z → T' a = T a) (ho : ∀ a, a < Z → ow' a = ow a) (hR' : R' f a = R f a) : P6 R' T' ow' f a p t o := ⟨hR'.trans S.1, (hT' _ (lt_T fr S.2.1 ht)).trans S.2.1, (ho _ (lt_T fr S.2.1 ht)).trans S.2.2⟩
theorem RU'.step {R C R' C' : Nat → Nat → Option Nat} {T N T' N' : Nat → Nat} {Z Z' : Nat} {ow ow' : Nat → Nat} {rl ca hd : Nat → Nat} {cd : Nat → Nat → Nat} {nr : Nat} {nc : Nat → Nat} (S : RU' R C T N Z ow rl ca hd cd nr nc) (fr : ∀ i, Z ≤ i → T i = 0) (zz : 110 ≤ Z) (hT' : ∀ a, a < Z → T' a = T a) (hN' : ∀ a, a < Z → N' a = N a) (ho : ∀ a, a < Z → ow' a = ow a) (hR' : ∀ f a, a < Z → fS f → R' f a = R f a) (hC' : ∀ a i, a < Z → T a = 105 ∨ a = 19 → C' a i = C a i) : RU' R' C' T' N' Z' ow' rl ca hd cd nr nc := by
  have lr : ∀ r, r < nr → rl r < Z := fun r hr => lt_T fr (S.rlT r hr) (by omega)
  have lc : ∀ r, r < nr → ca r < Z := fun r hr => lt_T fr (S.caT r hr) (by omega)
  have lh : ∀ r, r < nr → hd r < Z := fun r hr => lt_T fr (S.hdT r hr) (by omega)
  have ld : ∀ r, r < nr → ∀ k, k < nc r → cd r k < Z := fun r hr k hk => lt_T fr (S.cdT r hr k hk) (by omega)
  apply RU'.mk
  · exact S.nr30
  · exact fun r hr => (hC' _ _ (by omega) (.inr rfl)).trans (S.rlC r hr)
  · exact fun r hr => (hC' _ _ (by omega) (.inr rfl)).trans (S.rlN r hr)
  · exact fun r hr => (hT' _ (lr r hr)).trans (S.rlT r hr)
  · exact fun r hr => (ho _ (lr r hr)).trans (S.rlo r hr)
  · exact fun r hr => (hR' _ _ (lr r hr) (by unfold fS; omega)).trans (S.caR r hr)
  · exact fun r hr => (hT' _ (lc r hr)).trans (S.caT r hr)
  · exact fun r hr => (hN' _ (lc r hr)).trans (S.caN r hr)
  · exact fun r hr => (ho _ (lc r hr)).trans (S.cao r hr)
  · exact fun r hr => (hR' _ _ (lr r hr) (by unfold fS; omega)).trans (S.hdR r hr)
  · exact fun r hr => (hT' _ (lh r hr)).trans (S.hdT r hr)
  · exact fun r hr => (ho _ (lh r hr)).trans (S.hdo r hr)
  · exact S.nc6
  · exact fun r hr k hk => (hC' _ _ (lc r hr) (.inl (S.caT r hr))).trans (S.cdC r hr k hk)
  · exact fun r hr k hk => (hC' _ _ (lc r hr) (.inl (S.caT r hr))).trans (S.cdN r hr k hk)
  · exact fun r hr k hk => (hT' _ (ld r hr k hk)).trans (S.cdT r hr k hk)
  · exact fun r hr k hk => (ho _ (ld r hr k hk)).trans (S.cdo r hr k hk)
theorem TE'.step {R C R' C' : Nat → Nat → Option Nat} {T N T' N' : Nat → Nat} {Z Z' : Nat} {ow ow' : Nat → Nat} {te : Nat → Nat} {nt : Nat} (S : TE' R C T N Z ow te nt) (fr : ∀ i, Z ≤ i → T i = 0) (hT' : ∀ a, a < Z → T' a = T a) (hN' : ∀ a, a < Z → N' a = N a) (ho : ∀ a, a < Z → ow' a = ow a) (hR' : ∀ f a, a < Z → fS f → R' f a = R f a) (hC' : ∀ i, i < nt → C' 31 i = C 31 i) : TE' R' C' T' N' Z' ow' te nt := by
  have l : ∀ r, r < nt → te r < Z := fun r hr => lt_T fr (S.teT r hr) (by omega)
  apply TE'.mk
  · exact S.nt100
  · exact fun r hr => (hC' _ hr).trans (S.teC r hr)
  · exact fun r hr => (hT' _ (l r hr)).trans (S.teT r hr)
  · exact fun r hr => (ho _ (l r hr)).trans (S.teo r hr)
theorem JU'.step {R C R' C' : Nat → Nat → Option Nat} {T N T' N' : Nat → Nat} {Z Z' : Nat} {ow ow' : Nat → Nat} {jj : Bool} {jd : Nat → Nat} (S : JU' R C T N Z ow jj jd) (fr : ∀ i, Z ≤ i → T i = 0) (hT' : ∀ a, a < Z → T' a = T a) (hN' : ∀ a, a < Z → N' a = N a) (ho : ∀ a, a < Z → ow' a = ow a) (hR' : ∀ f a, a < Z → fS f → R' f a = R f a) (h16 : R' 1416 0 = R 1416 0) (hk : ∀ f, f = 652 ∨ f = 653 ∨ f = 654 → ∀ a, a < Z → R' f a = R f a) (hC' : ∀ a i, a < Z → T a = 107 → C' a i = C a i) : JU' R' C' T' N' Z' ow' jj jd := by
  have ls : jj = true → ∀ i, i < 24 → jd (100 + i) < Z := fun J i hi => lt_T fr (S.jsT J i hi) (by omega)
  have l0 : jj = true → jd 0 < Z := fun J => lt_T fr (S.jt0 J) (by omega)
  have l1 : jj = true → jd 1 < Z := fun J => lt_T fr (S.jt1 J) (by omega)
  have l2 : jj = true → jd 2 < Z := fun J => lt_T fr (S.jt2 J) (by omega)
  have l3 : jj = true → jd 3 < Z := fun J => lt_T fr (S.jt3 J) (by omega)
  have l4 : jj = true → jd 4 < Z := fun J => lt_T fr (S.jt4 J) (by omega)
  have l5 : jj = true → jd 5 < Z := fun J => lt_T fr (S.jt5 J) (by omega)
  have l6 : jj = true → jd 6 < Z := fun J => lt_T fr (S.jt6 J) (by omega)
  have l7 : jj = true → jd 7 < Z := fun J => lt_T fr (S.jt7 J) (by omega)
  have l8 : jj = true → jd 8 < Z := fun J => lt_T fr (S.jt8 J) (by omega)
  have l9 : jj = true → jd 9 < Z := fun J => lt_T fr (S.jt9 J) (by omega)
  have l10 : jj = true → jd 10 < Z := fun J => lt_T fr (S.jt10 J) (by omega)
  have l11 : jj = true → jd 11 < Z := fun J => lt_T fr (S.jt11 J) (by omega)
  have l12 : jj = true → jd 12 < Z := fun J => lt_T fr (S.jt12 J) (by omega)
  have l13 : jj = true → jd 13 < Z := fun J => lt_T fr (S.jt13 J) (by omega)
  have l14 : jj = true → jd 14 < Z := fun J => lt_T fr (S.jt14 J) (by omega)
  have l15 : jj = true → jd 15 < Z := fun J => lt_T fr (S.jt15 J) (by omega)
  have l16 : jj = true → jd 16 < Z := fun J => lt_T fr (S.jt16 J) (by omega)
  have l17 : jj = true → jd 17 < Z := fun J => lt_T fr (S.jt17 J) (by omega)
  have l18 : jj = true → jd 18 < Z := fun J => lt_T fr (S.jt18 J) (by omega)
  have l19 : jj = true → jd 19 < Z := fun J => lt_T fr (S.jt19 J) (by omega)
  have l20 : jj = true → jd 20 < Z := fun J => lt_T fr (S.jt20 J) (by omega)
  apply JU'.mk
  · exact fun J => h16.trans (S.jN J)
  · exact fun J => h16.trans (S.jY J)
  · exact fun J => (hT' _ (l0 J)).trans (S.jt0 J)
  · exact fun J => (hT' _ (l1 J)).trans (S.jt1 J)
  · exact fun J => (hT' _ (l2 J)).trans (S.jt2 J)
  · exact fun J => (hT' _ (l3 J)).trans (S.jt3 J)
  · exact fun J => (hT' _ (l4 J)).trans (S.jt4 J)
  · exact fun J => (hT' _ (l5 J)).trans (S.jt5 J)
  · exact fun J => (hT' _ (l6 J)).trans (S.jt6 J)
  · exact fun J => (hT' _ (l7 J)).trans (S.jt7 J)
  · exact fun J => (hT' _ (l8 J)).trans (S.jt8 J)
  · exact fun J => (hT' _ (l9 J)).trans (S.jt9 J)
  · exact fun J => (hT' _ (l10 J)).trans (S.jt10 J)
  · exact fun J => (hT' _ (l11 J)).trans (S.jt11 J)
  · exact fun J => (hT' _ (l12 J)).trans (S.jt12 J)
  · exact fun J => (hT' _ (l13 J)).trans (S.jt13 J)
  · exact fun J => (hT' _ (l14 J)).trans (S.jt14 J)
  · exact fun J => (hT' _ (l15 J)).trans (S.jt15 J)
  · exact fun J => (hT' _ (l16 J)).trans (S.jt16 J)
  · exact fun J => (hT' _ (l17 J)).trans (S.jt17 J)
  · exact fun J => (hT' _ (l18 J)).trans (S.jt18 J)
  · exact fun J => (hT' _ (l19 J)).trans (S.jt19 J)
  · exact fun J => (hT' _ (l20 J)).trans (S.jt20 J)
  · exact fun J => (hN' _ (l2 J)).trans (S.jn2 J)
  · exact fun J => (hN' _ (l3 J)).trans (S.jn3 J)
  · exact fun J => (hN' _ (l9 J)).trans (S.jn9 J)
  · exact fun J => (hN' _ (l10 J)).trans (S.jn10 J)
  · exact fun J => (hN' _ (l11 J)).trans (S.jn11 J)
  · exact fun J => (hN' _ (l12 J)).trans (S.jn12 J)
  · exact fun J => (hN' _ (l13 J)).trans (S.jn13 J)
  · exact fun J => (hN' _ (l14 J)).trans (S.jn14 J)
  · exact fun J => (hN' _ (l18 J)).trans (S.jn18 J)
  · exact fun J => (hN' _ (l19 J)).trans (S.jn19 J)
  · exact fun J => (hN' _ (l20 J)).trans (S.jn20 J)
  · exact fun J => (hR' _ _ (l0 J) (by unfold fS; omega)).trans (S.jr640 J)
  · exact fun J => (hR' _ _ (l0 J) (by unfold fS; omega)).trans (S.jr641 J)
  · exact fun J => (hR' _ _ (l1 J) (by unfold fS; omega)).trans (S.jr768 J)
  · exact fun J => (hR' _ _ (l1 J) (by unfold fS; omega)).trans (S.jr769 J)
  · exact fun J => (hR' _ _ (l1 J) (by unfold fS; omega)).trans (S.jr770 J)
  · exact fun J => (hR' _ _ (l1 J) (by unfold fS; omega)).trans (S.jr771 J)
  · exact fun J => (hR' _ _ (l1 J) (by unfold fS; omega)).trans (S.jr772 J)
  · exact fun J => (hR' _ _ (l1 J) (by unfold fS; omega)).trans (S.jr773 J)
  · exact fun J => (hR' _ _ (l1 J) (by unfold fS; omega)).trans (S.jr774 J)
  · exact fun J => (hR' _ _ (l1 J) (by unfold fS; omega)).trans (S.jr775 J)
  · exact fun J => (hR' _ _ (l0 J) (by unfold fS; omega)).trans (S.jr645 J)
  · exact fun J => (hR' _ _ (l0 J) (by unfold fS; omega)).trans (S.jr646 J)
  · exact fun J => (hR' _ _ (l0 J) (by unfold fS; omega)).trans (S.jr647 J)
  · exact fun J => (hR' _ _ (l0 J) (by unfold fS; omega)).trans (S.jr648 J)
  · exact fun J => (hR' _ _ (l0 J) (by unfold fS; omega)).trans (S.jr649 J)
  · exact fun J => (hR' _ _ (l0 J) (by unfold fS; omega)).trans (S.jr650 J)
  · exact fun J => (hk 652 (by omega) _ (l0 J)).trans (S.jr652 J)
  · exact fun J => (hk 653 (by omega) _ (l0 J)).trans (S.jr653 J)
  · exact fun J => (hk 654 (by omega) _ (l0 J)).trans (S.jr654 J)
  · exact fun J => (hR' _ _ (l0 J) (by unfold fS; omega)).trans (S.jr656 J)
  · exact fun J => (hR' _ _ (l0 J) (by unfold fS; omega)).trans (S.jr657 J)
  · exact fun J => (hR' _ _ (l0 J) (by unfold fS; omega)).trans (S.jr658 J)
  · intro J i hi
    have li : jd i < Z := by
      rcases hi with hi | hi
      · rcases (show i = 0 ∨ i = 1 ∨ i = 2 ∨ i = 3 ∨ i = 4 ∨ i = 5 ∨ i = 6 ∨ i = 7 ∨ i = 8 ∨ i = 9 ∨ i = 10 ∨ i = 11 ∨ i = 12 ∨ i = 13 ∨ i = 14 ∨ i = 15 ∨ i = 16 ∨ i = 17 ∨ i = 18 ∨ i = 19 ∨ i = 20 by omega) with q | q | q | q | q | q | q | q | q | q | q | q | q | q | q | q | q | q | q | q | q <;> subst q
        · exact l0 J
        · exact l1 J
        · exact l2 J
        · exact l3 J
        · exact l4 J
        · exact l5 J
        · exact l6 J
        · exact l7 J
        · exact l8 J
        · exact l9 J
        · exact l10 J
        · exact l11 J
        · exact l12 J
        · exact l13 J
        · exact l14 J
        · exact l15 J
        · exact l16 J
        · exact l17 J
        · exact l18 J
        · exact l19 J
        · exact l20 J
      · have := ls J (i - 100) (by omega)
        rw [show 100 + (i - 100) = i by omega] at this
        exact this
    exact (ho _ li).trans (S.jo J i hi)
  · exact fun J i hi => (hC' _ _ (l3 J) (S.jt3 J)).trans (S.jsC J i hi)
  · exact fun J i hi => (hT' _ (ls J i hi)).trans (S.jsT J i hi)
